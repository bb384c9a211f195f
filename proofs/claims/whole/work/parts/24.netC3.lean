def upn (f : Nat → Nat) (k v : Nat) : Nat → Nat := fun j => if j = k then v else f j
theorem upn_s (f : Nat → Nat) (k v : Nat) : upn f k v k = v := if_pos rfl
theorem upn_n (f : Nat → Nat) {k j : Nat} (v : Nat) (h : j ≠ k) : upn f k v j = f j := if_neg h
theorem upd_nI {g : Nat → Int32} {f : Nat → Nat} {n v : Nat} (h : ∀ s, s < n → g s = nI (f s)) : ∀ s, s < n + 1 → upd g n (nI v) s = nI (upn f n v s) := by
  intro s hs
  by_cases e : s = n
  · subst e; rw [upd_s, upn_s]
  · rw [upd_n _ _ e, upn_n _ _ e]; exact h s (by omega)
theorem upd_up {g f : Nat → Int32} {n : Nat} {v : Int32} (h : ∀ s, s < n → g s = f s) : ∀ s, s < n + 1 → upd g n v s = upd f n v s := by
  intro s hs
  by_cases e : s = n
  · subst e; rw [upd_s, upd_s]
  · rw [upd_n _ _ e, upd_n _ _ e]; exact h s (by omega)
def dsm (f : Nat → Nat) : Nat → Nat
  | 0 => 0
  | n + 1 => dsm f n + (if f n < 1000000 then f n else 0)
theorem cNF_of {I : hI} {ns nl : Nat} {pl fa fb sl : Nat → Nat} {rs : Nat → Int32} {g1 g2 g3 : Nat → Int32} (hN : cN I 2 ns nl pl fa fb sl rs) (e1 : ∀ s, s < ns → g1 s = enc (dist fa fb sl nl s)) (e2 : ∀ s, s < ns → g2 s = lsI fa fb sl (dist fa fb sl nl) nl s) (e3 : ∀ s, s < ns → g3 s = lvl fa fb sl rs nl s) : cNF (upA (upA (upA I 8 g1) 9 g2) 10 g3) 2 ns nl pl fa fb sl rs := ⟨hN, e1, e2, e3⟩
theorem cNF_of29 {I : hI} {ns nl : Nat} {pl fa fb sl : Nat → Nat} {rs : Nat → Int32} {g1 g2 g3 : Nat → Int32} (hN : cN I 29 ns nl pl fa fb sl rs) (e1 : ∀ s, s < ns → g1 s = enc (dist fa fb sl nl s)) (e2 : ∀ s, s < ns → g2 s = lsI fa fb sl (dist fa fb sl nl) nl s) (e3 : ∀ s, s < ns → g3 s = lvl fa fb sl rs nl s) : cNF (upA (upA (upA I 35 g1) 36 g2) 37 g3) 29 ns nl pl fa fb sl rs := ⟨hN, e1, e2, e3⟩
theorem netW_st {ns nl pv : Nat} {pl fa fb sl : Nat → Nat} {rs : Nat → Int32} (hw : netW ns nl pl fa fb sl rs) (hn : ns < 6) (hp : pv ≤ 99) : netW (ns + 1) nl (upn pl ns pv) fa fb sl rs := by
  obtain ⟨hn6, hl12, hW, hp99, hr99⟩ := hw
  refine ⟨by omega, hl12, fun k hk => ?_, fun s hs => ?_, hr99⟩
  · obtain ⟨w1, w2, w3, w4, w5⟩ := hW k hk; exact ⟨by omega, by omega, w3, w4, w5⟩
  · by_cases e : s = ns
    · subst e; rw [upn_s]; exact hp
    · rw [upn_n _ _ e]; exact hp99 s (by omega)
theorem netW_leg {ns nl a b w : Nat} {pl fa fb sl : Nat → Nat} {rs : Nat → Int32} {r : Int32} (hw : netW ns nl pl fa fb sl rs) (hn : nl < 12) (ha : a < ns) (hb : b < ns) (hab : a ≠ b) (h1 : 1 ≤ w) (h9 : w ≤ 9) (hr1 : -99 ≤ r.toInt) (hr2 : r.toInt ≤ 99) : netW ns (nl + 1) pl (upn fa nl a) (upn fb nl b) (upn sl nl w) (upd rs nl r) := by
  obtain ⟨hn6, hl12, hW, hp99, hr99⟩ := hw
  refine ⟨hn6, by omega, fun k hk => ?_, hp99, fun k hk => ?_⟩
  · by_cases e : k = nl
    · subst e; rw [upn_s, upn_s, upn_s]; exact ⟨ha, hb, hab, h1, h9⟩
    · rw [upn_n _ _ e, upn_n _ _ e, upn_n _ _ e]; exact hW k (by omega)
  · by_cases e : k = nl
    · subst e; rw [upd_s]; exact ⟨hr1, hr2⟩
    · rw [upd_n _ _ e]; exact hr99 k (by omega)
theorem c_hasLevel {l : Launch} {dp : Nat} {ns : Nat} {f : Nat → Nat} {x : Int32} {I : hI} {J : hJ} {lt tx : Option Nat} {Q : hQ} (hns : I 2 0 = nI ns) (hn6 : ns ≤ 6) (hf : ∀ t, t < ns → I 8 t = enc (f t)) (h1 : ∀ k, k < ns → x = nI k → f k < 1000000 → Q (some (.int (nI 1))) hSH I J (hRR lt tx)) (h0 : (∀ k, k < ns → x = nI k → ¬ f k < 1000000) → Q (some (.int (nI 0))) hSH I J (hRR lt tx)) : HC l mX5_hasLevel dp 0 0 [.ref 2, .int x] hSH I J (hRR lt tx) Q := by
  refine HC.of (by decide +kernel) rfl (Nat.le_of_ble_eq_true rfl) ?_
  show HV l mX5_hasLevel dp 0 0 0 [some (.ref 2), some (.int x)] [] hSH I J (hRR lt tx) Q
  refine h_iload_n dX5_hasLevel_0 rfl ?_
  refine h_iflt (tgt := 26) dX5_hasLevel_1 rfl (fun c_1 => ?_) (fun c_1 => ?_)
  · refine h_iconst dX5_hasLevel_26 ci_0 ?_
    refine h_zreturn dX5_hasLevel_27 rfl (by decide) ?_
    refine h0 (fun j hj e => ?_)
    first
      | (rw [e] at c_1; exact absurd c_1 (nI_pos (by omega)))
      | (rw [e] at c_9; exact absurd c_9 (nI_ge hj (by omega)))
      | (rw [nI_eq (by omega) (by omega)] at e; subst e; exact enc_m1 c_19)
  · refine h_iload_n dX5_hasLevel_4 rfl ?_
    refine h_aload_n dX5_hasLevel_5 rfl ?_
    refine h_getI dX5_hasLevel_6 f_X5_9_5 rfl hns ?_
    refine h_icmpge (tgt := 26) dX5_hasLevel_9 rfl (fun c_9 => ?_) (fun c_9 => ?_)
    · refine h_iconst dX5_hasLevel_26 ci_0 ?_
      refine h_zreturn dX5_hasLevel_27 rfl (by decide) ?_
      refine h0 (fun j hj e => ?_)
      first
        | (rw [e] at c_1; exact absurd c_1 (nI_pos (by omega)))
        | (rw [e] at c_9; exact absurd c_9 (nI_ge hj (by omega)))
        | (rw [nI_eq (by omega) (by omega)] at e; subst e; exact enc_m1 c_19)
    · obtain ⟨k, hk, rfl⟩ : ∃ k, k < ns ∧ x = nI k := (pk_ix x (n := ns) (by omega)).elim (fun q => absurd q c_1) (fun q => q.elim (fun q => absurd q c_9) id)
      refine h_aload_n dX5_hasLevel_12 rfl ?_
      refine h_getR dX5_hasLevel_13 f_X5_34_5 rfl rfl ?_
      refine h_iload_n dX5_hasLevel_16 rfl ?_
      refine h_ialdN (j := k) dX5_hasLevel_17 rfl rfl (by omega) rfl (hf _ (by omega)) ?_
      refine h_iconst dX5_hasLevel_18 ci_m1 ?_
      refine h_icmpeq (tgt := 26) dX5_hasLevel_19 rfl (fun c_19 => ?_) (fun c_19 => ?_)
      · refine h_iconst dX5_hasLevel_26 ci_0 ?_
        refine h_zreturn dX5_hasLevel_27 rfl (by decide) ?_
        refine h0 (fun j hj e => ?_)
        first
          | (rw [e] at c_1; exact absurd c_1 (nI_pos (by omega)))
          | (rw [e] at c_9; exact absurd c_9 (nI_ge hj (by omega)))
          | (rw [nI_eq (by omega) (by omega)] at e; subst e; exact enc_m1 c_19)
      · refine h_iconst dX5_hasLevel_22 ci_1 ?_
        refine h_goto (tgt := 27) dX5_hasLevel_23 rfl ?_
        refine h_zreturn dX5_hasLevel_27 rfl (by decide) ?_
        exact h1 k hk rfl (enc_n c_19)
theorem c_hasLevelN {l : Launch} {dp : Nat} {ns s : Nat} {f : Nat → Nat} {I : hI} {J : hJ} {lt tx : Option Nat} {Q : hQ} (hns : I 2 0 = nI ns) (hn6 : ns ≤ 6) (hf : ∀ t, t < ns → I 8 t = enc (f t)) (hs : s < ns) (h1 : f s < 1000000 → Q (some (.int (nI 1))) hSH I J (hRR lt tx)) (h0 : ¬ f s < 1000000 → Q (some (.int (nI 0))) hSH I J (hRR lt tx)) : HC l mX5_hasLevel dp 0 0 [.ref 2, .int (nI s)] hSH I J (hRR lt tx) Q :=
  c_hasLevel hns hn6 hf (fun k hk e h => by rw [nI_eq (by omega) (by omega)] at e; subst e; exact h1 h) (fun h => h0 (h s hs rfl))
theorem c_addStation {l : Launch} {dp : Nat} {ns nl : Nat} {pl fa fb sl : Nat → Nat} {rs : Nat → Int32} {I : hI} {J : hJ} {lt tx : Option Nat} {pv : Nat} {Q : hQ} (hN : cN I 2 ns nl pl fa fb sl rs) (hw : netW ns nl pl fa fb sl rs) (h6 : ns < 6) (hpv : pv ≤ 99) (hQ : ∀ I', cNF I' 2 (ns + 1) nl (upn pl ns pv) fa fb sl rs → (∀ a, a < 2 ∨ 10 < a → I' a = I a) → Q (some (.int (nI ns))) hSH I' J (hRR lt tx)) : HC l mX5_addStation (dp + 3) 0 0 [.ref 2, .int (nI pv)] hSH I J (hRR lt tx) Q := by
  refine HC.of (by decide +kernel) rfl (Nat.le_of_ble_eq_true rfl) ?_
  show HV l mX5_addStation (dp + 3) 0 0 0 [some (.ref 2), some (.int (nI pv))] [] hSH I J (hRR lt tx) Q
  obtain ⟨hns, hnl, hpl, hlg⟩ := id hN
  obtain ⟨hn6, hl12, hW, hp99, hr99⟩ := id hw
  refine h_aload_n dX5_addStation_0 rfl ?_
  refine h_getR dX5_addStation_1 f_X5_15_5 rfl rfl ?_
  refine h_aload_n dX5_addStation_4 rfl ?_
  refine h_getI dX5_addStation_5 f_X5_9_5 rfl hns ?_
  refine h_iload_n dX5_addStation_8 rfl ?_
  refine h_iastN (j := ns) dX5_addStation_9 rfl rfl (by omega) rfl ?_
  refine h_aload_n dX5_addStation_10 rfl ?_
  refine h_dup dX5_addStation_11 rfl ?_
  refine h_getI dX5_addStation_12 f_X5_9_5 rfl hns ?_
  refine h_iconst dX5_addStation_15 ci_1 ?_
  refine h_iaddN dX5_addStation_16 ?_
  refine h_putI dX5_addStation_17 f_X5_9_5 p_X5_5_0 (fun h => by cases h) rfl ?_
  refine h_aload_n dX5_addStation_20 rfl ?_
  refine h_cV0 dX5_addStation_21 k2_161 oVX5_carry rfl rfl ?_
  have hN2 : cN (upI (upI I 3 ns (nI pv)) 2 0 (nI (ns + 1))) 2 (ns + 1) nl (upn pl ns pv) fa fb sl rs := ⟨rfl, hnl, upd_nI hpl, hlg⟩
  refine c_carry_2 hN2 (netW_st hw h6 hpv) (fun g1 g2 g3 e1 e2 e3 => ?_)
  refine h_aload_n dX5_addStation_24 rfl ?_
  refine h_getI dX5_addStation_25 f_X5_9_5 rfl (show _ = nI (ns + 1) from rfl) ?_
  refine h_iconst dX5_addStation_28 ci_1 ?_
  refine h_isubN dX5_addStation_29 (by omega) ?_
  refine h_ireturn dX5_addStation_30 rfl ?_
  rw [Nat.add_sub_cancel]
  exact hQ _ (cNF_of hN2 e1 e2 e3) (fun a ha => by simp only [upA, upI]; rw [if_neg (by omega), if_neg (by omega), if_neg (by omega), if_neg (by omega), if_neg (by omega)])
theorem c_addLeg {l : Launch} {dp : Nat} {ns nl : Nat} {pl fa fb sl : Nat → Nat} {rs : Nat → Int32} {I : hI} {J : hJ} {lt tx : Option Nat} {a b w : Nat} {r : Int32} {Q : hQ} (hN : cN I 2 ns nl pl fa fb sl rs) (hw : netW ns nl pl fa fb sl rs) (h12 : nl < 12) (ha : a < ns) (hb : b < ns) (hab : a ≠ b) (h1 : 1 ≤ w) (h9 : w ≤ 9) (hr1 : -99 ≤ r.toInt) (hr2 : r.toInt ≤ 99) (hQ : ∀ I', cNF I' 2 ns (nl + 1) pl (upn fa nl a) (upn fb nl b) (upn sl nl w) (upd rs nl r) → (∀ a, a < 2 ∨ 10 < a → I' a = I a) → Q (some (.int (nI nl))) hSH I' J (hRR lt tx)) : HC l mX5_addLeg (dp + 3) 0 0 [.ref 2, .int (nI a), .int (nI b), .int r, .int (nI w)] hSH I J (hRR lt tx) Q := by
  refine HC.of (by decide +kernel) rfl (Nat.le_of_ble_eq_true rfl) ?_
  show HV l mX5_addLeg (dp + 3) 0 0 0 [some (.ref 2), some (.int (nI a)), some (.int (nI b)), some (.int r), some (.int (nI w))] [] hSH I J (hRR lt tx) Q
  obtain ⟨hns, hnl, hpl, hlg⟩ := id hN
  obtain ⟨hn6, hl12, hW, hp99, hr99⟩ := id hw
  refine h_aload_n dX5_addLeg_0 rfl ?_
  refine h_getR dX5_addLeg_1 f_X5_22_5 rfl rfl ?_
  refine h_aload_n dX5_addLeg_4 rfl ?_
  refine h_getI dX5_addLeg_5 f_X5_19_5 rfl hnl ?_
  refine h_iload_n dX5_addLeg_8 rfl ?_
  refine h_iastN (j := nl) dX5_addLeg_9 rfl rfl (by omega) rfl ?_
  refine h_aload_n dX5_addLeg_10 rfl ?_
  refine h_getR dX5_addLeg_11 f_X5_25_5 rfl rfl ?_
  refine h_aload_n dX5_addLeg_14 rfl ?_
  refine h_getI dX5_addLeg_15 f_X5_19_5 rfl hnl ?_
  refine h_iload_n dX5_addLeg_18 rfl ?_
  refine h_iastN (j := nl) dX5_addLeg_19 rfl rfl (by omega) rfl ?_
  refine h_aload_n dX5_addLeg_20 rfl ?_
  refine h_getR dX5_addLeg_21 f_X5_28_5 rfl rfl ?_
  refine h_aload_n dX5_addLeg_24 rfl ?_
  refine h_getI dX5_addLeg_25 f_X5_19_5 rfl hnl ?_
  refine h_iload_n dX5_addLeg_28 rfl ?_
  refine h_iastN (j := nl) dX5_addLeg_29 rfl rfl (by omega) rfl ?_
  refine h_aload_n dX5_addLeg_30 rfl ?_
  refine h_getR dX5_addLeg_31 f_X5_31_5 rfl rfl ?_
  refine h_aload_n dX5_addLeg_34 rfl ?_
  refine h_getI dX5_addLeg_35 f_X5_19_5 rfl hnl ?_
  refine h_iload dX5_addLeg_38 rfl ?_
  refine h_iastN (j := nl) dX5_addLeg_40 rfl rfl (by omega) rfl ?_
  refine h_aload_n dX5_addLeg_41 rfl ?_
  refine h_dup dX5_addLeg_42 rfl ?_
  refine h_getI dX5_addLeg_43 f_X5_19_5 rfl hnl ?_
  refine h_iconst dX5_addLeg_46 ci_1 ?_
  refine h_iaddN dX5_addLeg_47 ?_
  refine h_putI dX5_addLeg_48 f_X5_19_5 p_X5_5_2 (fun h => by cases h) rfl ?_
  refine h_aload_n dX5_addLeg_51 rfl ?_
  refine h_cV0 dX5_addLeg_52 k2_161 oVX5_carry rfl rfl ?_
  have hN2 : cN (upI (upI (upI (upI (upI I 4 nl (nI a)) 5 nl (nI b)) 6 nl r) 7 nl (nI w)) 2 2 (nI (nl + 1))) 2 ns (nl + 1) pl (upn fa nl a) (upn fb nl b) (upn sl nl w) (upd rs nl r) := ⟨hns, rfl, hpl, fun k hk => ⟨upd_nI (fun j hj => (hlg j hj).1) k hk, upd_nI (fun j hj => (hlg j hj).2.1) k hk, upd_up (fun j hj => (hlg j hj).2.2.1) k hk, upd_nI (fun j hj => (hlg j hj).2.2.2) k hk⟩⟩
  refine c_carry_2 hN2 (netW_leg hw h12 ha hb hab h1 h9 hr1 hr2) (fun g1 g2 g3 e1 e2 e3 => ?_)
  refine h_aload_n dX5_addLeg_55 rfl ?_
  refine h_getI dX5_addLeg_56 f_X5_19_5 rfl (show _ = nI (nl + 1) from rfl) ?_
  refine h_iconst dX5_addLeg_59 ci_1 ?_
  refine h_isubN dX5_addLeg_60 (by omega) ?_
  refine h_ireturn dX5_addLeg_61 rfl ?_
  rw [Nat.add_sub_cancel]
  exact hQ _ (cNF_of hN2 e1 e2 e3) (fun a ha => by simp only [upA, upI]; rw [if_neg (by omega), if_neg (by omega), if_neg (by omega), if_neg (by omega), if_neg (by omega), if_neg (by omega), if_neg (by omega), if_neg (by omega)])
theorem c_easy {l : Launch} {dp : Nat} {ns nl : Nat} {pl fa fb sl : Nat → Nat} {rs : Nat → Int32} {I : hI} {J : hJ} {lt tx : Option Nat} {e : Nat} {Q : hQ} (hN : cN I 2 ns nl pl fa fb sl rs) (hw : netW ns nl pl fa fb sl rs) (hQ : ∀ g, Q (some (.int (nI (dsm (dist fa fb (slE sl (nI e)) nl) ns)))) hSH (upA I 11 g) J (hRR lt tx)) : HC l mX5_doubtsWithEasy (dp + 2) 0 0 [.ref 2, .int (nI e)] hSH I J (hRR lt tx) Q := by
  refine HC.of (by decide +kernel) rfl (Nat.le_of_ble_eq_true rfl) ?_
  obtain ⟨hns, hnl, hpl, hlg⟩ := id hN
  obtain ⟨hn6, hl12, hW, hp99, hr99⟩ := id hw
  have Lo : ∀ (m s v : Nat) (g : Nat → Int32), ns - s < m → s ≤ ns → (∀ t, t < ns → g t = enc (dist fa fb (slE sl (nI e)) nl t)) → v = dsm (dist fa fb (slE sl (nI e)) nl) s → HV l mX5_doubtsWithEasy (dp + 2) 0 0 13 [some (.ref 2), some (.int (nI e)), some (.int (nI v)), some (.int (nI s))] [] hSH (upA I 11 g) J (hRR lt tx) Q := by
    intro m
    induction m with
    | zero => intro s v g h1 h2 hg hv; omega
    | succ m ih =>
      intro s v g h1 h2 hg hv
      refine h_iload_n dX5_doubtsWithEasy_13 rfl ?_
      refine h_aload_n dX5_doubtsWithEasy_14 rfl ?_
      refine h_getI dX5_doubtsWithEasy_15 f_X5_9_5 rfl hns ?_
      refine h_icmpge (tgt := 46) dX5_doubtsWithEasy_18 rfl (fun c_18 => ?_) (fun c_18 => ?_)
      · rw [nI_leI (by omega) (by omega)] at c_18
        refine h_iload_n dX5_doubtsWithEasy_46 rfl ?_
        refine h_ireturn dX5_doubtsWithEasy_47 rfl ?_
        have es : s = ns := by omega
        subst es
        rw [hv]
        exact hQ g
      · rw [nI_leI (by omega) (by omega)] at c_18
        refine h_aload_n dX5_doubtsWithEasy_21 rfl ?_
        refine h_getR dX5_doubtsWithEasy_22 f_X5_43_5 rfl rfl ?_
        refine h_iload_n dX5_doubtsWithEasy_25 rfl ?_
        refine h_ialdN (j := s) dX5_doubtsWithEasy_26 rfl rfl (by omega) rfl (hg _ (by omega)) ?_
        refine h_iconst dX5_doubtsWithEasy_27 ci_m1 ?_
        refine h_icmpeq (tgt := 40) dX5_doubtsWithEasy_28 rfl (fun c_28 => ?_) (fun c_28 => ?_)
        · refine h_iinc (v := nI (s + 1)) dX5_doubtsWithEasy_40 rfl (nI_1 _) (Nat.le_of_ble_eq_true rfl) ?_
          refine h_goto (tgt := 13) dX5_doubtsWithEasy_43 rfl ?_
          exact ih (s + 1) _ g (by omega) (by omega) hg (by
            show _ = dsm _ s + (if _ then _ else 0)
            first
              | (rw [if_pos (enc_n c_28), hv]; done)
              | (rw [if_neg (enc_m1 c_28), hv]; rfl))
        · refine h_iload_n dX5_doubtsWithEasy_31 rfl ?_
          refine h_aload_n dX5_doubtsWithEasy_32 rfl ?_
          refine h_getR dX5_doubtsWithEasy_33 f_X5_43_5 rfl rfl ?_
          refine h_iload_n dX5_doubtsWithEasy_36 rfl ?_
          refine h_ialdN (j := s) dX5_doubtsWithEasy_37 rfl rfl (by omega) rfl ((hg s (by omega)).trans (enc_lt (enc_n c_28))) ?_
          refine h_iaddN dX5_doubtsWithEasy_38 ?_
          refine h_istore_n dX5_doubtsWithEasy_39 (Nat.le_of_ble_eq_true rfl) ?_
          refine h_iinc (v := nI (s + 1)) dX5_doubtsWithEasy_40 rfl (nI_1 _) (Nat.le_of_ble_eq_true rfl) ?_
          refine h_goto (tgt := 13) dX5_doubtsWithEasy_43 rfl ?_
          exact ih (s + 1) _ g (by omega) (by omega) hg (by
            show _ = dsm _ s + (if _ then _ else 0)
            first
              | (rw [if_pos (enc_n c_28), hv]; done)
              | (rw [if_neg (enc_m1 c_28), hv]; rfl))
  show HV l mX5_doubtsWithEasy (dp + 2) 0 0 0 [some (.ref 2), some (.int (nI e)), none, none] [] hSH I J (hRR lt tx) Q
  refine h_aload_n dX5_doubtsWithEasy_0 rfl ?_
  refine h_aload_n dX5_doubtsWithEasy_1 rfl ?_
  refine h_getR dX5_doubtsWithEasy_2 f_X5_43_5 rfl rfl ?_
  refine h_iload_n dX5_doubtsWithEasy_5 rfl ?_
  refine h_cV2 dX5_doubtsWithEasy_6 k2_165 oVX5_spread rfl rfl ?_
  refine c_spread_2_11 hN hw (fun g hg => ?_)
  refine h_iconst dX5_doubtsWithEasy_9 ci_0 ?_
  refine h_istore_n dX5_doubtsWithEasy_10 (Nat.le_of_ble_eq_true rfl) ?_
  refine h_iconst dX5_doubtsWithEasy_11 ci_0 ?_
  refine h_istore_n dX5_doubtsWithEasy_12 (Nat.le_of_ble_eq_true rfl) ?_
  exact Lo (ns + 1) 0 0 g (by omega) (by omega) (fun t ht => by rw [hg t ht, dist_eq (slE_W hW _) hn6 (Nat.le_refl _)]) rfl
theorem c_netcopy_2 {l : Launch} {dp : Nat} {ns nl : Nat} {pl fa fb sl : Nat → Nat} {rs : Nat → Int32} {I : hI} {J : hJ} {lt tx : Option Nat} {Q : hQ} (hN : cN I 29 ns nl pl fa fb sl rs) (hw : netW ns nl pl fa fb sl rs) (hQ : ∀ I', cNF I' 2 ns nl pl fa fb sl rs → (∀ a, a < 2 ∨ 10 < a → I' a = I a) → Q none hSH I' J (hRR lt tx)) : HC l mX5_copy (dp + 3) 0 0 [.ref 2, .ref 29] hSH I J (hRR lt tx) Q := by
  refine HC.of (by decide +kernel) rfl (Nat.le_of_ble_eq_true rfl) ?_
  show HV l mX5_copy (dp + 3) 0 0 0 [some (.ref 2), some (.ref 29)] [] hSH I J (hRR lt tx) Q
  obtain ⟨hns, hnl, hpl, hlg⟩ := id hN
  obtain ⟨hn6, hl12, hW, hp99, hr99⟩ := id hw
  refine h_aload_n dX5_copy_0 rfl ?_
  refine h_aload_n dX5_copy_1 rfl ?_
  refine h_getI dX5_copy_2 f_X5_9_5 rfl hns ?_
  refine h_putI dX5_copy_5 f_X5_9_5 p_X5_5_0 (fun h => by cases h) rfl ?_
  refine h_aload_n dX5_copy_8 rfl ?_
  refine h_getR dX5_copy_9 f_X5_15_5 rfl rfl ?_
  refine h_iconst dX5_copy_12 ci_0 ?_
  refine h_aload_n dX5_copy_13 rfl ?_
  refine h_getR dX5_copy_14 f_X5_15_5 rfl rfl ?_
  refine h_iconst dX5_copy_17 ci_0 ?_
  refine h_bipush dX5_copy_18 cb_6 ?_
  refine h_copy (N := 6) dX5_copy_20 k4_231 k4_17 k4_16 k1_15 rfl rfl rfl rfl rfl rfl (by decide) (by decide) (Nat.le_of_ble_eq_true rfl) ?_
  refine h_aload_n dX5_copy_23 rfl ?_
  refine h_aload_n dX5_copy_24 rfl ?_
  refine h_getI dX5_copy_25 f_X5_19_5 rfl hnl ?_
  refine h_putI dX5_copy_28 f_X5_19_5 p_X5_5_2 (fun h => by cases h) rfl ?_
  refine h_aload_n dX5_copy_31 rfl ?_
  refine h_getR dX5_copy_32 f_X5_22_5 rfl rfl ?_
  refine h_iconst dX5_copy_35 ci_0 ?_
  refine h_aload_n dX5_copy_36 rfl ?_
  refine h_getR dX5_copy_37 f_X5_22_5 rfl rfl ?_
  refine h_iconst dX5_copy_40 ci_0 ?_
  refine h_bipush dX5_copy_41 cb_12 ?_
  refine h_copy (N := 12) dX5_copy_43 k4_231 k4_17 k4_16 k1_15 rfl rfl rfl rfl rfl rfl (by decide) (by decide) (Nat.le_of_ble_eq_true rfl) ?_
  refine h_aload_n dX5_copy_46 rfl ?_
  refine h_getR dX5_copy_47 f_X5_25_5 rfl rfl ?_
  refine h_iconst dX5_copy_50 ci_0 ?_
  refine h_aload_n dX5_copy_51 rfl ?_
  refine h_getR dX5_copy_52 f_X5_25_5 rfl rfl ?_
  refine h_iconst dX5_copy_55 ci_0 ?_
  refine h_bipush dX5_copy_56 cb_12 ?_
  refine h_copy (N := 12) dX5_copy_58 k4_231 k4_17 k4_16 k1_15 rfl rfl rfl rfl rfl rfl (by decide) (by decide) (Nat.le_of_ble_eq_true rfl) ?_
  refine h_aload_n dX5_copy_61 rfl ?_
  refine h_getR dX5_copy_62 f_X5_28_5 rfl rfl ?_
  refine h_iconst dX5_copy_65 ci_0 ?_
  refine h_aload_n dX5_copy_66 rfl ?_
  refine h_getR dX5_copy_67 f_X5_28_5 rfl rfl ?_
  refine h_iconst dX5_copy_70 ci_0 ?_
  refine h_bipush dX5_copy_71 cb_12 ?_
  refine h_copy (N := 12) dX5_copy_73 k4_231 k4_17 k4_16 k1_15 rfl rfl rfl rfl rfl rfl (by decide) (by decide) (Nat.le_of_ble_eq_true rfl) ?_
  refine h_aload_n dX5_copy_76 rfl ?_
  refine h_getR dX5_copy_77 f_X5_31_5 rfl rfl ?_
  refine h_iconst dX5_copy_80 ci_0 ?_
  refine h_aload_n dX5_copy_81 rfl ?_
  refine h_getR dX5_copy_82 f_X5_31_5 rfl rfl ?_
  refine h_iconst dX5_copy_85 ci_0 ?_
  refine h_bipush dX5_copy_86 cb_12 ?_
  refine h_copy (N := 12) dX5_copy_88 k4_231 k4_17 k4_16 k1_15 rfl rfl rfl rfl rfl rfl (by decide) (by decide) (Nat.le_of_ble_eq_true rfl) ?_
  refine h_aload_n dX5_copy_91 rfl ?_
  refine h_cV0 dX5_copy_92 k2_161 oVX5_carry rfl rfl ?_
  have hN2 : cN (cpI (cpI (cpI (cpI (upI (cpI (upI I 2 0 (nI ns)) 30 3 0 0 6) 2 2 (nI nl)) 31 4 0 0 12) 32 5 0 0 12) 33 6 0 0 12) 34 7 0 0 12) 2 ns nl pl fa fb sl rs := ⟨rfl, rfl, fun s hs => (sb_cpy0 (by omega)).trans (hpl s hs), fun k hk => ⟨(sb_cpy0 (by omega)).trans (hlg k hk).1, (sb_cpy0 (by omega)).trans (hlg k hk).2.1, (sb_cpy0 (by omega)).trans (hlg k hk).2.2.1, (sb_cpy0 (by omega)).trans (hlg k hk).2.2.2⟩⟩
  refine c_carry_2 hN2 hw (fun g1 g2 g3 e1 e2 e3 => ?_)
  refine h_return dX5_copy_95 rfl ?_
  exact hQ _ (cNF_of hN2 e1 e2 e3) (fun a ha => by simp only [upA, upI, cpI]; rw [if_neg (by omega), if_neg (by omega), if_neg (by omega), if_neg (by omega), if_neg (by omega), if_neg (by omega), if_neg (by omega), if_neg (by omega), if_neg (by omega), if_neg (by omega)])
theorem c_netcopy_29 {l : Launch} {dp : Nat} {ns nl : Nat} {pl fa fb sl : Nat → Nat} {rs : Nat → Int32} {I : hI} {J : hJ} {lt tx : Option Nat} {Q : hQ} (hN : cN I 2 ns nl pl fa fb sl rs) (hw : netW ns nl pl fa fb sl rs) (hQ : ∀ I', cNF I' 29 ns nl pl fa fb sl rs → (∀ a, a < 29 ∨ 37 < a → I' a = I a) → Q none hSH I' J (hRR lt tx)) : HC l mX5_copy (dp + 3) 0 0 [.ref 29, .ref 2] hSH I J (hRR lt tx) Q := by
  refine HC.of (by decide +kernel) rfl (Nat.le_of_ble_eq_true rfl) ?_
  show HV l mX5_copy (dp + 3) 0 0 0 [some (.ref 29), some (.ref 2)] [] hSH I J (hRR lt tx) Q
  obtain ⟨hns, hnl, hpl, hlg⟩ := id hN
  obtain ⟨hn6, hl12, hW, hp99, hr99⟩ := id hw
  refine h_aload_n dX5_copy_0 rfl ?_
  refine h_aload_n dX5_copy_1 rfl ?_
  refine h_getI dX5_copy_2 f_X5_9_5 rfl hns ?_
  refine h_putI dX5_copy_5 f_X5_9_5 p_X5_5_0 (fun h => by cases h) rfl ?_
  refine h_aload_n dX5_copy_8 rfl ?_
  refine h_getR dX5_copy_9 f_X5_15_5 rfl rfl ?_
  refine h_iconst dX5_copy_12 ci_0 ?_
  refine h_aload_n dX5_copy_13 rfl ?_
  refine h_getR dX5_copy_14 f_X5_15_5 rfl rfl ?_
  refine h_iconst dX5_copy_17 ci_0 ?_
  refine h_bipush dX5_copy_18 cb_6 ?_
  refine h_copy (N := 6) dX5_copy_20 k4_231 k4_17 k4_16 k1_15 rfl rfl rfl rfl rfl rfl (by decide) (by decide) (Nat.le_of_ble_eq_true rfl) ?_
  refine h_aload_n dX5_copy_23 rfl ?_
  refine h_aload_n dX5_copy_24 rfl ?_
  refine h_getI dX5_copy_25 f_X5_19_5 rfl hnl ?_
  refine h_putI dX5_copy_28 f_X5_19_5 p_X5_5_2 (fun h => by cases h) rfl ?_
  refine h_aload_n dX5_copy_31 rfl ?_
  refine h_getR dX5_copy_32 f_X5_22_5 rfl rfl ?_
  refine h_iconst dX5_copy_35 ci_0 ?_
  refine h_aload_n dX5_copy_36 rfl ?_
  refine h_getR dX5_copy_37 f_X5_22_5 rfl rfl ?_
  refine h_iconst dX5_copy_40 ci_0 ?_
  refine h_bipush dX5_copy_41 cb_12 ?_
  refine h_copy (N := 12) dX5_copy_43 k4_231 k4_17 k4_16 k1_15 rfl rfl rfl rfl rfl rfl (by decide) (by decide) (Nat.le_of_ble_eq_true rfl) ?_
  refine h_aload_n dX5_copy_46 rfl ?_
  refine h_getR dX5_copy_47 f_X5_25_5 rfl rfl ?_
  refine h_iconst dX5_copy_50 ci_0 ?_
  refine h_aload_n dX5_copy_51 rfl ?_
  refine h_getR dX5_copy_52 f_X5_25_5 rfl rfl ?_
  refine h_iconst dX5_copy_55 ci_0 ?_
  refine h_bipush dX5_copy_56 cb_12 ?_
  refine h_copy (N := 12) dX5_copy_58 k4_231 k4_17 k4_16 k1_15 rfl rfl rfl rfl rfl rfl (by decide) (by decide) (Nat.le_of_ble_eq_true rfl) ?_
  refine h_aload_n dX5_copy_61 rfl ?_
  refine h_getR dX5_copy_62 f_X5_28_5 rfl rfl ?_
  refine h_iconst dX5_copy_65 ci_0 ?_
  refine h_aload_n dX5_copy_66 rfl ?_
  refine h_getR dX5_copy_67 f_X5_28_5 rfl rfl ?_
  refine h_iconst dX5_copy_70 ci_0 ?_
  refine h_bipush dX5_copy_71 cb_12 ?_
  refine h_copy (N := 12) dX5_copy_73 k4_231 k4_17 k4_16 k1_15 rfl rfl rfl rfl rfl rfl (by decide) (by decide) (Nat.le_of_ble_eq_true rfl) ?_
  refine h_aload_n dX5_copy_76 rfl ?_
  refine h_getR dX5_copy_77 f_X5_31_5 rfl rfl ?_
  refine h_iconst dX5_copy_80 ci_0 ?_
  refine h_aload_n dX5_copy_81 rfl ?_
  refine h_getR dX5_copy_82 f_X5_31_5 rfl rfl ?_
  refine h_iconst dX5_copy_85 ci_0 ?_
  refine h_bipush dX5_copy_86 cb_12 ?_
  refine h_copy (N := 12) dX5_copy_88 k4_231 k4_17 k4_16 k1_15 rfl rfl rfl rfl rfl rfl (by decide) (by decide) (Nat.le_of_ble_eq_true rfl) ?_
  refine h_aload_n dX5_copy_91 rfl ?_
  refine h_cV0 dX5_copy_92 k2_161 oVX5_carry rfl rfl ?_
  have hN2 : cN (cpI (cpI (cpI (cpI (upI (cpI (upI I 29 0 (nI ns)) 3 30 0 0 6) 29 2 (nI nl)) 4 31 0 0 12) 5 32 0 0 12) 6 33 0 0 12) 7 34 0 0 12) 29 ns nl pl fa fb sl rs := ⟨rfl, rfl, fun s hs => (sb_cpy0 (by omega)).trans (hpl s hs), fun k hk => ⟨(sb_cpy0 (by omega)).trans (hlg k hk).1, (sb_cpy0 (by omega)).trans (hlg k hk).2.1, (sb_cpy0 (by omega)).trans (hlg k hk).2.2.1, (sb_cpy0 (by omega)).trans (hlg k hk).2.2.2⟩⟩
  refine c_carry_29 hN2 hw (fun g1 g2 g3 e1 e2 e3 => ?_)
  refine h_return dX5_copy_95 rfl ?_
  exact hQ _ (cNF_of29 hN2 e1 e2 e3) (fun a ha => by simp only [upA, upI, cpI]; rw [if_neg (by omega), if_neg (by omega), if_neg (by omega), if_neg (by omega), if_neg (by omega), if_neg (by omega), if_neg (by omega), if_neg (by omega), if_neg (by omega), if_neg (by omega)])
