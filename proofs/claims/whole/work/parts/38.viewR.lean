/-- the reference's rows of a view -/
def rV (I : hI) (np ml nk : Nat) (pp pm ki fr tg wh : Nat → Nat) (sn : Nat → Int32) (fl : Nat → Bool) : Prop := I 82 4 = nI np ∧ I 82 6 = nI ml ∧ I 82 7 = nI nk ∧ (∀ p, p < np → I 85 (2 * p) = nI (pp p) ∧ I 85 (2 * p + 1) = nI (pm p)) ∧ ∀ k, k < nk → I 86 (7 * k) = nI (ki k) ∧ I 86 (7 * k + 1) = nI (fr k) ∧ I 86 (7 * k + 2) = nI (tg k) ∧ I 86 (7 * k + 3) = sn k ∧ I 86 (7 * k + 4) = nI (wh k / 100) ∧ I 86 (7 * k + 5) = nI (wh k % 100) ∧ I 86 (7 * k + 6) = if fl k = true then nI 1 else nI 0
/-- the reference's geometry -/
def rG (I : hI) (ns nl np ml nk nw : Nat) (pl fa fb sl pp pm ki fr tg wh bw : Nat → Nat) (rs sn : Nat → Int32) (fl : Nat → Bool) (qw : Nat → Nat → Nat → Nat → Bool)  : Prop := rN I ns nl pl fa fb sl rs ∧ netW ns nl pl fa fb sl rs ∧ rV I np ml nk pp pm ki fr tg wh sn fl ∧ viewW ns np ml nk pp pm ki fr tg wh sn ∧ rW I nw bw qw
def rS (I : hI) (lo hi : Int32) (f1 f2 : Nat → Int32) : hI := upA (upA (upI (upI I 82 16 lo) 82 17 hi) 101 f1) 102 f2
def rM (I : hI) (a b c : Nat → Int32) (lo hi : Int32) (f1 f2 : Nat → Int32) : hI := rS (upA (upA (upA I 90 a) 92 b) 91 c) lo hi f1 f2
theorem up2 (I : hI) {a b : Nat} (h1 : a ≠ b) (f1 f2 g1 g2 : Nat → Int32) : upA (upA (upA (upA I a f1) b f2) a g1) b g2 = upA (upA I a g1) b g2 := by
  funext x
  by_cases e1 : x = b
  · simp [upA, e1]
  · by_cases e2 : x = a
    · simp [upA, e2, h1]
    · simp [upA, e1, e2]
theorem upd_upd (f : Nat → Int32) (k : Nat) (u v : Int32) : upd (upd f k u) k v = upd f k v := by
  funext x
  by_cases e : x = k <;> simp [upd, e]
theorem upd_sw (f : Nat → Int32) {j k : Nat} (h : j ≠ k) (u v : Int32) : upd (upd f j u) k v = upd (upd f k v) j u := by
  funext x
  by_cases e : x = k
  · have : ¬ x = j := fun z => h (z.symm.trans e)
    simp [upd, e]
    intro z; exact absurd z.symm h
  · by_cases e2 : x = j <;> simp [upd, e, e2]
    · intro z; exact absurd z h
theorem rS_f (I : hI) (lo hi : Int32) (f1 f2 g1 g2 : Nat → Int32) : upA (upA (rS I lo hi f1 f2) 101 g1) 102 g2 = rS I lo hi g1 g2 := up2 _ (by decide) _ _ _ _
theorem rS_id (I : hI) : rS I (I 82 16) (I 82 17) (I 101) (I 102) = I := by
  funext x
  by_cases e1 : x = 102
  · simp [rS, upA, e1]
  · by_cases e2 : x = 101
    · simp [rS, upA, e2]
    · by_cases e3 : x = 82
      · subst e3
        show upd (upd (I 82) 16 (I 82 16)) 17 (I 82 17) = I 82
        funext j
        by_cases q : j = 17
        · simp [upd, q]
        · by_cases q2 : j = 16 <;> simp [upd, q, q2]
      · simp [rS, upA, upI, e1, e2, e3]
theorem rS_16 (I : hI) (lo hi v : Int32) (f1 f2 : Nat → Int32) : upI (rS I lo hi f1 f2) 82 16 v = rS I v hi f1 f2 := by
  funext x
  by_cases e1 : x = 102
  · simp [rS, upA, upI, e1]
  · by_cases e2 : x = 101
    · simp [rS, upA, upI, e2]
    · by_cases e3 : x = 82
      · subst e3
        show upd (upd (upd (I 82) 16 lo) 17 hi) 16 v = upd (upd (I 82) 16 v) 17 hi
        rw [upd_sw _ (by decide), upd_upd]
      · simp [rS, upA, upI, e1, e2, e3]
theorem rS_17 (I : hI) (lo hi v : Int32) (f1 f2 : Nat → Int32) : upI (rS I lo hi f1 f2) 82 17 v = rS I lo v f1 f2 := by
  funext x
  by_cases e1 : x = 102
  · simp [rS, upA, upI, e1]
  · by_cases e2 : x = 101
    · simp [rS, upA, upI, e2]
    · by_cases e3 : x = 82
      · subst e3
        show upd (upd (upd (I 82) 16 lo) 17 hi) 17 v = upd (upd (I 82) 16 lo) 17 v
        rw [upd_upd]
      · simp [rS, upA, upI, e1, e2, e3]
theorem rS_rS (I : hI) (lo hi l2 h2 : Int32) (f1 f2 g1 g2 : Nat → Int32) : rS (rS I lo hi f1 f2) l2 h2 g1 g2 = rS I l2 h2 g1 g2 := by
  show upA (upA (upI (upI (rS I lo hi f1 f2) 82 16 l2) 82 17 h2) 101 g1) 102 g2 = _
  rw [rS_16, rS_17, rS_f]
theorem upA_sw (I : hI) {a b : Nat} (h : a ≠ b) (f g : Nat → Int32) : upA (upA I a f) b g = upA (upA I b g) a f := by
  funext x
  by_cases e1 : x = b
  · subst e1
    simp [upA]
    intro z; exact absurd z.symm h
  · by_cases e2 : x = a
    · subst e2
      simp [upA, e1]
    · simp [upA, e1, e2]
theorem rS_up (I : hI) {a : Nat} (h1 : a ≠ 82) (h2 : a ≠ 101) (h3 : a ≠ 102) (lo hi : Int32) (f1 f2 g : Nat → Int32) : upA (rS I lo hi f1 f2) a g = rS (upA I a g) lo hi f1 f2 := by
  unfold rS
  rw [upA_sw _ (Ne.symm h3), upA_sw _ (Ne.symm h2)]
  congr 2
  funext x
  by_cases e : x = 82
  · subst e; simp [upA, upI, Ne.symm h1]
  · by_cases e2 : x = a <;> simp [upA, upI, e, e2, h1]
theorem rM_l (I : hI) (a b c g1 g2 g3 : Nat → Int32) (lo hi : Int32) (f1 f2 : Nat → Int32) : upA (upA (upA (rM I a b c lo hi f1 f2) 90 g1) 92 g3) 91 g2 = rM I g1 g3 g2 lo hi f1 f2 := by
  unfold rM
  rw [rS_up _ (by decide) (by decide) (by decide), rS_up _ (by decide) (by decide) (by decide), rS_up _ (by decide) (by decide) (by decide)]
  rw [up3 _ (by decide) (by decide) (by decide)]
theorem rM_id (I : hI) : rM I (I 90) (I 92) (I 91) (I 82 16) (I 82 17) (I 101) (I 102) = I := by
  unfold rM
  rw [upA_id]
  rw [show upA I 92 (I 92) = I from upA_id I 92]
  rw [show upA I 91 (I 91) = I from upA_id I 91]
  exact rS_id I
theorem aw_ref {x y : Nat} (hx : x ≤ 99) (hy : y ≤ 999) (h : ¬ 0 ≤ nI x - nI y) : - (nI x - nI y) = nI (aw x y) := by
  have := aw_abs hx hy
  rw [if_neg h, Int32.zero_sub] at this
  exact this
theorem aw_ref2 {x y : Nat} (hx : x ≤ 99) (hy : y ≤ 999) (h : 0 ≤ nI x - nI y) : nI x - nI y = nI (aw x y) := by
  have := aw_abs hx hy
  rw [if_pos h] at this
  exact this
theorem r_awayOf {l : Launch} {dp : Nat} {ns nl np ml nk nw : Nat} {pl fa fb sl pp pm ki fr tg wh bw : Nat → Nat} {rs sn : Nat → Int32} {fl : Nat → Bool} {qw : Nat → Nat → Nat → Nat → Bool} {I : hI} {J : hJ} {lt tx : Option Nat} {s p : Nat} {Q : hQ} (hG : rG I ns nl np ml nk nw pl fa fb sl pp pm ki fr tg wh bw rs sn fl qw) (hs : s < ns) (hp : p < np) (hQ : Q (some (.int (nI (aw (pl s) (pp p))))) hSH I J (hRR lt tx)) : HC l mX12_awayOf dp 0 0 [.ref 82, .int (nI s), .int (nI p)] hSH I J (hRR lt tx) Q := by
  refine HC.of (by decide +kernel) rfl (Nat.le_of_ble_eq_true rfl) ?_
  show HV l mX12_awayOf dp 0 0 0 [some (.ref 82), some (.int (nI s)), some (.int (nI p)), none] [] hSH I J (hRR lt tx) Q
  obtain ⟨hN, hw, ⟨hnp, hml, hnk, hpt, hsi⟩, ⟨hn8, hm2, hn24, hpW, hsW⟩, hL⟩ := id hG
  obtain ⟨hns, hnl, hpl, hlg⟩ := id hN
  obtain ⟨hn6, hl12, hW, hp99, hr99⟩ := id hw
  have q1 := hp99 s hs
  have q2 := hpW p hp
  refine h_aload_n dX12_awayOf_0 rfl ?_
  refine h_getR dX12_awayOf_1 f_X12_7_10 rfl rfl ?_
  refine h_iload_n dX12_awayOf_4 rfl ?_
  refine h_ialdN (j := s) dX12_awayOf_5 rfl rfl (by omega) rfl (hpl _ (by omega)) ?_
  refine h_aload_n dX12_awayOf_6 rfl ?_
  refine h_getR dX12_awayOf_7 f_X12_16_10 rfl rfl ?_
  refine h_iconst dX12_awayOf_10 ci_2 ?_
  refine h_iload_n dX12_awayOf_11 rfl ?_
  refine h_imulN dX12_awayOf_12 ?_
  refine h_ialdN (j := 2 * p) dX12_awayOf_13 rfl rfl (by omega) rfl (hpt p (by omega)).1 ?_
  refine h_isub dX12_awayOf_14 ?_
  refine h_istore_n dX12_awayOf_15 (Nat.le_of_ble_eq_true rfl) ?_
  refine h_iload_n dX12_awayOf_16 rfl ?_
  refine h_ifge (tgt := 25) dX12_awayOf_17 rfl (fun c_17 => ?_) (fun c_17 => ?_)
  · refine h_iload_n dX12_awayOf_25 rfl ?_
    refine h_ireturn dX12_awayOf_26 rfl ?_
    rw [aw_ref2 (by omega) (by omega) c_17]
    exact hQ
  · refine h_iload_n dX12_awayOf_20 rfl ?_
    refine h_ineg dX12_awayOf_21 ?_
    refine h_goto (tgt := 26) dX12_awayOf_22 rfl ?_
    refine h_ireturn dX12_awayOf_26 rfl ?_
    rw [aw_ref (by omega) (by omega) c_17]
    exact hQ
theorem r_leanAt {l : Launch} {dp : Nat} {ns nl np ml nk nw : Nat} {pl fa fb sl pp pm ki fr tg wh bw : Nat → Nat} {rs sn : Nat → Int32} {fl : Nat → Bool} {qw : Nat → Nat → Nat → Nat → Bool} {I : hI} {J : hJ} {lt tx : Option Nat} {s : Nat} {Q : hQ} (hG : rG I ns nl np ml nk nw pl fa fb sl pp pm ki fr tg wh bw rs sn fl qw) (hs : s < ns) (hQ : Q (some (.int (leanF (pl s) np pp pm ml))) hSH I J (hRR lt tx)) : HC l mX12_leanAt (dp + 1) 0 0 [.ref 82, .int (nI s)] hSH I J (hRR lt tx) Q := by
  refine HC.of (by decide +kernel) rfl (Nat.le_of_ble_eq_true rfl) ?_
  obtain ⟨hN, hw, ⟨hnp, hml, hnk, hpt, hsi⟩, ⟨hn8, hm2, hn24, hpW, hsW⟩, hL⟩ := id hG
  obtain ⟨hns, hnl, hpl, hlg⟩ := id hN
  obtain ⟨hn6, hl12, hW, hp99, hr99⟩ := id hw
  have Lo : ∀ (m p : Nat) (v : Int32), np - p < m → p ≤ np → v = lnS (pl s) pp pm p → ∀ z4 z5, HV l mX12_leanAt (dp + 1) 0 0 4 [some (.ref 82), some (.int (nI s)), some (.int v), some (.int (nI p)), z4, z5] [] hSH I J (hRR lt tx) Q := by
    intro m
    induction m with
    | zero => intro p v h1 h2 hv z4 z5; omega
    | succ m ih =>
      intro p v h1 h2 hv z4 z5
      refine h_iload_n dX12_leanAt_4 rfl ?_
      refine h_aload_n dX12_leanAt_5 rfl ?_
      refine h_getI dX12_leanAt_6 f_X12_110_10 rfl hnp ?_
      refine h_icmpge (tgt := 77) dX12_leanAt_9 rfl (fun c_9 => ?_) (fun c_9 => ?_)
      · rw [nI_leI (by omega) (by omega)] at c_9
        have ep : np = p := by omega
        subst ep
        subst hv
        refine h_iload_n dX12_leanAt_77 rfl ?_
        refine h_aload_n dX12_leanAt_78 rfl ?_
        refine h_getI dX12_leanAt_79 f_X12_142_10 rfl hml ?_
        refine h_ifne (tgt := 89) dX12_leanAt_82 rfl (fun c_82 => ?_) (fun c_82 => ?_)
        · rw [show (0 : Int32) = nI 0 from rfl, nI_eq (by omega) (by omega)] at c_82
          refine h_aload_n dX12_leanAt_89 rfl ?_
          refine h_getI dX12_leanAt_90 f_X12_142_10 rfl hml ?_
          refine h_iconst dX12_leanAt_93 ci_1 ?_
          refine h_icmpne (tgt := 101) dX12_leanAt_94 rfl (fun c_94 => ?_) (fun c_94 => ?_)
          · rw [nI_eq (by omega) (by omega)] at c_94
            refine h_iconst dX12_leanAt_101 ci_1 ?_
            refine h_imul dX12_leanAt_102 ?_
            refine h_iconst dX12_leanAt_103 ci_4 ?_
            refine h_idiv dX12_leanAt_104 (by decide) ?_
            refine h_ireturn dX12_leanAt_105 rfl ?_
            rw [show leanF (pl s) np pp pm ml = lnS (pl s) pp pm np * nI 1 / nI 4 by unfold leanF ml4; rw [if_neg c_82, if_neg c_94]] at hQ
            exact hQ
          · rw [nI_eq (by omega) (by omega)] at c_94
            refine h_iconst dX12_leanAt_97 ci_2 ?_
            refine h_goto (tgt := 102) dX12_leanAt_98 rfl ?_
            refine h_imul dX12_leanAt_102 ?_
            refine h_iconst dX12_leanAt_103 ci_4 ?_
            refine h_idiv dX12_leanAt_104 (by decide) ?_
            refine h_ireturn dX12_leanAt_105 rfl ?_
            rw [show leanF (pl s) np pp pm ml = lnS (pl s) pp pm np * nI 2 / nI 4 by unfold leanF ml4; rw [if_neg c_82, if_pos c_94]] at hQ
            exact hQ
        · rw [show (0 : Int32) = nI 0 from rfl, nI_eq (by omega) (by omega)] at c_82
          refine h_iconst dX12_leanAt_85 ci_4 ?_
          refine h_goto (tgt := 102) dX12_leanAt_86 rfl ?_
          refine h_imul dX12_leanAt_102 ?_
          refine h_iconst dX12_leanAt_103 ci_4 ?_
          refine h_idiv dX12_leanAt_104 (by decide) ?_
          refine h_ireturn dX12_leanAt_105 rfl ?_
          rw [show leanF (pl s) np pp pm ml = lnS (pl s) pp pm np * nI 4 / nI 4 by unfold leanF ml4; rw [if_pos c_82]] at hQ
          exact hQ
      · rw [nI_leI (by omega) (by omega)] at c_9
        have q1 := hp99 s hs
        have q2 := hpW p (by omega)
        have q3 := aw_sq q1 q2.1
        refine h_aload_n dX12_leanAt_12 rfl ?_
        refine h_iload_n dX12_leanAt_13 rfl ?_
        refine h_iload_n dX12_leanAt_14 rfl ?_
        refine h_cV2 dX12_leanAt_15 k5_196 oVX12_awayOf rfl rfl ?_
        refine r_awayOf hG (by omega) (by omega) ?_
        refine h_istore dX12_leanAt_18 (Nat.le_of_ble_eq_true rfl) ?_
        refine h_aload_n dX12_leanAt_20 rfl ?_
        refine h_getR dX12_leanAt_21 f_X12_16_10 rfl rfl ?_
        refine h_iconst dX12_leanAt_24 ci_2 ?_
        refine h_iload_n dX12_leanAt_25 rfl ?_
        refine h_imulN dX12_leanAt_26 ?_
        refine h_iconst dX12_leanAt_27 ci_1 ?_
        refine h_iaddN dX12_leanAt_28 ?_
        refine h_ialdN (j := (2 * p) + 1) dX12_leanAt_29 rfl rfl (by omega) rfl (hpt p (by omega)).2 ?_
        refine h_bipush dX12_leanAt_30 cb_100 ?_
        refine h_imulN dX12_leanAt_32 ?_
        refine h_iload dX12_leanAt_33 rfl ?_
        refine h_iload dX12_leanAt_35 rfl ?_
        refine h_imulN dX12_leanAt_37 ?_
        refine h_iconst dX12_leanAt_38 ci_1 ?_
        refine h_iaddN dX12_leanAt_39 ?_
        refine h_idivN dX12_leanAt_40 (by omega) (by omega) (by omega) ?_
        refine h_istore dX12_leanAt_41 (Nat.le_of_ble_eq_true rfl) ?_
        refine h_iload_n dX12_leanAt_43 rfl ?_
        refine h_aload_n dX12_leanAt_44 rfl ?_
        refine h_getR dX12_leanAt_45 f_X12_16_10 rfl rfl ?_
        refine h_iconst dX12_leanAt_48 ci_2 ?_
        refine h_iload_n dX12_leanAt_49 rfl ?_
        refine h_imulN dX12_leanAt_50 ?_
        refine h_ialdN (j := 2 * p) dX12_leanAt_51 rfl rfl (by omega) rfl (hpt p (by omega)).1 ?_
        refine h_aload_n dX12_leanAt_52 rfl ?_
        refine h_getR dX12_leanAt_53 f_X12_7_10 rfl rfl ?_
        refine h_iload_n dX12_leanAt_56 rfl ?_
        refine h_ialdN (j := s) dX12_leanAt_57 rfl rfl (by omega) rfl (hpl _ (by omega)) ?_
        refine h_icmpge (tgt := 67) dX12_leanAt_58 rfl (fun c_58 => ?_) (fun c_58 => ?_)
        · rw [nI_leI (by omega) (by omega)] at c_58
          refine h_iload dX12_leanAt_67 rfl ?_
          refine h_iadd dX12_leanAt_69 ?_
          refine h_istore_n dX12_leanAt_70 (Nat.le_of_ble_eq_true rfl) ?_
          refine h_iinc (v := nI (p + 1)) dX12_leanAt_71 rfl (nI_1 _) (Nat.le_of_ble_eq_true rfl) ?_
          refine h_goto (tgt := 4) dX12_leanAt_74 rfl ?_
          exact ih (p + 1) _ (by omega) (by omega) (by rw [hv]; show _ = lnS _ _ _ p + (if _ then _ else _); rw [if_neg (by omega)]; rfl) _ _
        · rw [nI_leI (by omega) (by omega)] at c_58
          refine h_iload dX12_leanAt_61 rfl ?_
          refine h_ineg dX12_leanAt_63 ?_
          refine h_goto (tgt := 69) dX12_leanAt_64 rfl ?_
          refine h_iadd dX12_leanAt_69 ?_
          refine h_istore_n dX12_leanAt_70 (Nat.le_of_ble_eq_true rfl) ?_
          refine h_iinc (v := nI (p + 1)) dX12_leanAt_71 rfl (nI_1 _) (Nat.le_of_ble_eq_true rfl) ?_
          refine h_goto (tgt := 4) dX12_leanAt_74 rfl ?_
          exact ih (p + 1) _ (by omega) (by omega) (by rw [hv]; show _ = lnS _ _ _ p + (if _ then _ else _); rw [if_pos (by omega)]; rfl) _ _
  show HV l mX12_leanAt (dp + 1) 0 0 0 [some (.ref 82), some (.int (nI s)), none, none, none, none] [] hSH I J (hRR lt tx) Q
  refine h_iconst dX12_leanAt_0 ci_0 ?_
  refine h_istore_n dX12_leanAt_1 (Nat.le_of_ble_eq_true rfl) ?_
  refine h_iconst dX12_leanAt_2 ci_0 ?_
  refine h_istore_n dX12_leanAt_3 (Nat.le_of_ble_eq_true rfl) ?_
  exact Lo (np + 1) 0 _ (by omega) (by omega) rfl _ _
theorem r_toldOf {l : Launch} {dp : Nat} {ns nl np ml nk nw : Nat} {pl fa fb sl pp pm ki fr tg wh bw : Nat → Nat} {rs sn : Nat → Int32} {fl : Nat → Bool} {qw : Nat → Nat → Nat → Nat → Bool} {I : hI} {J : hJ} {lt tx : Option Nat} {k : Nat} {Q : hQ} (hG : rG I ns nl np ml nk nw pl fa fb sl pp pm ki fr tg wh bw rs sn fl qw) (hk : k < nk) (hQ : ∀ g1 g2, Q (some (.int (nI (tol bw qw (ki k) (aw (pl (fr k)) (pp (tg k))) (wh k) nw)))) hSH (upA (upA I 101 g1) 102 g2) J (hRR lt tx)) : HC l mX12_toldOf (dp + 3) 0 0 [.ref 82, .int (nI k)] hSH I J (hRR lt tx) Q := by
  refine HC.of (by decide +kernel) rfl (Nat.le_of_ble_eq_true rfl) ?_
  show HV l mX12_toldOf (dp + 3) 0 0 0 [some (.ref 82), some (.int (nI k)), none] [] hSH I J (hRR lt tx) Q
  obtain ⟨hN, hw, ⟨hnp, hml, hnk, hpt, hsi⟩, ⟨hn8, hm2, hn24, hpW, hsW⟩, hL⟩ := id hG
  obtain ⟨hns, hnl, hpl, hlg⟩ := id hN
  obtain ⟨hn6, hl12, hW, hp99, hr99⟩ := id hw
  have q1 := hsW k hk
  have q2 := hp99 (fr k) (by omega)
  have q3 := hpW (tg k) (by omega)
  have q4 := aw_le q2 q3.1
  have q5 : 100 * (wh k / 100) + wh k % 100 = wh k := by omega
  refine h_aload_n dX12_toldOf_0 rfl ?_
  refine h_aload_n dX12_toldOf_1 rfl ?_
  refine h_getR dX12_toldOf_2 f_X12_19_10 rfl rfl ?_
  refine h_bipush dX12_toldOf_5 cb_7 ?_
  refine h_iload_n dX12_toldOf_7 rfl ?_
  refine h_imulN dX12_toldOf_8 ?_
  refine h_iconst dX12_toldOf_9 ci_1 ?_
  refine h_iaddN dX12_toldOf_10 ?_
  refine h_ialdN (j := (7 * k) + 1) dX12_toldOf_11 rfl rfl (by omega) rfl (hsi k (by omega)).2.1 ?_
  refine h_aload_n dX12_toldOf_12 rfl ?_
  refine h_getR dX12_toldOf_13 f_X12_19_10 rfl rfl ?_
  refine h_bipush dX12_toldOf_16 cb_7 ?_
  refine h_iload_n dX12_toldOf_18 rfl ?_
  refine h_imulN dX12_toldOf_19 ?_
  refine h_iconst dX12_toldOf_20 ci_2 ?_
  refine h_iaddN dX12_toldOf_21 ?_
  refine h_ialdN (j := (7 * k) + 2) dX12_toldOf_22 rfl rfl (by omega) rfl (hsi k (by omega)).2.2.1 ?_
  refine h_cV2 dX12_toldOf_23 k5_196 oVX12_awayOf rfl rfl ?_
  refine r_awayOf hG (by omega) (by omega) ?_
  refine h_istore_n dX12_toldOf_26 (Nat.le_of_ble_eq_true rfl) ?_
  refine h_aload_n dX12_toldOf_27 rfl ?_
  refine h_aload_n dX12_toldOf_28 rfl ?_
  refine h_getR dX12_toldOf_29 f_X12_19_10 rfl rfl ?_
  refine h_bipush dX12_toldOf_32 cb_7 ?_
  refine h_iload_n dX12_toldOf_34 rfl ?_
  refine h_imulN dX12_toldOf_35 ?_
  refine h_ialdN (j := 7 * k) dX12_toldOf_36 rfl rfl (by omega) rfl (hsi k (by omega)).1 ?_
  refine h_iload_n dX12_toldOf_37 rfl ?_
  refine h_aload_n dX12_toldOf_38 rfl ?_
  refine h_getR dX12_toldOf_39 f_X12_19_10 rfl rfl ?_
  refine h_bipush dX12_toldOf_42 cb_7 ?_
  refine h_iload_n dX12_toldOf_44 rfl ?_
  refine h_imulN dX12_toldOf_45 ?_
  refine h_iconst dX12_toldOf_46 ci_4 ?_
  refine h_iaddN dX12_toldOf_47 ?_
  refine h_ialdN (j := (7 * k) + 4) dX12_toldOf_48 rfl rfl (by omega) rfl (hsi k (by omega)).2.2.2.2.1 ?_
  refine h_aload_n dX12_toldOf_49 rfl ?_
  refine h_getR dX12_toldOf_50 f_X12_19_10 rfl rfl ?_
  refine h_bipush dX12_toldOf_53 cb_7 ?_
  refine h_iload_n dX12_toldOf_55 rfl ?_
  refine h_imulN dX12_toldOf_56 ?_
  refine h_iconst dX12_toldOf_57 ci_5 ?_
  refine h_iaddN dX12_toldOf_58 ?_
  refine h_ialdN (j := (7 * k) + 5) dX12_toldOf_59 rfl rfl (by omega) rfl (hsi k (by omega)).2.2.2.2.2.1 ?_
  refine h_cV4 dX12_toldOf_60 k6_32 oVX12_toldBy rfl rfl ?_
  refine r_toldBy hL (by omega) (by omega) (by omega) (by omega) (fun g1 g2 => ?_)
  rw [q5]
  refine h_ireturn dX12_toldOf_63 rfl ?_
  exact hQ g1 g2
theorem rW_le {I : hI} {nw : Nat} {bw : Nat → Nat} {qw : Nat → Nat → Nat → Nat → Bool} (h : rW I nw bw qw) {ki aw wh : Nat} : tol bw qw ki aw wh nw ≤ 99 := by
  obtain ⟨-, -, en, cw, hen, -⟩ := h
  exact tol_le nw (fun c hc => (hen c hc).2.2.2)
theorem r_footOf {l : Launch} {dp : Nat} {ns nl np ml nk nw : Nat} {pl fa fb sl pp pm ki fr tg wh bw : Nat → Nat} {rs sn : Nat → Int32} {fl : Nat → Bool} {qw : Nat → Nat → Nat → Nat → Bool} {I : hI} {J : hJ} {lt tx : Option Nat} {kn s p t : Nat} {x : Int32} {Q : hQ} (hG : rG I ns nl np ml nk nw pl fa fb sl pp pm ki fr tg wh bw rs sn fl qw) (hLv : rL I ns nl fa fb sl rs) (hkn : kn ≤ 5) (hs : s < ns) (hp : p < np) (ht : t ≤ 99) (hf : dist fa fb sl nl s < 1000000) (hQ : Q (some (.int (footF (lvl fa fb sl rs nl s) (leanF (pl s) np pp pm ml) x kn t (aw (pl s) (pp p))))) hSH I J (hRR lt tx)) : HC l mX12_footOf (dp + 2) 0 0 [.ref 82, .int (nI kn), .int (nI s), .int (nI p), .int x, .int (nI t)] hSH I J (hRR lt tx) Q := by
  refine HC.of (by decide +kernel) rfl (Nat.le_of_ble_eq_true rfl) ?_
  show HV l mX12_footOf (dp + 2) 0 0 0 [some (.ref 82), some (.int (nI kn)), some (.int (nI s)), some (.int (nI p)), some (.int x), some (.int (nI t)), none] [] hSH I J (hRR lt tx) Q
  obtain ⟨hN, hw, ⟨hnp, hml, hnk, hpt, hsi⟩, ⟨hn8, hm2, hn24, hpW, hsW⟩, hL⟩ := id hG
  obtain ⟨hns, hnl, hpl, hlg⟩ := id hN
  obtain ⟨hn6, hl12, hW, hp99, hr99⟩ := id hw
  have q2 := hp99 s hs
  have q3 := hpW p hp
  have q4 := aw_le q2 q3.1
  have q5 := aw_sq q2 q3.1
  refine h_aload_n dX12_footOf_0 rfl ?_
  refine h_iload_n dX12_footOf_1 rfl ?_
  refine h_iload_n dX12_footOf_2 rfl ?_
  refine h_cV2 dX12_footOf_3 k5_196 oVX12_awayOf rfl rfl ?_
  refine r_awayOf hG hs hp ?_
  refine h_istore dX12_footOf_6 (Nat.le_of_ble_eq_true rfl) ?_
  refine h_aload_n dX12_footOf_8 rfl ?_
  refine h_getR dX12_footOf_9 f_X12_37_10 rfl rfl ?_
  refine h_iload_n dX12_footOf_12 rfl ?_
  refine h_ialdN (j := s) dX12_footOf_13 rfl rfl (by omega) rfl (hLv.2.1 _ (by omega) hf) ?_
  refine h_iload dX12_footOf_14 rfl ?_
  refine h_aload_n dX12_footOf_16 rfl ?_
  refine h_iload_n dX12_footOf_17 rfl ?_
  refine h_iload dX12_footOf_18 rfl ?_
  refine h_iload dX12_footOf_20 rfl ?_
  refine h_cV3 dX12_footOf_22 k6_43 oVX12_bendBy rfl rfl ?_
  refine r_bendBy (by omega) (by omega) (by omega) ?_
  refine h_isub dX12_footOf_25 ?_
  refine h_aload_n dX12_footOf_26 rfl ?_
  refine h_iload_n dX12_footOf_27 rfl ?_
  refine h_cV1 dX12_footOf_28 k5_192 oVX12_leanAt rfl rfl ?_
  refine r_leanAt hG hs ?_
  refine h_isub dX12_footOf_31 ?_
  refine h_iload dX12_footOf_32 rfl ?_
  refine h_imul dX12_footOf_34 ?_
  refine h_bipush dX12_footOf_35 cb_10 ?_
  refine h_idiv dX12_footOf_37 (by decide) ?_
  refine h_iadd dX12_footOf_38 ?_
  refine h_iload dX12_footOf_39 rfl ?_
  refine h_iload dX12_footOf_41 rfl ?_
  refine h_imulN dX12_footOf_43 ?_
  refine h_sipush dX12_footOf_44 cs_200 ?_
  refine h_idivN dX12_footOf_47 (by omega) (by omega) (by omega) ?_
  refine h_iadd dX12_footOf_48 ?_
  refine h_ireturn dX12_footOf_49 rfl ?_
  exact hQ
theorem r_sightFoot {l : Launch} {dp : Nat} {ns nl np ml nk nw : Nat} {pl fa fb sl pp pm ki fr tg wh bw : Nat → Nat} {rs sn : Nat → Int32} {fl : Nat → Bool} {qw : Nat → Nat → Nat → Nat → Bool} {I : hI} {J : hJ} {lt tx : Option Nat} {k : Nat} {Q : hQ} (hG : rG I ns nl np ml nk nw pl fa fb sl pp pm ki fr tg wh bw rs sn fl qw) (hLv : rL I ns nl fa fb sl rs) (hk : k < nk) (hf : dist fa fb sl nl (fr k) < 1000000) (hQ : ∀ g1 g2, Q (some (.int (ftK nl np ml nw pl fa fb sl pp pm ki fr tg wh bw rs sn qw k))) hSH (upA (upA I 101 g1) 102 g2) J (hRR lt tx)) : HC l mX12_sightFoot (dp + 4) 0 0 [.ref 82, .int (nI k)] hSH I J (hRR lt tx) Q := by
  refine HC.of (by decide +kernel) rfl (Nat.le_of_ble_eq_true rfl) ?_
  show HV l mX12_sightFoot (dp + 4) 0 0 0 [some (.ref 82), some (.int (nI k))] [] hSH I J (hRR lt tx) Q
  obtain ⟨hN, hw, ⟨hnp, hml, hnk, hpt, hsi⟩, ⟨hn8, hm2, hn24, hpW, hsW⟩, hL⟩ := id hG
  obtain ⟨hns, hnl, hpl, hlg⟩ := id hN
  obtain ⟨hn6, hl12, hW, hp99, hr99⟩ := id hw
  have q1 := hsW k hk
  refine h_aload_n dX12_sightFoot_0 rfl ?_
  refine h_aload_n dX12_sightFoot_1 rfl ?_
  refine h_getR dX12_sightFoot_2 f_X12_19_10 rfl rfl ?_
  refine h_bipush dX12_sightFoot_5 cb_7 ?_
  refine h_iload_n dX12_sightFoot_7 rfl ?_
  refine h_imulN dX12_sightFoot_8 ?_
  refine h_ialdN (j := 7 * k) dX12_sightFoot_9 rfl rfl (by omega) rfl (hsi k (by omega)).1 ?_
  refine h_aload_n dX12_sightFoot_10 rfl ?_
  refine h_getR dX12_sightFoot_11 f_X12_19_10 rfl rfl ?_
  refine h_bipush dX12_sightFoot_14 cb_7 ?_
  refine h_iload_n dX12_sightFoot_16 rfl ?_
  refine h_imulN dX12_sightFoot_17 ?_
  refine h_iconst dX12_sightFoot_18 ci_1 ?_
  refine h_iaddN dX12_sightFoot_19 ?_
  refine h_ialdN (j := (7 * k) + 1) dX12_sightFoot_20 rfl rfl (by omega) rfl (hsi k (by omega)).2.1 ?_
  refine h_aload_n dX12_sightFoot_21 rfl ?_
  refine h_getR dX12_sightFoot_22 f_X12_19_10 rfl rfl ?_
  refine h_bipush dX12_sightFoot_25 cb_7 ?_
  refine h_iload_n dX12_sightFoot_27 rfl ?_
  refine h_imulN dX12_sightFoot_28 ?_
  refine h_iconst dX12_sightFoot_29 ci_2 ?_
  refine h_iaddN dX12_sightFoot_30 ?_
  refine h_ialdN (j := (7 * k) + 2) dX12_sightFoot_31 rfl rfl (by omega) rfl (hsi k (by omega)).2.2.1 ?_
  refine h_aload_n dX12_sightFoot_32 rfl ?_
  refine h_getR dX12_sightFoot_33 f_X12_19_10 rfl rfl ?_
  refine h_bipush dX12_sightFoot_36 cb_7 ?_
  refine h_iload_n dX12_sightFoot_38 rfl ?_
  refine h_imulN dX12_sightFoot_39 ?_
  refine h_iconst dX12_sightFoot_40 ci_3 ?_
  refine h_iaddN dX12_sightFoot_41 ?_
  refine h_ialdN (j := (7 * k) + 3) dX12_sightFoot_42 rfl rfl (by omega) rfl (hsi k (by omega)).2.2.2.1 ?_
  refine h_aload_n dX12_sightFoot_43 rfl ?_
  refine h_iload_n dX12_sightFoot_44 rfl ?_
  refine h_cV1 dX12_sightFoot_45 k6_28 oVX12_toldOf rfl rfl ?_
  refine r_toldOf hG hk (fun g1 g2 => ?_)
  refine h_cV5 dX12_sightFoot_48 k6_62 oVX12_footOf rfl rfl ?_
  refine r_footOf (I := upA (upA I 101 g1) 102 g2) hG hLv (by omega) (by omega) (by omega) (rW_le hL) hf ?_
  refine h_ireturn dX12_sightFoot_51 rfl ?_
  exact hQ g1 g2
theorem r_widthOf {l : Launch} {dp : Nat} {ns nl np ml nk nw : Nat} {pl fa fb sl pp pm ki fr tg wh bw : Nat → Nat} {rs sn : Nat → Int32} {fl : Nat → Bool} {qw : Nat → Nat → Nat → Nat → Bool} {I : hI} {J : hJ} {lt tx : Option Nat} {k : Nat} {Q : hQ} (hG : rG I ns nl np ml nk nw pl fa fb sl pp pm ki fr tg wh bw rs sn fl qw) (hLv : rL I ns nl fa fb sl rs) (hk : k < nk) (hQ : Q (some (.int (nI (rcK nl pl fa fb sl pp ki fr tg k)))) hSH I J (hRR lt tx)) : HC l mX12_widthOf (dp + 1) 0 0 [.ref 82, .int (nI k)] hSH I J (hRR lt tx) Q := by
  refine HC.of (by decide +kernel) rfl (Nat.le_of_ble_eq_true rfl) ?_
  show HV l mX12_widthOf (dp + 1) 0 0 0 [some (.ref 82), some (.int (nI k)), none] [] hSH I J (hRR lt tx) Q
  obtain ⟨hN, hw, ⟨hnp, hml, hnk, hpt, hsi⟩, ⟨hn8, hm2, hn24, hpW, hsW⟩, hL⟩ := id hG
  obtain ⟨hns, hnl, hpl, hlg⟩ := id hN
  obtain ⟨hn6, hl12, hW, hp99, hr99⟩ := id hw
  have q1 := hsW k hk
  have q2 := hp99 (fr k) (by omega)
  have q3 := hpW (tg k) (by omega)
  have q4 := aw_le q2 q3.1
  refine h_aload_n dX12_widthOf_0 rfl ?_
  refine h_getR dX12_widthOf_1 f_X12_19_10 rfl rfl ?_
  refine h_bipush dX12_widthOf_4 cb_7 ?_
  refine h_iload_n dX12_widthOf_6 rfl ?_
  refine h_imulN dX12_widthOf_7 ?_
  refine h_iconst dX12_widthOf_8 ci_1 ?_
  refine h_iaddN dX12_widthOf_9 ?_
  refine h_ialdN (j := (7 * k) + 1) dX12_widthOf_10 rfl rfl (by omega) rfl (hsi k (by omega)).2.1 ?_
  refine h_istore_n dX12_widthOf_11 (Nat.le_of_ble_eq_true rfl) ?_
  refine h_aload_n dX12_widthOf_12 rfl ?_
  refine h_getR dX12_widthOf_13 f_X12_19_10 rfl rfl ?_
  refine h_bipush dX12_widthOf_16 cb_7 ?_
  refine h_iload_n dX12_widthOf_18 rfl ?_
  refine h_imulN dX12_widthOf_19 ?_
  refine h_ialdN (j := 7 * k) dX12_widthOf_20 rfl rfl (by omega) rfl (hsi k (by omega)).1 ?_
  refine h_aload_n dX12_widthOf_21 rfl ?_
  refine h_iload_n dX12_widthOf_22 rfl ?_
  refine h_aload_n dX12_widthOf_23 rfl ?_
  refine h_getR dX12_widthOf_24 f_X12_19_10 rfl rfl ?_
  refine h_bipush dX12_widthOf_27 cb_7 ?_
  refine h_iload_n dX12_widthOf_29 rfl ?_
  refine h_imulN dX12_widthOf_30 ?_
  refine h_iconst dX12_widthOf_31 ci_2 ?_
  refine h_iaddN dX12_widthOf_32 ?_
  refine h_ialdN (j := (7 * k) + 2) dX12_widthOf_33 rfl rfl (by omega) rfl (hsi k (by omega)).2.2.1 ?_
  refine h_cV2 dX12_widthOf_34 k5_196 oVX12_awayOf rfl rfl ?_
  refine r_awayOf hG (by omega) (by omega) ?_
  refine h_cS2 dX12_widthOf_37 k6_47 oSX12_slackBy rfl ?_
  refine r_slackBy (by omega) (by omega) ?_
  refine h_aload_n dX12_widthOf_40 rfl ?_
  refine h_getR dX12_widthOf_41 f_X12_31_10 rfl rfl ?_
  refine h_iload_n dX12_widthOf_44 rfl ?_
  refine h_ialdN (j := fr k) dX12_widthOf_45 rfl rfl (by omega) rfl (hLv.1 _ (by omega)) ?_
  refine h_iaddN dX12_widthOf_46 ?_
  refine h_ireturn dX12_widthOf_47 rfl ?_
  exact hQ
theorem r_counts {l : Launch} {dp : Nat} {ns nl np ml nk nw : Nat} {pl fa fb sl pp pm ki fr tg wh bw : Nat → Nat} {rs sn : Nat → Int32} {fl : Nat → Bool} {qw : Nat → Nat → Nat → Nat → Bool} {I : hI} {J : hJ} {lt tx : Option Nat} {k : Nat} {Q : hQ} (hG : rG I ns nl np ml nk nw pl fa fb sl pp pm ki fr tg wh bw rs sn fl qw) (hLv : rL I ns nl fa fb sl rs) (hk : k < nk) (h1 : (cnK nl fa fb sl fr fl k = true) → Q (some (.int (nI 1))) hSH I J (hRR lt tx)) (h0 : ¬ ((cnK nl fa fb sl fr fl k = true)) → Q (some (.int (nI 0))) hSH I J (hRR lt tx)) : HC l mX12_counts (dp + 1) 0 0 [.ref 82, .int (nI k)] hSH I J (hRR lt tx) Q := by
  refine HC.of (by decide +kernel) rfl (Nat.le_of_ble_eq_true rfl) ?_
  show HV l mX12_counts (dp + 1) 0 0 0 [some (.ref 82), some (.int (nI k))] [] hSH I J (hRR lt tx) Q
  obtain ⟨hN, hw, ⟨hnp, hml, hnk, hpt, hsi⟩, ⟨hn8, hm2, hn24, hpW, hsW⟩, hL⟩ := id hG
  obtain ⟨hns, hnl, hpl, hlg⟩ := id hN
  obtain ⟨hn6, hl12, hW, hp99, hr99⟩ := id hw
  have q1 := hsW k hk
  refine h_aload_n dX12_counts_0 rfl ?_
  refine h_getR dX12_counts_1 f_X12_19_10 rfl rfl ?_
  refine h_bipush dX12_counts_4 cb_7 ?_
  refine h_iload_n dX12_counts_6 rfl ?_
  refine h_imulN dX12_counts_7 ?_
  refine h_bipush dX12_counts_8 cb_6 ?_
  refine h_iaddN dX12_counts_10 ?_
  refine h_ialdN (j := (7 * k) + 6) dX12_counts_11 rfl rfl (by omega) rfl (hsi k (by omega)).2.2.2.2.2.2 ?_
  refine h_iconst dX12_counts_12 ci_1 ?_
  refine h_icmpne (tgt := 38) dX12_counts_13 rfl (fun c_13 => ?_) (fun c_13 => ?_)
  · refine h_iconst dX12_counts_38 ci_0 ?_
    refine h_zreturn dX12_counts_39 rfl (by decide) ?_
    exact h0 (fun z => by
      unfold cnK at z
      simp at z
      rw [if_pos z.1] at c_13
      exact c_13 rfl)
  · refine h_aload_n dX12_counts_16 rfl ?_
    refine h_aload_n dX12_counts_17 rfl ?_
    refine h_getR dX12_counts_18 f_X12_19_10 rfl rfl ?_
    refine h_bipush dX12_counts_21 cb_7 ?_
    refine h_iload_n dX12_counts_23 rfl ?_
    refine h_imulN dX12_counts_24 ?_
    refine h_iconst dX12_counts_25 ci_1 ?_
    refine h_iaddN dX12_counts_26 ?_
    refine h_ialdN (j := (7 * k) + 1) dX12_counts_27 rfl rfl (by omega) rfl (hsi k (by omega)).2.1 ?_
    refine h_cV1 dX12_counts_28 k5_213 oVX12_hasLevel rfl rfl ?_
    refine r_hasLevel (f := dist fa fb sl nl) (by omega) hLv.1 (bf_le 6) (fun b2 => ?_) (fun b2 => ?_)
    · refine h_ifeq (tgt := 38) dX12_counts_31 rfl (fun c => absurd c (by decide)) (fun _ => ?_)
      refine h_iconst dX12_counts_34 ci_1 ?_
      refine h_goto (tgt := 39) dX12_counts_35 rfl ?_
      refine h_zreturn dX12_counts_39 rfl (by decide) ?_
      exact h1 (by
        have : fl k = true := by
          by_cases e : fl k = true
          · exact e
          · rw [if_neg e] at c_13; exact absurd c_13 (by decide)
        unfold cnK; simp [b2, this])
    · refine h_ifeq (tgt := 38) dX12_counts_31 rfl (fun _ => ?_) (fun c => absurd (by decide) c)
      refine h_iconst dX12_counts_38 ci_0 ?_
      refine h_zreturn dX12_counts_39 rfl (by decide) ?_
      exact h0 (by unfold cnK; simp [b2])
