def agF (D : Nat → Nat) : Nat → Option (Nat × Nat)
  | 0 => none
  | k + 1 => match agF D k with
    | none => some (k, D k)
    | some q => if D k < q.2 then some (k, D k) else some q
def agI (o : Option (Nat × Nat)) : Int32 := match o with
  | none => -3
  | some q => nI q.1
def lsA (z : Nat) (o : Option (Nat × Nat)) : Int32 := match o with
  | none => nI z
  | some q => nI q.2
theorem agF_some {D : Nat → Nat} : ∀ {k : Nat} {q : Nat × Nat}, agF D k = some q → q.1 < k ∧ q.2 = D q.1
  | 0, q, h => by cases h
  | k + 1, q, h => by
    unfold agF at h
    cases e : agF D k with
    | none => rw [e] at h; cases h; exact ⟨by show k < k + 1; omega, rfl⟩
    | some r =>
      rw [e] at h
      obtain ⟨h1, h2⟩ := agF_some e
      by_cases c : D k < r.2
      · have h : (if D k < r.2 then some (k, D k) else some r) = some q := h
        rw [if_pos c] at h; cases h; exact ⟨by show k < k + 1; omega, rfl⟩
      · have h : (if D k < r.2 then some (k, D k) else some r) = some q := h
        rw [if_neg c] at h; cases h; exact ⟨by omega, h2⟩
theorem dsm_leK {f : Nat → Nat} {K : Nat} (hK : K = 1000000) : ∀ n, dsm f n ≤ n * K
  | 0 => by simp [dsm]
  | n + 1 => by
    have := dsm_leK (f := f) hK n
    rw [Nat.succ_mul]
    unfold dsm
    by_cases e : f n < 1000000
    · rw [if_pos e]; omega
    · rw [if_neg e]; omega
theorem dsm_le6 {f : Nat → Nat} {n : Nat} (hn : n ≤ 6) : dsm f n ≤ 6000000 := by
  have h1 := dsm_leK (f := f) rfl n
  have h2 : n * 1000000 ≤ 6 * 1000000 := Nat.mul_le_mul_right _ hn
  exact Nat.le_trans h1 (Nat.le_trans h2 (by decide))
theorem dsm_45 {f : Nat → Nat} : ∀ n, (∀ s, s < n → f s < 1000000 → f s ≤ 45) → dsm f n ≤ n * 45
  | 0, _ => by simp [dsm]
  | n + 1, h => by
    have := dsm_45 (f := f) n (fun s hs => h s (by omega))
    have h2 := h n (by omega)
    unfold dsm
    by_cases e : f n < 1000000
    · rw [if_pos e]; have := h2 e; omega
    · rw [if_neg e]; omega
theorem nI_nem3 {x : Nat} (h : x < 2147483648) : ¬ nI x = -3 := by
  intro e
  have := congrArg Int32.toInt e
  rw [nI_toInt h, show (-3 : Int32).toInt = -3 by decide] at this
  omega
theorem rN_sl {I : hI} {ns nl k w : Nat} {pl fa fb sl : Nat → Nat} {rs : Nat → Int32} (hN : rN I ns nl pl fa fb sl rs) : rN (upI I 84 (4 * k + 3) (nI w)) ns nl pl fa fb (upn sl k w) rs := by
  obtain ⟨h1, h2, h3, h4⟩ := hN
  refine ⟨h1, h2, h3, fun j hj => ?_⟩
  obtain ⟨q1, q2, q3, q4⟩ := h4 j hj
  rw [upI_s]
  refine ⟨by rw [upd_n _ _ (by omega)]; exact q1, by rw [upd_n _ _ (by omega)]; exact q2, by rw [upd_n _ _ (by omega)]; exact q3, ?_⟩
  by_cases e : j = k
  · subst e; rw [upd_s, upn_s]
  · rw [upd_n _ _ (by omega), upn_n _ _ e]; exact q4
theorem rN_rs {I : hI} {ns nl k : Nat} {pl fa fb sl : Nat → Nat} {rs : Nat → Int32} {r : Int32} (hN : rN I ns nl pl fa fb sl rs) : rN (upI I 84 (4 * k + 2) r) ns nl pl fa fb sl (upd rs k r) := by
  obtain ⟨h1, h2, h3, h4⟩ := hN
  refine ⟨h1, h2, h3, fun j hj => ?_⟩
  obtain ⟨q1, q2, q3, q4⟩ := h4 j hj
  rw [upI_s]
  refine ⟨by rw [upd_n _ _ (by omega)]; exact q1, by rw [upd_n _ _ (by omega)]; exact q2, ?_, by rw [upd_n _ _ (by omega)]; exact q4⟩
  by_cases e : j = k
  · subst e; rw [upd_s, upd_s]
  · rw [upd_n _ _ (by omega), upd_n _ _ e]; exact q3
theorem rN_leg {I : hI} {ns nl a b w : Nat} {pl fa fb sl : Nat → Nat} {rs : Nat → Int32} {r : Int32} (hN : rN I ns nl pl fa fb sl rs) : rN (upI (upI (upI (upI (upI I 84 (4 * nl) (nI a)) 84 (4 * nl + 1) (nI b)) 84 (4 * nl + 2) r) 84 (4 * nl + 3) (nI w)) 82 2 (nI (nl + 1))) ns (nl + 1) pl (upn fa nl a) (upn fb nl b) (upn sl nl w) (upd rs nl r) := by
  obtain ⟨h1, h2, h3, h4⟩ := hN
  refine ⟨h1, rfl, h3, fun j hj => ?_⟩
  show upd (upd (upd (upd (I 84) (4 * nl) (nI a)) (4 * nl + 1) (nI b)) (4 * nl + 2) r) (4 * nl + 3) (nI w) (4 * j) = _ ∧ upd (upd (upd (upd (I 84) (4 * nl) (nI a)) (4 * nl + 1) (nI b)) (4 * nl + 2) r) (4 * nl + 3) (nI w) (4 * j + 1) = _ ∧ upd (upd (upd (upd (I 84) (4 * nl) (nI a)) (4 * nl + 1) (nI b)) (4 * nl + 2) r) (4 * nl + 3) (nI w) (4 * j + 2) = _ ∧ upd (upd (upd (upd (I 84) (4 * nl) (nI a)) (4 * nl + 1) (nI b)) (4 * nl + 2) r) (4 * nl + 3) (nI w) (4 * j + 3) = _
  by_cases e : j = nl
  · subst e
    rw [upn_s, upn_s, upn_s, upd_s]
    refine ⟨?_, ?_, ?_, ?_⟩
    · rw [upd_n _ _ (by omega), upd_n _ _ (by omega), upd_n _ _ (by omega), upd_s]
    · rw [upd_n _ _ (by omega), upd_n _ _ (by omega), upd_s]
    · rw [upd_n _ _ (by omega), upd_s]
    · rw [upd_s]
  · obtain ⟨q1, q2, q3, q4⟩ := h4 j (by omega)
    rw [upn_n _ _ e, upn_n _ _ e, upn_n _ _ e]
    refine ⟨?_, ?_, ?_, ?_⟩
    · rw [upd_n _ _ (by omega), upd_n _ _ (by omega), upd_n _ _ (by omega), upd_n _ _ (by omega)]; exact q1
    · rw [upd_n _ _ (by omega), upd_n _ _ (by omega), upd_n _ _ (by omega), upd_n _ _ (by omega)]; exact q2
    · rw [upd_n _ _ (by omega), upd_n _ _ (by omega), upd_n _ _ (by omega), upd_n _ _ (by omega), upd_n rs _ e]; exact q3
    · rw [upd_n _ _ (by omega), upd_n _ _ (by omega), upd_n _ _ (by omega), upd_n _ _ (by omega)]; exact q4
theorem ag_mem (I : hI) {j : Nat} {v u : Int32} (g g' : Nat → Int32) (hu : I 84 j = u) : upI (upA (upI (upA I 90 g) 84 j v) 90 g') 84 j u = upA I 90 g' := by
  funext x
  by_cases e : x = 84
  · subst e
    show upd (upd (I 84) j v) j u = I 84
    rw [upd_upd]
    funext i
    by_cases q : i = j
    · subst q; rw [upd_s]; exact hu.symm
    · rw [upd_n _ _ q]
  · by_cases e2 : x = 90
    · subst e2; simp [upI, upA]
    · simp [upI, upA, e, e2]
theorem c_again {l : Launch} {dp : Nat} {ns nl : Nat} {pl fa fb sl : Nat → Nat} {rs : Nat → Int32} {I : hI} {J : hJ} {lt tx : Option Nat} {Q : hQ} (hN : cN I 2 ns nl pl fa fb sl rs) (hw : netW ns nl pl fa fb sl rs) (hQ : ∀ g, Q (some (.int (agI (agF (fun k => dsm (dist fa fb (slE sl (nI k)) nl) ns) nl)))) hSH (upA I 11 g) J (hRR lt tx)) : HC l mX11_again (dp + 3) 0 0 [.ref 0] hSH I J (hRR lt tx) Q := by
  refine HC.of (by decide +kernel) rfl (Nat.le_of_ble_eq_true rfl) ?_
  obtain ⟨hns, hnl, hpl, hlg⟩ := id hN
  obtain ⟨hn6, hl12, hW, hp99, hr99⟩ := id hw
  have hD : ∀ k, (fun k => dsm (dist fa fb (slE sl (nI k)) nl) ns) k ≤ 6000000 := fun k => dsm_le6 hn6
  have Lo : ∀ (m k : Nat) (g : Nat → Int32), nl - k < m → k ≤ nl → ∀ z4, HV l mX11_again (dp + 3) 0 0 7 [some (.ref 0), some (.int (agI (agF (fun k => dsm (dist fa fb (slE sl (nI k)) nl) ns) k))), some (.int (lsA 0 (agF (fun k => dsm (dist fa fb (slE sl (nI k)) nl) ns) k))), some (.int (nI k)), z4] [] hSH (upA I 11 g) J (hRR lt tx) Q := by
    intro m
    induction m with
    | zero => intro k g h1 h2 z4; omega
    | succ m ih =>
      intro k g h1 h2 z4
      have hDk : dsm (dist fa fb (slE sl (nI k)) nl) ns ≤ 6000000 := hD k
      cases e0 : agF (fun k => dsm (dist fa fb (slE sl (nI k)) nl) ns) k with
      | none =>
        show HV l mX11_again (dp + 3) 0 0 7 [some (.ref 0), some (.int (-3)), some (.int (nI 0)), some (.int (nI k)), z4] [] hSH (upA I 11 g) J (hRR lt tx) Q
        refine h_iload_n dX11_again_7 rfl ?_
        refine h_aload_n dX11_again_8 rfl ?_
        refine h_getR dX11_again_9 f_X11_20_9 rfl rfl ?_
        refine h_getI dX11_again_12 f_X11_124_5 rfl hnl ?_
        refine h_icmpge (tgt := 51) dX11_again_15 rfl (fun c_15 => ?_) (fun c_15 => ?_)
        · rw [nI_leI (by omega) (by omega)] at c_15
          refine h_iload_n dX11_again_51 rfl ?_
          refine h_ireturn dX11_again_52 rfl ?_
          have ek : nl = k := by omega
          subst ek
          have := hQ g
          rw [e0] at this
          exact this
        · rw [nI_leI (by omega) (by omega)] at c_15
          refine h_aload_n dX11_again_18 rfl ?_
          refine h_getR dX11_again_19 f_X11_20_9 rfl rfl ?_
          refine h_iload_n dX11_again_22 rfl ?_
          refine h_cV1 dX11_again_23 k2_232 oVX5_doubtsWithEasy rfl rfl ?_
          refine c_easy (I := upA I 11 g) hN hw (fun g2 => ?_)
          rw [upA_A]
          refine h_istore dX11_again_26 (Nat.le_of_ble_eq_true rfl) ?_
          refine h_iload_n dX11_again_28 rfl ?_
          refine h_bipush dX11_again_29 cb_m3 ?_
          refine h_icmpeq (tgt := 40) dX11_again_31 rfl (fun _ => ?_) (fun c => absurd (by decide) c)
          refine h_iload_n dX11_again_40 rfl ?_
          refine h_istore_n dX11_again_41 (Nat.le_of_ble_eq_true rfl) ?_
          refine h_iload dX11_again_42 rfl ?_
          refine h_istore_n dX11_again_44 (Nat.le_of_ble_eq_true rfl) ?_
          refine h_iinc (v := nI (k + 1)) dX11_again_45 rfl (nI_1 _) (Nat.le_of_ble_eq_true rfl) ?_
          refine h_goto (tgt := 7) dX11_again_48 rfl ?_
          have h3 := ih (k + 1) g2 (by omega) (by omega)
          rw [show agF (fun k => dsm (dist fa fb (slE sl (nI k)) nl) ns) (k + 1) = some (k, dsm (dist fa fb (slE sl (nI k)) nl) ns) by unfold agF; rw [e0]] at h3
          exact h3 _
      | some q =>
        obtain ⟨hq1, hq2⟩ := agF_some e0
        have hq3 : dsm (dist fa fb (slE sl (nI q.1)) nl) ns ≤ 6000000 := hD q.1
        have hq2 : q.2 = dsm (dist fa fb (slE sl (nI q.1)) nl) ns := hq2
        rw [← hq2] at hq3
        show HV l mX11_again (dp + 3) 0 0 7 [some (.ref 0), some (.int (nI q.1)), some (.int (nI q.2)), some (.int (nI k)), z4] [] hSH (upA I 11 g) J (hRR lt tx) Q
        refine h_iload_n dX11_again_7 rfl ?_
        refine h_aload_n dX11_again_8 rfl ?_
        refine h_getR dX11_again_9 f_X11_20_9 rfl rfl ?_
        refine h_getI dX11_again_12 f_X11_124_5 rfl hnl ?_
        refine h_icmpge (tgt := 51) dX11_again_15 rfl (fun c_15 => ?_) (fun c_15 => ?_)
        · rw [nI_leI (by omega) (by omega)] at c_15
          refine h_iload_n dX11_again_51 rfl ?_
          refine h_ireturn dX11_again_52 rfl ?_
          have ek : nl = k := by omega
          subst ek
          have := hQ g
          rw [e0] at this
          exact this
        · rw [nI_leI (by omega) (by omega)] at c_15
          refine h_aload_n dX11_again_18 rfl ?_
          refine h_getR dX11_again_19 f_X11_20_9 rfl rfl ?_
          refine h_iload_n dX11_again_22 rfl ?_
          refine h_cV1 dX11_again_23 k2_232 oVX5_doubtsWithEasy rfl rfl ?_
          refine c_easy (I := upA I 11 g) hN hw (fun g2 => ?_)
          rw [upA_A]
          refine h_istore dX11_again_26 (Nat.le_of_ble_eq_true rfl) ?_
          refine h_iload_n dX11_again_28 rfl ?_
          refine h_bipush dX11_again_29 cb_m3 ?_
          refine h_icmpeq (tgt := 40) dX11_again_31 rfl (fun c_31 => ?_) (fun c_31 => ?_)
          · exact absurd c_31 (nI_nem3 (by omega))
          · refine h_iload dX11_again_34 rfl ?_
            refine h_iload_n dX11_again_36 rfl ?_
            refine h_icmpge (tgt := 45) dX11_again_37 rfl (fun c_37 => ?_) (fun c_37 => ?_)
            · rw [nI_leI (by omega) (by omega)] at c_37
              refine h_iinc (v := nI (k + 1)) dX11_again_45 rfl (nI_1 _) (Nat.le_of_ble_eq_true rfl) ?_
              refine h_goto (tgt := 7) dX11_again_48 rfl ?_
              have h3 := ih (k + 1) g2 (by omega) (by omega)
              rw [show agF (fun k => dsm (dist fa fb (slE sl (nI k)) nl) ns) (k + 1) = some q by unfold agF; rw [e0]; exact if_neg (by omega)] at h3
              exact h3 _
            · rw [nI_leI (by omega) (by omega)] at c_37
              refine h_iload_n dX11_again_40 rfl ?_
              refine h_istore_n dX11_again_41 (Nat.le_of_ble_eq_true rfl) ?_
              refine h_iload dX11_again_42 rfl ?_
              refine h_istore_n dX11_again_44 (Nat.le_of_ble_eq_true rfl) ?_
              refine h_iinc (v := nI (k + 1)) dX11_again_45 rfl (nI_1 _) (Nat.le_of_ble_eq_true rfl) ?_
              refine h_goto (tgt := 7) dX11_again_48 rfl ?_
              have h3 := ih (k + 1) g2 (by omega) (by omega)
              rw [show agF (fun k => dsm (dist fa fb (slE sl (nI k)) nl) ns) (k + 1) = some (k, dsm (dist fa fb (slE sl (nI k)) nl) ns) by unfold agF; rw [e0]; exact if_pos (by omega)] at h3
              exact h3 _
  have h0 := Lo (nl + 1) 0 (I 11) (by omega) (by omega)
  rw [upA_id] at h0
  show HV l mX11_again (dp + 3) 0 0 0 [some (.ref 0), none, none, none, none] [] hSH I J (hRR lt tx) Q
  refine h_bipush dX11_again_0 cb_m3 ?_
  refine h_istore_n dX11_again_2 (Nat.le_of_ble_eq_true rfl) ?_
  refine h_iconst dX11_again_3 ci_0 ?_
  refine h_istore_n dX11_again_4 (Nat.le_of_ble_eq_true rfl) ?_
  refine h_iconst dX11_again_5 ci_0 ?_
  refine h_istore_n dX11_again_6 (Nat.le_of_ble_eq_true rfl) ?_
  exact h0 _
theorem r_again {l : Launch} {dp : Nat} {ns nl : Nat} {pl fa fb sl : Nat → Nat} {rs : Nat → Int32} {I : hI} {J : hJ} {lt tx : Option Nat} {Q : hQ} (hN : rN I ns nl pl fa fb sl rs) (hw : netW ns nl pl fa fb sl rs) (hQ : ∀ g, Q (some (.int (agI (agF (fun k => dsm (dist fa fb (slE sl (nI k)) nl) ns) nl)))) hSH (upA I 90 g) J (hRR lt tx)) : HC l mX12_again (dp + 3) 0 0 [.ref 82] hSH I J (hRR lt tx) Q := by
  refine HC.of (by decide +kernel) rfl (Nat.le_of_ble_eq_true rfl) ?_
  obtain ⟨hns, hnl, hpl, hlg⟩ := id hN
  obtain ⟨hn6, hl12, hW, hp99, hr99⟩ := id hw
  have hS : ∀ k, k < nl → dist fa fb (upn sl k 1) nl = dist fa fb (slE sl (nI k)) nl := fun k hk => bf_congr (fun j hj => by
    unfold upn slE
    by_cases e : j = k
    · rw [if_pos e, if_pos (by rw [e])]
    · rw [if_neg e, if_neg (by rw [nI_eq (by omega) (by omega)]; exact e)]) 6
  have hD : ∀ k, (fun k => dsm (dist fa fb (slE sl (nI k)) nl) ns) k ≤ 6000000 := fun k => dsm_le6 hn6
  have Lo : ∀ (m k : Nat) (g : Nat → Int32), nl - k < m → k ≤ nl → ∀ z4 z5, HV l mX12_again (dp + 3) 0 0 8 [some (.ref 82), some (.int (agI (agF (fun k => dsm (dist fa fb (slE sl (nI k)) nl) ns) k))), some (.int (lsA 1000000 (agF (fun k => dsm (dist fa fb (slE sl (nI k)) nl) ns) k))), some (.int (nI k)), z4, z5] [] hSH (upA I 90 g) J (hRR lt tx) Q := by
    intro m
    induction m with
    | zero => intro k g h1 h2 z4 z5; omega
    | succ m ih =>
      intro k g h1 h2 z4 z5
      have hDk : dsm (dist fa fb (slE sl (nI k)) nl) ns ≤ 6000000 := hD k
      cases e0 : agF (fun k => dsm (dist fa fb (slE sl (nI k)) nl) ns) k with
      | none =>
        show HV l mX12_again (dp + 3) 0 0 8 [some (.ref 82), some (.int (-3)), some (.int (nI 1000000)), some (.int (nI k)), z4, z5] [] hSH (upA I 90 g) J (hRR lt tx) Q
        refine h_iload_n dX12_again_8 rfl ?_
        refine h_aload_n dX12_again_9 rfl ?_
        refine h_getI dX12_again_10 f_X12_120_10 rfl hnl ?_
        refine h_icmpge (tgt := 74) dX12_again_13 rfl (fun c_13 => ?_) (fun c_13 => ?_)
        · rw [nI_leI (by omega) (by omega)] at c_13
          refine h_iload_n dX12_again_74 rfl ?_
          refine h_ireturn dX12_again_75 rfl ?_
          have ek : nl = k := by omega
          subst ek
          have := hQ g
          rw [e0] at this
          exact this
        · rw [nI_leI (by omega) (by omega)] at c_13
          refine h_aload_n dX12_again_16 rfl ?_
          refine h_getR dX12_again_17 f_X12_13_10 rfl rfl ?_
          refine h_iconst dX12_again_20 ci_4 ?_
          refine h_iload_n dX12_again_21 rfl ?_
          refine h_imulN dX12_again_22 ?_
          refine h_iconst dX12_again_23 ci_3 ?_
          refine h_iaddN dX12_again_24 ?_
          refine h_ialdN (j := (4 * k) + 3) dX12_again_25 rfl rfl (by omega) rfl (hlg k (by omega)).2.2.2 ?_
          refine h_istore dX12_again_26 (Nat.le_of_ble_eq_true rfl) ?_
          refine h_aload_n dX12_again_28 rfl ?_
          refine h_getR dX12_again_29 f_X12_13_10 rfl rfl ?_
          refine h_iconst dX12_again_32 ci_4 ?_
          refine h_iload_n dX12_again_33 rfl ?_
          refine h_imulN dX12_again_34 ?_
          refine h_iconst dX12_again_35 ci_3 ?_
          refine h_iaddN dX12_again_36 ?_
          refine h_iconst dX12_again_37 ci_1 ?_
          refine h_iastN (j := (4 * k) + 3) dX12_again_38 rfl rfl (by omega) rfl ?_
          refine h_aload_n dX12_again_39 rfl ?_
          refine h_cV0 dX12_again_40 k5_226 oVX12_allDoubts rfl rfl ?_
          refine r_allDoubts (I := upI (upA I 90 g) 84 (4 * k + 3) (nI 1)) (rN_sl (I := upA I 90 g) hN) (netW_sl hw (by omega) (by omega)) (fun g2 => ?_)
          rw [hS k (by omega)]
          have h45 := dsm_45 (f := dist fa fb (slE sl (nI k)) nl) ns (fun s hs hf => dist_45 (slE_W hW (nI k)) hn6 hs hf)
          refine h_istore dX12_again_43 (Nat.le_of_ble_eq_true rfl) ?_
          refine h_aload_n dX12_again_45 rfl ?_
          refine h_getR dX12_again_46 f_X12_13_10 rfl rfl ?_
          refine h_iconst dX12_again_49 ci_4 ?_
          refine h_iload_n dX12_again_50 rfl ?_
          refine h_imulN dX12_again_51 ?_
          refine h_iconst dX12_again_52 ci_3 ?_
          refine h_iaddN dX12_again_53 ?_
          refine h_iload dX12_again_54 rfl ?_
          refine h_iastN (j := (4 * k) + 3) dX12_again_56 rfl rfl (by omega) rfl ?_
          refine h_iload dX12_again_57 rfl ?_
          refine h_iload_n dX12_again_59 rfl ?_
          refine h_icmpge (tgt := 68) dX12_again_60 rfl (fun c_60 => ?_) (fun c_60 => ?_)
          · rw [nI_leI (by omega) (by omega)] at c_60
            refine h_iinc (v := nI (k + 1)) dX12_again_68 rfl (nI_1 _) (Nat.le_of_ble_eq_true rfl) ?_
            refine h_goto (tgt := 8) dX12_again_71 rfl ?_
            exfalso
            omega
          · rw [nI_leI (by omega) (by omega)] at c_60
            refine h_iload dX12_again_63 rfl ?_
            refine h_istore_n dX12_again_65 (Nat.le_of_ble_eq_true rfl) ?_
            refine h_iload_n dX12_again_66 rfl ?_
            refine h_istore_n dX12_again_67 (Nat.le_of_ble_eq_true rfl) ?_
            refine h_iinc (v := nI (k + 1)) dX12_again_68 rfl (nI_1 _) (Nat.le_of_ble_eq_true rfl) ?_
            refine h_goto (tgt := 8) dX12_again_71 rfl ?_
            rw [ag_mem I g g2 (hlg k (by omega)).2.2.2]
            have h3 := ih (k + 1) g2 (by omega) (by omega)
            rw [show agF (fun k => dsm (dist fa fb (slE sl (nI k)) nl) ns) (k + 1) = some (k, dsm (dist fa fb (slE sl (nI k)) nl) ns) by unfold agF; rw [e0]] at h3
            exact h3 _ _
      | some q =>
        obtain ⟨hq1, hq2⟩ := agF_some e0
        have hq3 : dsm (dist fa fb (slE sl (nI q.1)) nl) ns ≤ 6000000 := hD q.1
        have hq2 : q.2 = dsm (dist fa fb (slE sl (nI q.1)) nl) ns := hq2
        rw [← hq2] at hq3
        show HV l mX12_again (dp + 3) 0 0 8 [some (.ref 82), some (.int (nI q.1)), some (.int (nI q.2)), some (.int (nI k)), z4, z5] [] hSH (upA I 90 g) J (hRR lt tx) Q
        refine h_iload_n dX12_again_8 rfl ?_
        refine h_aload_n dX12_again_9 rfl ?_
        refine h_getI dX12_again_10 f_X12_120_10 rfl hnl ?_
        refine h_icmpge (tgt := 74) dX12_again_13 rfl (fun c_13 => ?_) (fun c_13 => ?_)
        · rw [nI_leI (by omega) (by omega)] at c_13
          refine h_iload_n dX12_again_74 rfl ?_
          refine h_ireturn dX12_again_75 rfl ?_
          have ek : nl = k := by omega
          subst ek
          have := hQ g
          rw [e0] at this
          exact this
        · rw [nI_leI (by omega) (by omega)] at c_13
          refine h_aload_n dX12_again_16 rfl ?_
          refine h_getR dX12_again_17 f_X12_13_10 rfl rfl ?_
          refine h_iconst dX12_again_20 ci_4 ?_
          refine h_iload_n dX12_again_21 rfl ?_
          refine h_imulN dX12_again_22 ?_
          refine h_iconst dX12_again_23 ci_3 ?_
          refine h_iaddN dX12_again_24 ?_
          refine h_ialdN (j := (4 * k) + 3) dX12_again_25 rfl rfl (by omega) rfl (hlg k (by omega)).2.2.2 ?_
          refine h_istore dX12_again_26 (Nat.le_of_ble_eq_true rfl) ?_
          refine h_aload_n dX12_again_28 rfl ?_
          refine h_getR dX12_again_29 f_X12_13_10 rfl rfl ?_
          refine h_iconst dX12_again_32 ci_4 ?_
          refine h_iload_n dX12_again_33 rfl ?_
          refine h_imulN dX12_again_34 ?_
          refine h_iconst dX12_again_35 ci_3 ?_
          refine h_iaddN dX12_again_36 ?_
          refine h_iconst dX12_again_37 ci_1 ?_
          refine h_iastN (j := (4 * k) + 3) dX12_again_38 rfl rfl (by omega) rfl ?_
          refine h_aload_n dX12_again_39 rfl ?_
          refine h_cV0 dX12_again_40 k5_226 oVX12_allDoubts rfl rfl ?_
          refine r_allDoubts (I := upI (upA I 90 g) 84 (4 * k + 3) (nI 1)) (rN_sl (I := upA I 90 g) hN) (netW_sl hw (by omega) (by omega)) (fun g2 => ?_)
          rw [hS k (by omega)]
          have h45 := dsm_45 (f := dist fa fb (slE sl (nI k)) nl) ns (fun s hs hf => dist_45 (slE_W hW (nI k)) hn6 hs hf)
          refine h_istore dX12_again_43 (Nat.le_of_ble_eq_true rfl) ?_
          refine h_aload_n dX12_again_45 rfl ?_
          refine h_getR dX12_again_46 f_X12_13_10 rfl rfl ?_
          refine h_iconst dX12_again_49 ci_4 ?_
          refine h_iload_n dX12_again_50 rfl ?_
          refine h_imulN dX12_again_51 ?_
          refine h_iconst dX12_again_52 ci_3 ?_
          refine h_iaddN dX12_again_53 ?_
          refine h_iload dX12_again_54 rfl ?_
          refine h_iastN (j := (4 * k) + 3) dX12_again_56 rfl rfl (by omega) rfl ?_
          refine h_iload dX12_again_57 rfl ?_
          refine h_iload_n dX12_again_59 rfl ?_
          refine h_icmpge (tgt := 68) dX12_again_60 rfl (fun c_60 => ?_) (fun c_60 => ?_)
          · rw [nI_leI (by omega) (by omega)] at c_60
            refine h_iinc (v := nI (k + 1)) dX12_again_68 rfl (nI_1 _) (Nat.le_of_ble_eq_true rfl) ?_
            refine h_goto (tgt := 8) dX12_again_71 rfl ?_
            rw [ag_mem I g g2 (hlg k (by omega)).2.2.2]
            have h3 := ih (k + 1) g2 (by omega) (by omega)
            rw [show agF (fun k => dsm (dist fa fb (slE sl (nI k)) nl) ns) (k + 1) = some q by unfold agF; rw [e0]; exact if_neg (by omega)] at h3
            exact h3 _ _
          · rw [nI_leI (by omega) (by omega)] at c_60
            refine h_iload dX12_again_63 rfl ?_
            refine h_istore_n dX12_again_65 (Nat.le_of_ble_eq_true rfl) ?_
            refine h_iload_n dX12_again_66 rfl ?_
            refine h_istore_n dX12_again_67 (Nat.le_of_ble_eq_true rfl) ?_
            refine h_iinc (v := nI (k + 1)) dX12_again_68 rfl (nI_1 _) (Nat.le_of_ble_eq_true rfl) ?_
            refine h_goto (tgt := 8) dX12_again_71 rfl ?_
            rw [ag_mem I g g2 (hlg k (by omega)).2.2.2]
            have h3 := ih (k + 1) g2 (by omega) (by omega)
            rw [show agF (fun k => dsm (dist fa fb (slE sl (nI k)) nl) ns) (k + 1) = some (k, dsm (dist fa fb (slE sl (nI k)) nl) ns) by unfold agF; rw [e0]; exact if_pos (by omega)] at h3
            exact h3 _ _
  have h0 := Lo (nl + 1) 0 (I 90) (by omega) (by omega)
  rw [upA_id] at h0
  show HV l mX12_again (dp + 3) 0 0 0 [some (.ref 82), none, none, none, none, none] [] hSH I J (hRR lt tx) Q
  refine h_bipush dX12_again_0 cb_m3 ?_
  refine h_istore_n dX12_again_2 (Nat.le_of_ble_eq_true rfl) ?_
  refine h_ldc (v := nI 1000000) dX12_again_3 k5_208 ?_
  refine h_istore_n dX12_again_5 (Nat.le_of_ble_eq_true rfl) ?_
  refine h_iconst dX12_again_6 ci_0 ?_
  refine h_istore_n dX12_again_7 (Nat.le_of_ble_eq_true rfl) ?_
  exact h0 _ _
