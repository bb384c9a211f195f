theorem cpy_s {f g : Nat → Int32} {sp dp k : Nat} : va_cpy f g sp dp (k + 1) = upd (va_cpy f g sp dp k) (dp + k) (f (sp + k)) := by
  funext j
  unfold va_cpy upd
  by_cases e : j = dp + k
  · subst e
    rw [if_pos rfl, if_pos ⟨by omega, by omega⟩]
    congr 1
    omega
  · rw [if_neg e]
    show _ = if dp ≤ j ∧ j < dp + k then _ else _
    by_cases q : dp ≤ j ∧ j < dp + k
    · rw [if_pos q, if_pos ⟨q.1, by omega⟩]
    · rw [if_neg q, if_neg (by omega)]
theorem cpy_0 {f g : Nat → Int32} {sp dp : Nat} : va_cpy f g sp dp 0 = g := by
  funext j
  unfold va_cpy
  rw [if_neg (by omega)]
/-- after k moves -/
def mvI (I : hI) (a0 a1 sp dp k x : Nat) : hI := upI (upA I a1 (va_cpy (I a0) (I a1) sp dp k)) 82 52 (nI x)
theorem mv_0 {I : hI} {a0 a1 sp dp x : Nat} (h1 : a1 ≠ 82) (h : I 82 52 = nI x) : mvI I a0 a1 sp dp 0 x = I := by
  unfold mvI
  rw [cpy_0, upA_id]
  funext y
  by_cases e : y = 82
  · subst e
    rw [upI_s, ← h]
    funext j
    by_cases q : j = 52
    · subst q; rw [upd_s]
    · rw [upd_n _ _ q]
  · rw [upI_n _ _ _ e]
theorem mv_s {I : hI} {a0 a1 sp dp k x : Nat} (h1 : a1 ≠ 82) : upI (upI (mvI I a0 a1 sp dp k x) a1 (dp + k) (I a0 (sp + k))) 82 52 (nI (x + 1)) = mvI I a0 a1 sp dp (k + 1) (x + 1) := by
  unfold mvI
  rw [cpy_s]
  funext y
  by_cases e : y = 82
  · subst e
    have q : (82 : Nat) ≠ a1 := fun z => h1 z.symm
    rw [upI_s, upI_s, upI_n _ _ _ q, upI_s, upd_upd, upA_n _ _ q, upA_n _ _ q]
  · rw [upI_n _ _ _ e, upI_n _ _ _ e]
    by_cases q : y = a1
    · subst q
      rw [upI_s, upI_n _ _ _ e, upA_s, upA_s]
    · rw [upI_n _ _ _ q, upI_n _ _ _ e, upA_n _ _ q, upA_n _ _ q]
theorem r_move112_1 {l : Launch} {dp : Nat} {x : Nat} {I : hI} {J : hJ} {lt tx : Option Nat} {Q : hQ} (hx : I 82 52 = nI x) (hb : x + 6 ≤ 500) (hQ : Q none hSH (mvI I 112 111 0 x 6 (x + 6)) J (hRR lt tx))  : HC l mX12_move dp 0 0 [.ref 82, .ref 112, .int (nI 6), .int (nI 1)] hSH I J (hRR lt tx) Q := by
  refine HC.of (by decide +kernel) rfl (Nat.le_of_ble_eq_true rfl) ?_
  have Lo : ∀ (m k : Nat), 6 - k < m → k ≤ 6 → HV l mX12_move dp 0 0 3 [some (.ref 82), some (.ref 112), some (.int (nI 6)), some (.int (nI 1)), some (.int (nI k))] [] hSH (mvI I 112 111 0 x k (x + k)) J (hRR lt tx) Q := by
    intro m
    induction m with
    | zero => intro k h1 h2; omega
    | succ m ih =>
      intro k h1 h2
      refine h_iload dX12_move_3 rfl ?_
      refine h_iload_n dX12_move_5 rfl ?_
      refine h_icmpge (tgt := 58) dX12_move_6 rfl (fun c_6 => ?_) (fun c_6 => ?_)
      · rw [nI_leI (by omega) (by omega)] at c_6
        refine h_return dX12_move_58 rfl ?_
        have ek : k = 6 := by omega
        subst ek
        exact hQ
      · rw [nI_leI (by omega) (by omega)] at c_6
        refine h_iload_n dX12_move_9 rfl ?_
        refine h_ifeq (tgt := 29) dX12_move_10 rfl (fun c => absurd c (by decide)) (fun _ => ?_)
        refine h_aload_n dX12_move_13 rfl ?_
        refine h_getR dX12_move_14 f_X12_96_10 rfl rfl ?_
        refine h_aload_n dX12_move_17 rfl ?_
        refine h_getI dX12_move_18 f_X12_404_10 rfl (show _ = nI (x + k) from rfl) ?_
        refine h_aload_n dX12_move_21 rfl ?_
        refine h_iload dX12_move_22 rfl ?_
        refine h_ialdN (j := k) dX12_move_24 rfl rfl (by omega) rfl (show _ = I 112 (0 + k) by rw [Nat.zero_add]; rfl) ?_
        refine h_iastN (j := x + k) dX12_move_25 rfl rfl (by omega) rfl ?_
        refine h_goto (tgt := 42) dX12_move_26 rfl ?_
        refine h_aload_n dX12_move_42 rfl ?_
        refine h_dup dX12_move_43 rfl ?_
        refine h_getI dX12_move_44 f_X12_404_10 rfl (show _ = nI (x + k) from rfl) ?_
        refine h_iconst dX12_move_47 ci_1 ?_
        refine h_iaddN dX12_move_48 ?_
        refine h_putI dX12_move_49 f_X12_404_10 p_X12_10_52 (fun h => by cases h) rfl ?_
        refine h_iinc (v := nI (k + 1)) dX12_move_52 rfl (nI_1 _) (Nat.le_of_ble_eq_true rfl) ?_
        refine h_goto (tgt := 3) dX12_move_55 rfl ?_
        have e := mv_s (I := I) (a0 := 112) (a1 := 111) (sp := 0) (dp := x) (k := k) (x := x + k) (by decide)
        have h3 := ih (k + 1) (by omega) (by omega)
        rw [← Nat.add_assoc, ← e] at h3
        exact h3
  have h0 := Lo 7 0 (by omega) (by omega)
  rw [Nat.add_zero, mv_0 (by decide) hx] at h0
  show HV l mX12_move dp 0 0 0 [some (.ref 82), some (.ref 112), some (.int (nI 6)), some (.int (nI 1)), none] [] hSH I J (hRR lt tx) Q
  refine h_iconst dX12_move_0 ci_0 ?_
  refine h_istore dX12_move_1 (Nat.le_of_ble_eq_true rfl) ?_
  exact h0
theorem r_move112_0 {l : Launch} {dp : Nat} {x : Nat} {I : hI} {J : hJ} {lt tx : Option Nat} {Q : hQ} (hx : I 82 52 = nI x) (hb : x + 6 ≤ 500) (hQ : Q none hSH (mvI I 111 112 x 0 6 (x + 6)) J (hRR lt tx))  : HC l mX12_move dp 0 0 [.ref 82, .ref 112, .int (nI 6), .int (nI 0)] hSH I J (hRR lt tx) Q := by
  refine HC.of (by decide +kernel) rfl (Nat.le_of_ble_eq_true rfl) ?_
  have Lo : ∀ (m k : Nat), 6 - k < m → k ≤ 6 → HV l mX12_move dp 0 0 3 [some (.ref 82), some (.ref 112), some (.int (nI 6)), some (.int (nI 0)), some (.int (nI k))] [] hSH (mvI I 111 112 x 0 k (x + k)) J (hRR lt tx) Q := by
    intro m
    induction m with
    | zero => intro k h1 h2; omega
    | succ m ih =>
      intro k h1 h2
      refine h_iload dX12_move_3 rfl ?_
      refine h_iload_n dX12_move_5 rfl ?_
      refine h_icmpge (tgt := 58) dX12_move_6 rfl (fun c_6 => ?_) (fun c_6 => ?_)
      · rw [nI_leI (by omega) (by omega)] at c_6
        refine h_return dX12_move_58 rfl ?_
        have ek : k = 6 := by omega
        subst ek
        exact hQ
      · rw [nI_leI (by omega) (by omega)] at c_6
        refine h_iload_n dX12_move_9 rfl ?_
        refine h_ifeq (tgt := 29) dX12_move_10 rfl (fun _ => ?_) (fun c => absurd (by decide) c)
        refine h_aload_n dX12_move_29 rfl ?_
        refine h_iload dX12_move_30 rfl ?_
        refine h_aload_n dX12_move_32 rfl ?_
        refine h_getR dX12_move_33 f_X12_96_10 rfl rfl ?_
        refine h_aload_n dX12_move_36 rfl ?_
        refine h_getI dX12_move_37 f_X12_404_10 rfl (show _ = nI (x + k) from rfl) ?_
        refine h_ialdN (j := x + k) dX12_move_40 rfl rfl (by omega) rfl (show _ = I 111 (x + k) from rfl) ?_
        refine h_iastN (j := 0 + k) dX12_move_41 rfl (by rw [Nat.zero_add]) (by omega) rfl ?_
        refine h_aload_n dX12_move_42 rfl ?_
        refine h_dup dX12_move_43 rfl ?_
        refine h_getI dX12_move_44 f_X12_404_10 rfl (show _ = nI (x + k) from rfl) ?_
        refine h_iconst dX12_move_47 ci_1 ?_
        refine h_iaddN dX12_move_48 ?_
        refine h_putI dX12_move_49 f_X12_404_10 p_X12_10_52 (fun h => by cases h) rfl ?_
        refine h_iinc (v := nI (k + 1)) dX12_move_52 rfl (nI_1 _) (Nat.le_of_ble_eq_true rfl) ?_
        refine h_goto (tgt := 3) dX12_move_55 rfl ?_
        have e := mv_s (I := I) (a0 := 111) (a1 := 112) (sp := x) (dp := 0) (k := k) (x := x + k) (by decide)
        have h3 := ih (k + 1) (by omega) (by omega)
        rw [← Nat.add_assoc, ← e] at h3
        exact h3
  have h0 := Lo 7 0 (by omega) (by omega)
  rw [Nat.add_zero, mv_0 (by decide) hx] at h0
  show HV l mX12_move dp 0 0 0 [some (.ref 82), some (.ref 112), some (.int (nI 6)), some (.int (nI 0)), none] [] hSH I J (hRR lt tx) Q
  refine h_iconst dX12_move_0 ci_0 ?_
  refine h_istore dX12_move_1 (Nat.le_of_ble_eq_true rfl) ?_
  exact h0
theorem r_move83_1 {l : Launch} {dp : Nat} {x : Nat} {I : hI} {J : hJ} {lt tx : Option Nat} {Q : hQ} (hx : I 82 52 = nI x) (hb : x + 6 ≤ 500) (hQ : Q none hSH (mvI I 83 111 0 x 6 (x + 6)) J (hRR lt tx))  : HC l mX12_move dp 0 0 [.ref 82, .ref 83, .int (nI 6), .int (nI 1)] hSH I J (hRR lt tx) Q := by
  refine HC.of (by decide +kernel) rfl (Nat.le_of_ble_eq_true rfl) ?_
  have Lo : ∀ (m k : Nat), 6 - k < m → k ≤ 6 → HV l mX12_move dp 0 0 3 [some (.ref 82), some (.ref 83), some (.int (nI 6)), some (.int (nI 1)), some (.int (nI k))] [] hSH (mvI I 83 111 0 x k (x + k)) J (hRR lt tx) Q := by
    intro m
    induction m with
    | zero => intro k h1 h2; omega
    | succ m ih =>
      intro k h1 h2
      refine h_iload dX12_move_3 rfl ?_
      refine h_iload_n dX12_move_5 rfl ?_
      refine h_icmpge (tgt := 58) dX12_move_6 rfl (fun c_6 => ?_) (fun c_6 => ?_)
      · rw [nI_leI (by omega) (by omega)] at c_6
        refine h_return dX12_move_58 rfl ?_
        have ek : k = 6 := by omega
        subst ek
        exact hQ
      · rw [nI_leI (by omega) (by omega)] at c_6
        refine h_iload_n dX12_move_9 rfl ?_
        refine h_ifeq (tgt := 29) dX12_move_10 rfl (fun c => absurd c (by decide)) (fun _ => ?_)
        refine h_aload_n dX12_move_13 rfl ?_
        refine h_getR dX12_move_14 f_X12_96_10 rfl rfl ?_
        refine h_aload_n dX12_move_17 rfl ?_
        refine h_getI dX12_move_18 f_X12_404_10 rfl (show _ = nI (x + k) from rfl) ?_
        refine h_aload_n dX12_move_21 rfl ?_
        refine h_iload dX12_move_22 rfl ?_
        refine h_ialdN (j := k) dX12_move_24 rfl rfl (by omega) rfl (show _ = I 83 (0 + k) by rw [Nat.zero_add]; rfl) ?_
        refine h_iastN (j := x + k) dX12_move_25 rfl rfl (by omega) rfl ?_
        refine h_goto (tgt := 42) dX12_move_26 rfl ?_
        refine h_aload_n dX12_move_42 rfl ?_
        refine h_dup dX12_move_43 rfl ?_
        refine h_getI dX12_move_44 f_X12_404_10 rfl (show _ = nI (x + k) from rfl) ?_
        refine h_iconst dX12_move_47 ci_1 ?_
        refine h_iaddN dX12_move_48 ?_
        refine h_putI dX12_move_49 f_X12_404_10 p_X12_10_52 (fun h => by cases h) rfl ?_
        refine h_iinc (v := nI (k + 1)) dX12_move_52 rfl (nI_1 _) (Nat.le_of_ble_eq_true rfl) ?_
        refine h_goto (tgt := 3) dX12_move_55 rfl ?_
        have e := mv_s (I := I) (a0 := 83) (a1 := 111) (sp := 0) (dp := x) (k := k) (x := x + k) (by decide)
        have h3 := ih (k + 1) (by omega) (by omega)
        rw [← Nat.add_assoc, ← e] at h3
        exact h3
  have h0 := Lo 7 0 (by omega) (by omega)
  rw [Nat.add_zero, mv_0 (by decide) hx] at h0
  show HV l mX12_move dp 0 0 0 [some (.ref 82), some (.ref 83), some (.int (nI 6)), some (.int (nI 1)), none] [] hSH I J (hRR lt tx) Q
  refine h_iconst dX12_move_0 ci_0 ?_
  refine h_istore dX12_move_1 (Nat.le_of_ble_eq_true rfl) ?_
  exact h0
theorem r_move83_0 {l : Launch} {dp : Nat} {x : Nat} {I : hI} {J : hJ} {lt tx : Option Nat} {Q : hQ} (hx : I 82 52 = nI x) (hb : x + 6 ≤ 500) (hQ : Q none hSH (mvI I 111 83 x 0 6 (x + 6)) J (hRR lt tx))  : HC l mX12_move dp 0 0 [.ref 82, .ref 83, .int (nI 6), .int (nI 0)] hSH I J (hRR lt tx) Q := by
  refine HC.of (by decide +kernel) rfl (Nat.le_of_ble_eq_true rfl) ?_
  have Lo : ∀ (m k : Nat), 6 - k < m → k ≤ 6 → HV l mX12_move dp 0 0 3 [some (.ref 82), some (.ref 83), some (.int (nI 6)), some (.int (nI 0)), some (.int (nI k))] [] hSH (mvI I 111 83 x 0 k (x + k)) J (hRR lt tx) Q := by
    intro m
    induction m with
    | zero => intro k h1 h2; omega
    | succ m ih =>
      intro k h1 h2
      refine h_iload dX12_move_3 rfl ?_
      refine h_iload_n dX12_move_5 rfl ?_
      refine h_icmpge (tgt := 58) dX12_move_6 rfl (fun c_6 => ?_) (fun c_6 => ?_)
      · rw [nI_leI (by omega) (by omega)] at c_6
        refine h_return dX12_move_58 rfl ?_
        have ek : k = 6 := by omega
        subst ek
        exact hQ
      · rw [nI_leI (by omega) (by omega)] at c_6
        refine h_iload_n dX12_move_9 rfl ?_
        refine h_ifeq (tgt := 29) dX12_move_10 rfl (fun _ => ?_) (fun c => absurd (by decide) c)
        refine h_aload_n dX12_move_29 rfl ?_
        refine h_iload dX12_move_30 rfl ?_
        refine h_aload_n dX12_move_32 rfl ?_
        refine h_getR dX12_move_33 f_X12_96_10 rfl rfl ?_
        refine h_aload_n dX12_move_36 rfl ?_
        refine h_getI dX12_move_37 f_X12_404_10 rfl (show _ = nI (x + k) from rfl) ?_
        refine h_ialdN (j := x + k) dX12_move_40 rfl rfl (by omega) rfl (show _ = I 111 (x + k) from rfl) ?_
        refine h_iastN (j := 0 + k) dX12_move_41 rfl (by rw [Nat.zero_add]) (by omega) rfl ?_
        refine h_aload_n dX12_move_42 rfl ?_
        refine h_dup dX12_move_43 rfl ?_
        refine h_getI dX12_move_44 f_X12_404_10 rfl (show _ = nI (x + k) from rfl) ?_
        refine h_iconst dX12_move_47 ci_1 ?_
        refine h_iaddN dX12_move_48 ?_
        refine h_putI dX12_move_49 f_X12_404_10 p_X12_10_52 (fun h => by cases h) rfl ?_
        refine h_iinc (v := nI (k + 1)) dX12_move_52 rfl (nI_1 _) (Nat.le_of_ble_eq_true rfl) ?_
        refine h_goto (tgt := 3) dX12_move_55 rfl ?_
        have e := mv_s (I := I) (a0 := 111) (a1 := 83) (sp := x) (dp := 0) (k := k) (x := x + k) (by decide)
        have h3 := ih (k + 1) (by omega) (by omega)
        rw [← Nat.add_assoc, ← e] at h3
        exact h3
  have h0 := Lo 7 0 (by omega) (by omega)
  rw [Nat.add_zero, mv_0 (by decide) hx] at h0
  show HV l mX12_move dp 0 0 0 [some (.ref 82), some (.ref 83), some (.int (nI 6)), some (.int (nI 0)), none] [] hSH I J (hRR lt tx) Q
  refine h_iconst dX12_move_0 ci_0 ?_
  refine h_istore dX12_move_1 (Nat.le_of_ble_eq_true rfl) ?_
  exact h0
theorem r_move84_1 {l : Launch} {dp : Nat} {x : Nat} {I : hI} {J : hJ} {lt tx : Option Nat} {Q : hQ} (hx : I 82 52 = nI x) (hb : x + 48 ≤ 500) (hQ : Q none hSH (mvI I 84 111 0 x 48 (x + 48)) J (hRR lt tx))  : HC l mX12_move dp 0 0 [.ref 82, .ref 84, .int (nI 48), .int (nI 1)] hSH I J (hRR lt tx) Q := by
  refine HC.of (by decide +kernel) rfl (Nat.le_of_ble_eq_true rfl) ?_
  have Lo : ∀ (m k : Nat), 48 - k < m → k ≤ 48 → HV l mX12_move dp 0 0 3 [some (.ref 82), some (.ref 84), some (.int (nI 48)), some (.int (nI 1)), some (.int (nI k))] [] hSH (mvI I 84 111 0 x k (x + k)) J (hRR lt tx) Q := by
    intro m
    induction m with
    | zero => intro k h1 h2; omega
    | succ m ih =>
      intro k h1 h2
      refine h_iload dX12_move_3 rfl ?_
      refine h_iload_n dX12_move_5 rfl ?_
      refine h_icmpge (tgt := 58) dX12_move_6 rfl (fun c_6 => ?_) (fun c_6 => ?_)
      · rw [nI_leI (by omega) (by omega)] at c_6
        refine h_return dX12_move_58 rfl ?_
        have ek : k = 48 := by omega
        subst ek
        exact hQ
      · rw [nI_leI (by omega) (by omega)] at c_6
        refine h_iload_n dX12_move_9 rfl ?_
        refine h_ifeq (tgt := 29) dX12_move_10 rfl (fun c => absurd c (by decide)) (fun _ => ?_)
        refine h_aload_n dX12_move_13 rfl ?_
        refine h_getR dX12_move_14 f_X12_96_10 rfl rfl ?_
        refine h_aload_n dX12_move_17 rfl ?_
        refine h_getI dX12_move_18 f_X12_404_10 rfl (show _ = nI (x + k) from rfl) ?_
        refine h_aload_n dX12_move_21 rfl ?_
        refine h_iload dX12_move_22 rfl ?_
        refine h_ialdN (j := k) dX12_move_24 rfl rfl (by omega) rfl (show _ = I 84 (0 + k) by rw [Nat.zero_add]; rfl) ?_
        refine h_iastN (j := x + k) dX12_move_25 rfl rfl (by omega) rfl ?_
        refine h_goto (tgt := 42) dX12_move_26 rfl ?_
        refine h_aload_n dX12_move_42 rfl ?_
        refine h_dup dX12_move_43 rfl ?_
        refine h_getI dX12_move_44 f_X12_404_10 rfl (show _ = nI (x + k) from rfl) ?_
        refine h_iconst dX12_move_47 ci_1 ?_
        refine h_iaddN dX12_move_48 ?_
        refine h_putI dX12_move_49 f_X12_404_10 p_X12_10_52 (fun h => by cases h) rfl ?_
        refine h_iinc (v := nI (k + 1)) dX12_move_52 rfl (nI_1 _) (Nat.le_of_ble_eq_true rfl) ?_
        refine h_goto (tgt := 3) dX12_move_55 rfl ?_
        have e := mv_s (I := I) (a0 := 84) (a1 := 111) (sp := 0) (dp := x) (k := k) (x := x + k) (by decide)
        have h3 := ih (k + 1) (by omega) (by omega)
        rw [← Nat.add_assoc, ← e] at h3
        exact h3
  have h0 := Lo 49 0 (by omega) (by omega)
  rw [Nat.add_zero, mv_0 (by decide) hx] at h0
  show HV l mX12_move dp 0 0 0 [some (.ref 82), some (.ref 84), some (.int (nI 48)), some (.int (nI 1)), none] [] hSH I J (hRR lt tx) Q
  refine h_iconst dX12_move_0 ci_0 ?_
  refine h_istore dX12_move_1 (Nat.le_of_ble_eq_true rfl) ?_
  exact h0
theorem r_move84_0 {l : Launch} {dp : Nat} {x : Nat} {I : hI} {J : hJ} {lt tx : Option Nat} {Q : hQ} (hx : I 82 52 = nI x) (hb : x + 48 ≤ 500) (hQ : Q none hSH (mvI I 111 84 x 0 48 (x + 48)) J (hRR lt tx))  : HC l mX12_move dp 0 0 [.ref 82, .ref 84, .int (nI 48), .int (nI 0)] hSH I J (hRR lt tx) Q := by
  refine HC.of (by decide +kernel) rfl (Nat.le_of_ble_eq_true rfl) ?_
  have Lo : ∀ (m k : Nat), 48 - k < m → k ≤ 48 → HV l mX12_move dp 0 0 3 [some (.ref 82), some (.ref 84), some (.int (nI 48)), some (.int (nI 0)), some (.int (nI k))] [] hSH (mvI I 111 84 x 0 k (x + k)) J (hRR lt tx) Q := by
    intro m
    induction m with
    | zero => intro k h1 h2; omega
    | succ m ih =>
      intro k h1 h2
      refine h_iload dX12_move_3 rfl ?_
      refine h_iload_n dX12_move_5 rfl ?_
      refine h_icmpge (tgt := 58) dX12_move_6 rfl (fun c_6 => ?_) (fun c_6 => ?_)
      · rw [nI_leI (by omega) (by omega)] at c_6
        refine h_return dX12_move_58 rfl ?_
        have ek : k = 48 := by omega
        subst ek
        exact hQ
      · rw [nI_leI (by omega) (by omega)] at c_6
        refine h_iload_n dX12_move_9 rfl ?_
        refine h_ifeq (tgt := 29) dX12_move_10 rfl (fun _ => ?_) (fun c => absurd (by decide) c)
        refine h_aload_n dX12_move_29 rfl ?_
        refine h_iload dX12_move_30 rfl ?_
        refine h_aload_n dX12_move_32 rfl ?_
        refine h_getR dX12_move_33 f_X12_96_10 rfl rfl ?_
        refine h_aload_n dX12_move_36 rfl ?_
        refine h_getI dX12_move_37 f_X12_404_10 rfl (show _ = nI (x + k) from rfl) ?_
        refine h_ialdN (j := x + k) dX12_move_40 rfl rfl (by omega) rfl (show _ = I 111 (x + k) from rfl) ?_
        refine h_iastN (j := 0 + k) dX12_move_41 rfl (by rw [Nat.zero_add]) (by omega) rfl ?_
        refine h_aload_n dX12_move_42 rfl ?_
        refine h_dup dX12_move_43 rfl ?_
        refine h_getI dX12_move_44 f_X12_404_10 rfl (show _ = nI (x + k) from rfl) ?_
        refine h_iconst dX12_move_47 ci_1 ?_
        refine h_iaddN dX12_move_48 ?_
        refine h_putI dX12_move_49 f_X12_404_10 p_X12_10_52 (fun h => by cases h) rfl ?_
        refine h_iinc (v := nI (k + 1)) dX12_move_52 rfl (nI_1 _) (Nat.le_of_ble_eq_true rfl) ?_
        refine h_goto (tgt := 3) dX12_move_55 rfl ?_
        have e := mv_s (I := I) (a0 := 111) (a1 := 84) (sp := x) (dp := 0) (k := k) (x := x + k) (by decide)
        have h3 := ih (k + 1) (by omega) (by omega)
        rw [← Nat.add_assoc, ← e] at h3
        exact h3
  have h0 := Lo 49 0 (by omega) (by omega)
  rw [Nat.add_zero, mv_0 (by decide) hx] at h0
  show HV l mX12_move dp 0 0 0 [some (.ref 82), some (.ref 84), some (.int (nI 48)), some (.int (nI 0)), none] [] hSH I J (hRR lt tx) Q
  refine h_iconst dX12_move_0 ci_0 ?_
  refine h_istore dX12_move_1 (Nat.le_of_ble_eq_true rfl) ?_
  exact h0
theorem r_move85_1 {l : Launch} {dp : Nat} {x : Nat} {I : hI} {J : hJ} {lt tx : Option Nat} {Q : hQ} (hx : I 82 52 = nI x) (hb : x + 16 ≤ 500) (hQ : Q none hSH (mvI I 85 111 0 x 16 (x + 16)) J (hRR lt tx))  : HC l mX12_move dp 0 0 [.ref 82, .ref 85, .int (nI 16), .int (nI 1)] hSH I J (hRR lt tx) Q := by
  refine HC.of (by decide +kernel) rfl (Nat.le_of_ble_eq_true rfl) ?_
  have Lo : ∀ (m k : Nat), 16 - k < m → k ≤ 16 → HV l mX12_move dp 0 0 3 [some (.ref 82), some (.ref 85), some (.int (nI 16)), some (.int (nI 1)), some (.int (nI k))] [] hSH (mvI I 85 111 0 x k (x + k)) J (hRR lt tx) Q := by
    intro m
    induction m with
    | zero => intro k h1 h2; omega
    | succ m ih =>
      intro k h1 h2
      refine h_iload dX12_move_3 rfl ?_
      refine h_iload_n dX12_move_5 rfl ?_
      refine h_icmpge (tgt := 58) dX12_move_6 rfl (fun c_6 => ?_) (fun c_6 => ?_)
      · rw [nI_leI (by omega) (by omega)] at c_6
        refine h_return dX12_move_58 rfl ?_
        have ek : k = 16 := by omega
        subst ek
        exact hQ
      · rw [nI_leI (by omega) (by omega)] at c_6
        refine h_iload_n dX12_move_9 rfl ?_
        refine h_ifeq (tgt := 29) dX12_move_10 rfl (fun c => absurd c (by decide)) (fun _ => ?_)
        refine h_aload_n dX12_move_13 rfl ?_
        refine h_getR dX12_move_14 f_X12_96_10 rfl rfl ?_
        refine h_aload_n dX12_move_17 rfl ?_
        refine h_getI dX12_move_18 f_X12_404_10 rfl (show _ = nI (x + k) from rfl) ?_
        refine h_aload_n dX12_move_21 rfl ?_
        refine h_iload dX12_move_22 rfl ?_
        refine h_ialdN (j := k) dX12_move_24 rfl rfl (by omega) rfl (show _ = I 85 (0 + k) by rw [Nat.zero_add]; rfl) ?_
        refine h_iastN (j := x + k) dX12_move_25 rfl rfl (by omega) rfl ?_
        refine h_goto (tgt := 42) dX12_move_26 rfl ?_
        refine h_aload_n dX12_move_42 rfl ?_
        refine h_dup dX12_move_43 rfl ?_
        refine h_getI dX12_move_44 f_X12_404_10 rfl (show _ = nI (x + k) from rfl) ?_
        refine h_iconst dX12_move_47 ci_1 ?_
        refine h_iaddN dX12_move_48 ?_
        refine h_putI dX12_move_49 f_X12_404_10 p_X12_10_52 (fun h => by cases h) rfl ?_
        refine h_iinc (v := nI (k + 1)) dX12_move_52 rfl (nI_1 _) (Nat.le_of_ble_eq_true rfl) ?_
        refine h_goto (tgt := 3) dX12_move_55 rfl ?_
        have e := mv_s (I := I) (a0 := 85) (a1 := 111) (sp := 0) (dp := x) (k := k) (x := x + k) (by decide)
        have h3 := ih (k + 1) (by omega) (by omega)
        rw [← Nat.add_assoc, ← e] at h3
        exact h3
  have h0 := Lo 17 0 (by omega) (by omega)
  rw [Nat.add_zero, mv_0 (by decide) hx] at h0
  show HV l mX12_move dp 0 0 0 [some (.ref 82), some (.ref 85), some (.int (nI 16)), some (.int (nI 1)), none] [] hSH I J (hRR lt tx) Q
  refine h_iconst dX12_move_0 ci_0 ?_
  refine h_istore dX12_move_1 (Nat.le_of_ble_eq_true rfl) ?_
  exact h0
theorem r_move85_0 {l : Launch} {dp : Nat} {x : Nat} {I : hI} {J : hJ} {lt tx : Option Nat} {Q : hQ} (hx : I 82 52 = nI x) (hb : x + 16 ≤ 500) (hQ : Q none hSH (mvI I 111 85 x 0 16 (x + 16)) J (hRR lt tx))  : HC l mX12_move dp 0 0 [.ref 82, .ref 85, .int (nI 16), .int (nI 0)] hSH I J (hRR lt tx) Q := by
  refine HC.of (by decide +kernel) rfl (Nat.le_of_ble_eq_true rfl) ?_
  have Lo : ∀ (m k : Nat), 16 - k < m → k ≤ 16 → HV l mX12_move dp 0 0 3 [some (.ref 82), some (.ref 85), some (.int (nI 16)), some (.int (nI 0)), some (.int (nI k))] [] hSH (mvI I 111 85 x 0 k (x + k)) J (hRR lt tx) Q := by
    intro m
    induction m with
    | zero => intro k h1 h2; omega
    | succ m ih =>
      intro k h1 h2
      refine h_iload dX12_move_3 rfl ?_
      refine h_iload_n dX12_move_5 rfl ?_
      refine h_icmpge (tgt := 58) dX12_move_6 rfl (fun c_6 => ?_) (fun c_6 => ?_)
      · rw [nI_leI (by omega) (by omega)] at c_6
        refine h_return dX12_move_58 rfl ?_
        have ek : k = 16 := by omega
        subst ek
        exact hQ
      · rw [nI_leI (by omega) (by omega)] at c_6
        refine h_iload_n dX12_move_9 rfl ?_
        refine h_ifeq (tgt := 29) dX12_move_10 rfl (fun _ => ?_) (fun c => absurd (by decide) c)
        refine h_aload_n dX12_move_29 rfl ?_
        refine h_iload dX12_move_30 rfl ?_
        refine h_aload_n dX12_move_32 rfl ?_
        refine h_getR dX12_move_33 f_X12_96_10 rfl rfl ?_
        refine h_aload_n dX12_move_36 rfl ?_
        refine h_getI dX12_move_37 f_X12_404_10 rfl (show _ = nI (x + k) from rfl) ?_
        refine h_ialdN (j := x + k) dX12_move_40 rfl rfl (by omega) rfl (show _ = I 111 (x + k) from rfl) ?_
        refine h_iastN (j := 0 + k) dX12_move_41 rfl (by rw [Nat.zero_add]) (by omega) rfl ?_
        refine h_aload_n dX12_move_42 rfl ?_
        refine h_dup dX12_move_43 rfl ?_
        refine h_getI dX12_move_44 f_X12_404_10 rfl (show _ = nI (x + k) from rfl) ?_
        refine h_iconst dX12_move_47 ci_1 ?_
        refine h_iaddN dX12_move_48 ?_
        refine h_putI dX12_move_49 f_X12_404_10 p_X12_10_52 (fun h => by cases h) rfl ?_
        refine h_iinc (v := nI (k + 1)) dX12_move_52 rfl (nI_1 _) (Nat.le_of_ble_eq_true rfl) ?_
        refine h_goto (tgt := 3) dX12_move_55 rfl ?_
        have e := mv_s (I := I) (a0 := 111) (a1 := 85) (sp := x) (dp := 0) (k := k) (x := x + k) (by decide)
        have h3 := ih (k + 1) (by omega) (by omega)
        rw [← Nat.add_assoc, ← e] at h3
        exact h3
  have h0 := Lo 17 0 (by omega) (by omega)
  rw [Nat.add_zero, mv_0 (by decide) hx] at h0
  show HV l mX12_move dp 0 0 0 [some (.ref 82), some (.ref 85), some (.int (nI 16)), some (.int (nI 0)), none] [] hSH I J (hRR lt tx) Q
  refine h_iconst dX12_move_0 ci_0 ?_
  refine h_istore dX12_move_1 (Nat.le_of_ble_eq_true rfl) ?_
  exact h0
theorem r_move86_1 {l : Launch} {dp : Nat} {x : Nat} {I : hI} {J : hJ} {lt tx : Option Nat} {Q : hQ} (hx : I 82 52 = nI x) (hb : x + 168 ≤ 500) (hQ : Q none hSH (mvI I 86 111 0 x 168 (x + 168)) J (hRR lt tx))  : HC l mX12_move dp 0 0 [.ref 82, .ref 86, .int (nI 168), .int (nI 1)] hSH I J (hRR lt tx) Q := by
  refine HC.of (by decide +kernel) rfl (Nat.le_of_ble_eq_true rfl) ?_
  have Lo : ∀ (m k : Nat), 168 - k < m → k ≤ 168 → HV l mX12_move dp 0 0 3 [some (.ref 82), some (.ref 86), some (.int (nI 168)), some (.int (nI 1)), some (.int (nI k))] [] hSH (mvI I 86 111 0 x k (x + k)) J (hRR lt tx) Q := by
    intro m
    induction m with
    | zero => intro k h1 h2; omega
    | succ m ih =>
      intro k h1 h2
      refine h_iload dX12_move_3 rfl ?_
      refine h_iload_n dX12_move_5 rfl ?_
      refine h_icmpge (tgt := 58) dX12_move_6 rfl (fun c_6 => ?_) (fun c_6 => ?_)
      · rw [nI_leI (by omega) (by omega)] at c_6
        refine h_return dX12_move_58 rfl ?_
        have ek : k = 168 := by omega
        subst ek
        exact hQ
      · rw [nI_leI (by omega) (by omega)] at c_6
        refine h_iload_n dX12_move_9 rfl ?_
        refine h_ifeq (tgt := 29) dX12_move_10 rfl (fun c => absurd c (by decide)) (fun _ => ?_)
        refine h_aload_n dX12_move_13 rfl ?_
        refine h_getR dX12_move_14 f_X12_96_10 rfl rfl ?_
        refine h_aload_n dX12_move_17 rfl ?_
        refine h_getI dX12_move_18 f_X12_404_10 rfl (show _ = nI (x + k) from rfl) ?_
        refine h_aload_n dX12_move_21 rfl ?_
        refine h_iload dX12_move_22 rfl ?_
        refine h_ialdN (j := k) dX12_move_24 rfl rfl (by omega) rfl (show _ = I 86 (0 + k) by rw [Nat.zero_add]; rfl) ?_
        refine h_iastN (j := x + k) dX12_move_25 rfl rfl (by omega) rfl ?_
        refine h_goto (tgt := 42) dX12_move_26 rfl ?_
        refine h_aload_n dX12_move_42 rfl ?_
        refine h_dup dX12_move_43 rfl ?_
        refine h_getI dX12_move_44 f_X12_404_10 rfl (show _ = nI (x + k) from rfl) ?_
        refine h_iconst dX12_move_47 ci_1 ?_
        refine h_iaddN dX12_move_48 ?_
        refine h_putI dX12_move_49 f_X12_404_10 p_X12_10_52 (fun h => by cases h) rfl ?_
        refine h_iinc (v := nI (k + 1)) dX12_move_52 rfl (nI_1 _) (Nat.le_of_ble_eq_true rfl) ?_
        refine h_goto (tgt := 3) dX12_move_55 rfl ?_
        have e := mv_s (I := I) (a0 := 86) (a1 := 111) (sp := 0) (dp := x) (k := k) (x := x + k) (by decide)
        have h3 := ih (k + 1) (by omega) (by omega)
        rw [← Nat.add_assoc, ← e] at h3
        exact h3
  have h0 := Lo 169 0 (by omega) (by omega)
  rw [Nat.add_zero, mv_0 (by decide) hx] at h0
  show HV l mX12_move dp 0 0 0 [some (.ref 82), some (.ref 86), some (.int (nI 168)), some (.int (nI 1)), none] [] hSH I J (hRR lt tx) Q
  refine h_iconst dX12_move_0 ci_0 ?_
  refine h_istore dX12_move_1 (Nat.le_of_ble_eq_true rfl) ?_
  exact h0
theorem r_move86_0 {l : Launch} {dp : Nat} {x : Nat} {I : hI} {J : hJ} {lt tx : Option Nat} {Q : hQ} (hx : I 82 52 = nI x) (hb : x + 168 ≤ 500) (hQ : Q none hSH (mvI I 111 86 x 0 168 (x + 168)) J (hRR lt tx))  : HC l mX12_move dp 0 0 [.ref 82, .ref 86, .int (nI 168), .int (nI 0)] hSH I J (hRR lt tx) Q := by
  refine HC.of (by decide +kernel) rfl (Nat.le_of_ble_eq_true rfl) ?_
  have Lo : ∀ (m k : Nat), 168 - k < m → k ≤ 168 → HV l mX12_move dp 0 0 3 [some (.ref 82), some (.ref 86), some (.int (nI 168)), some (.int (nI 0)), some (.int (nI k))] [] hSH (mvI I 111 86 x 0 k (x + k)) J (hRR lt tx) Q := by
    intro m
    induction m with
    | zero => intro k h1 h2; omega
    | succ m ih =>
      intro k h1 h2
      refine h_iload dX12_move_3 rfl ?_
      refine h_iload_n dX12_move_5 rfl ?_
      refine h_icmpge (tgt := 58) dX12_move_6 rfl (fun c_6 => ?_) (fun c_6 => ?_)
      · rw [nI_leI (by omega) (by omega)] at c_6
        refine h_return dX12_move_58 rfl ?_
        have ek : k = 168 := by omega
        subst ek
        exact hQ
      · rw [nI_leI (by omega) (by omega)] at c_6
        refine h_iload_n dX12_move_9 rfl ?_
        refine h_ifeq (tgt := 29) dX12_move_10 rfl (fun _ => ?_) (fun c => absurd (by decide) c)
        refine h_aload_n dX12_move_29 rfl ?_
        refine h_iload dX12_move_30 rfl ?_
        refine h_aload_n dX12_move_32 rfl ?_
        refine h_getR dX12_move_33 f_X12_96_10 rfl rfl ?_
        refine h_aload_n dX12_move_36 rfl ?_
        refine h_getI dX12_move_37 f_X12_404_10 rfl (show _ = nI (x + k) from rfl) ?_
        refine h_ialdN (j := x + k) dX12_move_40 rfl rfl (by omega) rfl (show _ = I 111 (x + k) from rfl) ?_
        refine h_iastN (j := 0 + k) dX12_move_41 rfl (by rw [Nat.zero_add]) (by omega) rfl ?_
        refine h_aload_n dX12_move_42 rfl ?_
        refine h_dup dX12_move_43 rfl ?_
        refine h_getI dX12_move_44 f_X12_404_10 rfl (show _ = nI (x + k) from rfl) ?_
        refine h_iconst dX12_move_47 ci_1 ?_
        refine h_iaddN dX12_move_48 ?_
        refine h_putI dX12_move_49 f_X12_404_10 p_X12_10_52 (fun h => by cases h) rfl ?_
        refine h_iinc (v := nI (k + 1)) dX12_move_52 rfl (nI_1 _) (Nat.le_of_ble_eq_true rfl) ?_
        refine h_goto (tgt := 3) dX12_move_55 rfl ?_
        have e := mv_s (I := I) (a0 := 111) (a1 := 86) (sp := x) (dp := 0) (k := k) (x := x + k) (by decide)
        have h3 := ih (k + 1) (by omega) (by omega)
        rw [← Nat.add_assoc, ← e] at h3
        exact h3
  have h0 := Lo 169 0 (by omega) (by omega)
  rw [Nat.add_zero, mv_0 (by decide) hx] at h0
  show HV l mX12_move dp 0 0 0 [some (.ref 82), some (.ref 86), some (.int (nI 168)), some (.int (nI 0)), none] [] hSH I J (hRR lt tx) Q
  refine h_iconst dX12_move_0 ci_0 ?_
  refine h_istore dX12_move_1 (Nat.le_of_ble_eq_true rfl) ?_
  exact h0
theorem r_move87_1 {l : Launch} {dp : Nat} {x : Nat} {I : hI} {J : hJ} {lt tx : Option Nat} {Q : hQ} (hx : I 82 52 = nI x) (hb : x + 8 ≤ 500) (hQ : Q none hSH (mvI I 87 111 0 x 8 (x + 8)) J (hRR lt tx))  : HC l mX12_move dp 0 0 [.ref 82, .ref 87, .int (nI 8), .int (nI 1)] hSH I J (hRR lt tx) Q := by
  refine HC.of (by decide +kernel) rfl (Nat.le_of_ble_eq_true rfl) ?_
  have Lo : ∀ (m k : Nat), 8 - k < m → k ≤ 8 → HV l mX12_move dp 0 0 3 [some (.ref 82), some (.ref 87), some (.int (nI 8)), some (.int (nI 1)), some (.int (nI k))] [] hSH (mvI I 87 111 0 x k (x + k)) J (hRR lt tx) Q := by
    intro m
    induction m with
    | zero => intro k h1 h2; omega
    | succ m ih =>
      intro k h1 h2
      refine h_iload dX12_move_3 rfl ?_
      refine h_iload_n dX12_move_5 rfl ?_
      refine h_icmpge (tgt := 58) dX12_move_6 rfl (fun c_6 => ?_) (fun c_6 => ?_)
      · rw [nI_leI (by omega) (by omega)] at c_6
        refine h_return dX12_move_58 rfl ?_
        have ek : k = 8 := by omega
        subst ek
        exact hQ
      · rw [nI_leI (by omega) (by omega)] at c_6
        refine h_iload_n dX12_move_9 rfl ?_
        refine h_ifeq (tgt := 29) dX12_move_10 rfl (fun c => absurd c (by decide)) (fun _ => ?_)
        refine h_aload_n dX12_move_13 rfl ?_
        refine h_getR dX12_move_14 f_X12_96_10 rfl rfl ?_
        refine h_aload_n dX12_move_17 rfl ?_
        refine h_getI dX12_move_18 f_X12_404_10 rfl (show _ = nI (x + k) from rfl) ?_
        refine h_aload_n dX12_move_21 rfl ?_
        refine h_iload dX12_move_22 rfl ?_
        refine h_ialdN (j := k) dX12_move_24 rfl rfl (by omega) rfl (show _ = I 87 (0 + k) by rw [Nat.zero_add]; rfl) ?_
        refine h_iastN (j := x + k) dX12_move_25 rfl rfl (by omega) rfl ?_
        refine h_goto (tgt := 42) dX12_move_26 rfl ?_
        refine h_aload_n dX12_move_42 rfl ?_
        refine h_dup dX12_move_43 rfl ?_
        refine h_getI dX12_move_44 f_X12_404_10 rfl (show _ = nI (x + k) from rfl) ?_
        refine h_iconst dX12_move_47 ci_1 ?_
        refine h_iaddN dX12_move_48 ?_
        refine h_putI dX12_move_49 f_X12_404_10 p_X12_10_52 (fun h => by cases h) rfl ?_
        refine h_iinc (v := nI (k + 1)) dX12_move_52 rfl (nI_1 _) (Nat.le_of_ble_eq_true rfl) ?_
        refine h_goto (tgt := 3) dX12_move_55 rfl ?_
        have e := mv_s (I := I) (a0 := 87) (a1 := 111) (sp := 0) (dp := x) (k := k) (x := x + k) (by decide)
        have h3 := ih (k + 1) (by omega) (by omega)
        rw [← Nat.add_assoc, ← e] at h3
        exact h3
  have h0 := Lo 9 0 (by omega) (by omega)
  rw [Nat.add_zero, mv_0 (by decide) hx] at h0
  show HV l mX12_move dp 0 0 0 [some (.ref 82), some (.ref 87), some (.int (nI 8)), some (.int (nI 1)), none] [] hSH I J (hRR lt tx) Q
  refine h_iconst dX12_move_0 ci_0 ?_
  refine h_istore dX12_move_1 (Nat.le_of_ble_eq_true rfl) ?_
  exact h0
theorem r_move87_0 {l : Launch} {dp : Nat} {x : Nat} {I : hI} {J : hJ} {lt tx : Option Nat} {Q : hQ} (hx : I 82 52 = nI x) (hb : x + 8 ≤ 500) (hQ : Q none hSH (mvI I 111 87 x 0 8 (x + 8)) J (hRR lt tx))  : HC l mX12_move dp 0 0 [.ref 82, .ref 87, .int (nI 8), .int (nI 0)] hSH I J (hRR lt tx) Q := by
  refine HC.of (by decide +kernel) rfl (Nat.le_of_ble_eq_true rfl) ?_
  have Lo : ∀ (m k : Nat), 8 - k < m → k ≤ 8 → HV l mX12_move dp 0 0 3 [some (.ref 82), some (.ref 87), some (.int (nI 8)), some (.int (nI 0)), some (.int (nI k))] [] hSH (mvI I 111 87 x 0 k (x + k)) J (hRR lt tx) Q := by
    intro m
    induction m with
    | zero => intro k h1 h2; omega
    | succ m ih =>
      intro k h1 h2
      refine h_iload dX12_move_3 rfl ?_
      refine h_iload_n dX12_move_5 rfl ?_
      refine h_icmpge (tgt := 58) dX12_move_6 rfl (fun c_6 => ?_) (fun c_6 => ?_)
      · rw [nI_leI (by omega) (by omega)] at c_6
        refine h_return dX12_move_58 rfl ?_
        have ek : k = 8 := by omega
        subst ek
        exact hQ
      · rw [nI_leI (by omega) (by omega)] at c_6
        refine h_iload_n dX12_move_9 rfl ?_
        refine h_ifeq (tgt := 29) dX12_move_10 rfl (fun _ => ?_) (fun c => absurd (by decide) c)
        refine h_aload_n dX12_move_29 rfl ?_
        refine h_iload dX12_move_30 rfl ?_
        refine h_aload_n dX12_move_32 rfl ?_
        refine h_getR dX12_move_33 f_X12_96_10 rfl rfl ?_
        refine h_aload_n dX12_move_36 rfl ?_
        refine h_getI dX12_move_37 f_X12_404_10 rfl (show _ = nI (x + k) from rfl) ?_
        refine h_ialdN (j := x + k) dX12_move_40 rfl rfl (by omega) rfl (show _ = I 111 (x + k) from rfl) ?_
        refine h_iastN (j := 0 + k) dX12_move_41 rfl (by rw [Nat.zero_add]) (by omega) rfl ?_
        refine h_aload_n dX12_move_42 rfl ?_
        refine h_dup dX12_move_43 rfl ?_
        refine h_getI dX12_move_44 f_X12_404_10 rfl (show _ = nI (x + k) from rfl) ?_
        refine h_iconst dX12_move_47 ci_1 ?_
        refine h_iaddN dX12_move_48 ?_
        refine h_putI dX12_move_49 f_X12_404_10 p_X12_10_52 (fun h => by cases h) rfl ?_
        refine h_iinc (v := nI (k + 1)) dX12_move_52 rfl (nI_1 _) (Nat.le_of_ble_eq_true rfl) ?_
        refine h_goto (tgt := 3) dX12_move_55 rfl ?_
        have e := mv_s (I := I) (a0 := 111) (a1 := 87) (sp := x) (dp := 0) (k := k) (x := x + k) (by decide)
        have h3 := ih (k + 1) (by omega) (by omega)
        rw [← Nat.add_assoc, ← e] at h3
        exact h3
  have h0 := Lo 9 0 (by omega) (by omega)
  rw [Nat.add_zero, mv_0 (by decide) hx] at h0
  show HV l mX12_move dp 0 0 0 [some (.ref 82), some (.ref 87), some (.int (nI 8)), some (.int (nI 0)), none] [] hSH I J (hRR lt tx) Q
  refine h_iconst dX12_move_0 ci_0 ?_
  refine h_istore dX12_move_1 (Nat.le_of_ble_eq_true rfl) ?_
  exact h0
theorem r_move88_1 {l : Launch} {dp : Nat} {x : Nat} {I : hI} {J : hJ} {lt tx : Option Nat} {Q : hQ} (hx : I 82 52 = nI x) (hb : x + 8 ≤ 500) (hQ : Q none hSH (mvI I 88 111 0 x 8 (x + 8)) J (hRR lt tx))  : HC l mX12_move dp 0 0 [.ref 82, .ref 88, .int (nI 8), .int (nI 1)] hSH I J (hRR lt tx) Q := by
  refine HC.of (by decide +kernel) rfl (Nat.le_of_ble_eq_true rfl) ?_
  have Lo : ∀ (m k : Nat), 8 - k < m → k ≤ 8 → HV l mX12_move dp 0 0 3 [some (.ref 82), some (.ref 88), some (.int (nI 8)), some (.int (nI 1)), some (.int (nI k))] [] hSH (mvI I 88 111 0 x k (x + k)) J (hRR lt tx) Q := by
    intro m
    induction m with
    | zero => intro k h1 h2; omega
    | succ m ih =>
      intro k h1 h2
      refine h_iload dX12_move_3 rfl ?_
      refine h_iload_n dX12_move_5 rfl ?_
      refine h_icmpge (tgt := 58) dX12_move_6 rfl (fun c_6 => ?_) (fun c_6 => ?_)
      · rw [nI_leI (by omega) (by omega)] at c_6
        refine h_return dX12_move_58 rfl ?_
        have ek : k = 8 := by omega
        subst ek
        exact hQ
      · rw [nI_leI (by omega) (by omega)] at c_6
        refine h_iload_n dX12_move_9 rfl ?_
        refine h_ifeq (tgt := 29) dX12_move_10 rfl (fun c => absurd c (by decide)) (fun _ => ?_)
        refine h_aload_n dX12_move_13 rfl ?_
        refine h_getR dX12_move_14 f_X12_96_10 rfl rfl ?_
        refine h_aload_n dX12_move_17 rfl ?_
        refine h_getI dX12_move_18 f_X12_404_10 rfl (show _ = nI (x + k) from rfl) ?_
        refine h_aload_n dX12_move_21 rfl ?_
        refine h_iload dX12_move_22 rfl ?_
        refine h_ialdN (j := k) dX12_move_24 rfl rfl (by omega) rfl (show _ = I 88 (0 + k) by rw [Nat.zero_add]; rfl) ?_
        refine h_iastN (j := x + k) dX12_move_25 rfl rfl (by omega) rfl ?_
        refine h_goto (tgt := 42) dX12_move_26 rfl ?_
        refine h_aload_n dX12_move_42 rfl ?_
        refine h_dup dX12_move_43 rfl ?_
        refine h_getI dX12_move_44 f_X12_404_10 rfl (show _ = nI (x + k) from rfl) ?_
        refine h_iconst dX12_move_47 ci_1 ?_
        refine h_iaddN dX12_move_48 ?_
        refine h_putI dX12_move_49 f_X12_404_10 p_X12_10_52 (fun h => by cases h) rfl ?_
        refine h_iinc (v := nI (k + 1)) dX12_move_52 rfl (nI_1 _) (Nat.le_of_ble_eq_true rfl) ?_
        refine h_goto (tgt := 3) dX12_move_55 rfl ?_
        have e := mv_s (I := I) (a0 := 88) (a1 := 111) (sp := 0) (dp := x) (k := k) (x := x + k) (by decide)
        have h3 := ih (k + 1) (by omega) (by omega)
        rw [← Nat.add_assoc, ← e] at h3
        exact h3
  have h0 := Lo 9 0 (by omega) (by omega)
  rw [Nat.add_zero, mv_0 (by decide) hx] at h0
  show HV l mX12_move dp 0 0 0 [some (.ref 82), some (.ref 88), some (.int (nI 8)), some (.int (nI 1)), none] [] hSH I J (hRR lt tx) Q
  refine h_iconst dX12_move_0 ci_0 ?_
  refine h_istore dX12_move_1 (Nat.le_of_ble_eq_true rfl) ?_
  exact h0
theorem r_move88_0 {l : Launch} {dp : Nat} {x : Nat} {I : hI} {J : hJ} {lt tx : Option Nat} {Q : hQ} (hx : I 82 52 = nI x) (hb : x + 8 ≤ 500) (hQ : Q none hSH (mvI I 111 88 x 0 8 (x + 8)) J (hRR lt tx))  : HC l mX12_move dp 0 0 [.ref 82, .ref 88, .int (nI 8), .int (nI 0)] hSH I J (hRR lt tx) Q := by
  refine HC.of (by decide +kernel) rfl (Nat.le_of_ble_eq_true rfl) ?_
  have Lo : ∀ (m k : Nat), 8 - k < m → k ≤ 8 → HV l mX12_move dp 0 0 3 [some (.ref 82), some (.ref 88), some (.int (nI 8)), some (.int (nI 0)), some (.int (nI k))] [] hSH (mvI I 111 88 x 0 k (x + k)) J (hRR lt tx) Q := by
    intro m
    induction m with
    | zero => intro k h1 h2; omega
    | succ m ih =>
      intro k h1 h2
      refine h_iload dX12_move_3 rfl ?_
      refine h_iload_n dX12_move_5 rfl ?_
      refine h_icmpge (tgt := 58) dX12_move_6 rfl (fun c_6 => ?_) (fun c_6 => ?_)
      · rw [nI_leI (by omega) (by omega)] at c_6
        refine h_return dX12_move_58 rfl ?_
        have ek : k = 8 := by omega
        subst ek
        exact hQ
      · rw [nI_leI (by omega) (by omega)] at c_6
        refine h_iload_n dX12_move_9 rfl ?_
        refine h_ifeq (tgt := 29) dX12_move_10 rfl (fun _ => ?_) (fun c => absurd (by decide) c)
        refine h_aload_n dX12_move_29 rfl ?_
        refine h_iload dX12_move_30 rfl ?_
        refine h_aload_n dX12_move_32 rfl ?_
        refine h_getR dX12_move_33 f_X12_96_10 rfl rfl ?_
        refine h_aload_n dX12_move_36 rfl ?_
        refine h_getI dX12_move_37 f_X12_404_10 rfl (show _ = nI (x + k) from rfl) ?_
        refine h_ialdN (j := x + k) dX12_move_40 rfl rfl (by omega) rfl (show _ = I 111 (x + k) from rfl) ?_
        refine h_iastN (j := 0 + k) dX12_move_41 rfl (by rw [Nat.zero_add]) (by omega) rfl ?_
        refine h_aload_n dX12_move_42 rfl ?_
        refine h_dup dX12_move_43 rfl ?_
        refine h_getI dX12_move_44 f_X12_404_10 rfl (show _ = nI (x + k) from rfl) ?_
        refine h_iconst dX12_move_47 ci_1 ?_
        refine h_iaddN dX12_move_48 ?_
        refine h_putI dX12_move_49 f_X12_404_10 p_X12_10_52 (fun h => by cases h) rfl ?_
        refine h_iinc (v := nI (k + 1)) dX12_move_52 rfl (nI_1 _) (Nat.le_of_ble_eq_true rfl) ?_
        refine h_goto (tgt := 3) dX12_move_55 rfl ?_
        have e := mv_s (I := I) (a0 := 111) (a1 := 88) (sp := x) (dp := 0) (k := k) (x := x + k) (by decide)
        have h3 := ih (k + 1) (by omega) (by omega)
        rw [← Nat.add_assoc, ← e] at h3
        exact h3
  have h0 := Lo 9 0 (by omega) (by omega)
  rw [Nat.add_zero, mv_0 (by decide) hx] at h0
  show HV l mX12_move dp 0 0 0 [some (.ref 82), some (.ref 88), some (.int (nI 8)), some (.int (nI 0)), none] [] hSH I J (hRR lt tx) Q
  refine h_iconst dX12_move_0 ci_0 ?_
  refine h_istore dX12_move_1 (Nat.le_of_ble_eq_true rfl) ?_
  exact h0
theorem r_move89_1 {l : Launch} {dp : Nat} {x : Nat} {I : hI} {J : hJ} {lt tx : Option Nat} {Q : hQ} (hx : I 82 52 = nI x) (hb : x + 210 ≤ 500) (hQ : Q none hSH (mvI I 89 111 0 x 210 (x + 210)) J (hRR lt tx))  : HC l mX12_move dp 0 0 [.ref 82, .ref 89, .int (nI 210), .int (nI 1)] hSH I J (hRR lt tx) Q := by
  refine HC.of (by decide +kernel) rfl (Nat.le_of_ble_eq_true rfl) ?_
  have Lo : ∀ (m k : Nat), 210 - k < m → k ≤ 210 → HV l mX12_move dp 0 0 3 [some (.ref 82), some (.ref 89), some (.int (nI 210)), some (.int (nI 1)), some (.int (nI k))] [] hSH (mvI I 89 111 0 x k (x + k)) J (hRR lt tx) Q := by
    intro m
    induction m with
    | zero => intro k h1 h2; omega
    | succ m ih =>
      intro k h1 h2
      refine h_iload dX12_move_3 rfl ?_
      refine h_iload_n dX12_move_5 rfl ?_
      refine h_icmpge (tgt := 58) dX12_move_6 rfl (fun c_6 => ?_) (fun c_6 => ?_)
      · rw [nI_leI (by omega) (by omega)] at c_6
        refine h_return dX12_move_58 rfl ?_
        have ek : k = 210 := by omega
        subst ek
        exact hQ
      · rw [nI_leI (by omega) (by omega)] at c_6
        refine h_iload_n dX12_move_9 rfl ?_
        refine h_ifeq (tgt := 29) dX12_move_10 rfl (fun c => absurd c (by decide)) (fun _ => ?_)
        refine h_aload_n dX12_move_13 rfl ?_
        refine h_getR dX12_move_14 f_X12_96_10 rfl rfl ?_
        refine h_aload_n dX12_move_17 rfl ?_
        refine h_getI dX12_move_18 f_X12_404_10 rfl (show _ = nI (x + k) from rfl) ?_
        refine h_aload_n dX12_move_21 rfl ?_
        refine h_iload dX12_move_22 rfl ?_
        refine h_ialdN (j := k) dX12_move_24 rfl rfl (by omega) rfl (show _ = I 89 (0 + k) by rw [Nat.zero_add]; rfl) ?_
        refine h_iastN (j := x + k) dX12_move_25 rfl rfl (by omega) rfl ?_
        refine h_goto (tgt := 42) dX12_move_26 rfl ?_
        refine h_aload_n dX12_move_42 rfl ?_
        refine h_dup dX12_move_43 rfl ?_
        refine h_getI dX12_move_44 f_X12_404_10 rfl (show _ = nI (x + k) from rfl) ?_
        refine h_iconst dX12_move_47 ci_1 ?_
        refine h_iaddN dX12_move_48 ?_
        refine h_putI dX12_move_49 f_X12_404_10 p_X12_10_52 (fun h => by cases h) rfl ?_
        refine h_iinc (v := nI (k + 1)) dX12_move_52 rfl (nI_1 _) (Nat.le_of_ble_eq_true rfl) ?_
        refine h_goto (tgt := 3) dX12_move_55 rfl ?_
        have e := mv_s (I := I) (a0 := 89) (a1 := 111) (sp := 0) (dp := x) (k := k) (x := x + k) (by decide)
        have h3 := ih (k + 1) (by omega) (by omega)
        rw [← Nat.add_assoc, ← e] at h3
        exact h3
  have h0 := Lo 211 0 (by omega) (by omega)
  rw [Nat.add_zero, mv_0 (by decide) hx] at h0
  show HV l mX12_move dp 0 0 0 [some (.ref 82), some (.ref 89), some (.int (nI 210)), some (.int (nI 1)), none] [] hSH I J (hRR lt tx) Q
  refine h_iconst dX12_move_0 ci_0 ?_
  refine h_istore dX12_move_1 (Nat.le_of_ble_eq_true rfl) ?_
  exact h0
theorem r_move89_0 {l : Launch} {dp : Nat} {x : Nat} {I : hI} {J : hJ} {lt tx : Option Nat} {Q : hQ} (hx : I 82 52 = nI x) (hb : x + 210 ≤ 500) (hQ : Q none hSH (mvI I 111 89 x 0 210 (x + 210)) J (hRR lt tx))  : HC l mX12_move dp 0 0 [.ref 82, .ref 89, .int (nI 210), .int (nI 0)] hSH I J (hRR lt tx) Q := by
  refine HC.of (by decide +kernel) rfl (Nat.le_of_ble_eq_true rfl) ?_
  have Lo : ∀ (m k : Nat), 210 - k < m → k ≤ 210 → HV l mX12_move dp 0 0 3 [some (.ref 82), some (.ref 89), some (.int (nI 210)), some (.int (nI 0)), some (.int (nI k))] [] hSH (mvI I 111 89 x 0 k (x + k)) J (hRR lt tx) Q := by
    intro m
    induction m with
    | zero => intro k h1 h2; omega
    | succ m ih =>
      intro k h1 h2
      refine h_iload dX12_move_3 rfl ?_
      refine h_iload_n dX12_move_5 rfl ?_
      refine h_icmpge (tgt := 58) dX12_move_6 rfl (fun c_6 => ?_) (fun c_6 => ?_)
      · rw [nI_leI (by omega) (by omega)] at c_6
        refine h_return dX12_move_58 rfl ?_
        have ek : k = 210 := by omega
        subst ek
        exact hQ
      · rw [nI_leI (by omega) (by omega)] at c_6
        refine h_iload_n dX12_move_9 rfl ?_
        refine h_ifeq (tgt := 29) dX12_move_10 rfl (fun _ => ?_) (fun c => absurd (by decide) c)
        refine h_aload_n dX12_move_29 rfl ?_
        refine h_iload dX12_move_30 rfl ?_
        refine h_aload_n dX12_move_32 rfl ?_
        refine h_getR dX12_move_33 f_X12_96_10 rfl rfl ?_
        refine h_aload_n dX12_move_36 rfl ?_
        refine h_getI dX12_move_37 f_X12_404_10 rfl (show _ = nI (x + k) from rfl) ?_
        refine h_ialdN (j := x + k) dX12_move_40 rfl rfl (by omega) rfl (show _ = I 111 (x + k) from rfl) ?_
        refine h_iastN (j := 0 + k) dX12_move_41 rfl (by rw [Nat.zero_add]) (by omega) rfl ?_
        refine h_aload_n dX12_move_42 rfl ?_
        refine h_dup dX12_move_43 rfl ?_
        refine h_getI dX12_move_44 f_X12_404_10 rfl (show _ = nI (x + k) from rfl) ?_
        refine h_iconst dX12_move_47 ci_1 ?_
        refine h_iaddN dX12_move_48 ?_
        refine h_putI dX12_move_49 f_X12_404_10 p_X12_10_52 (fun h => by cases h) rfl ?_
        refine h_iinc (v := nI (k + 1)) dX12_move_52 rfl (nI_1 _) (Nat.le_of_ble_eq_true rfl) ?_
        refine h_goto (tgt := 3) dX12_move_55 rfl ?_
        have e := mv_s (I := I) (a0 := 111) (a1 := 89) (sp := x) (dp := 0) (k := k) (x := x + k) (by decide)
        have h3 := ih (k + 1) (by omega) (by omega)
        rw [← Nat.add_assoc, ← e] at h3
        exact h3
  have h0 := Lo 211 0 (by omega) (by omega)
  rw [Nat.add_zero, mv_0 (by decide) hx] at h0
  show HV l mX12_move dp 0 0 0 [some (.ref 82), some (.ref 89), some (.int (nI 210)), some (.int (nI 0)), none] [] hSH I J (hRR lt tx) Q
  refine h_iconst dX12_move_0 ci_0 ?_
  refine h_istore dX12_move_1 (Nat.le_of_ble_eq_true rfl) ?_
  exact h0
