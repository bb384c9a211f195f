theorem h_dup_x1 {l : Launch} {M : hM} {d k n pc : Nat} {ls : hL} {st : List Value} {sh : hS} {I : hI} {J : hJ} {R : hR} {Q : hQ} {v w : Value} (hd : decode M.2.1 pc = .ok (.dup_x1, 1)) (hc : v.category = 1) (hc2 : w.category = 1) (h : HV l M d k n (pc + 1) ls (v :: w :: v :: st) sh I J R Q) : HV l M d k n pc ls (v :: w :: st) sh I J R Q := by
  intro p e Rm s m args below meth c H locs cells slots Qw D aC o b A kt nt X1 X2 X3 X4 X5 X6
  exact lv_dup_x1 X1.1 X1.2.1 hd (by rw [htv_cat]; exact hc) (by rw [htv_cat]; exact hc2) (h p e Rm s m args below meth c H locs cells slots Qw D aC o b A kt nt X1 X2 X3 X4 X5 X6)
theorem upI_sw (I : hI) {a b : Nat} (i j : Nat) (v w : Int32) (h : a ≠ b) : upI (upI I a i v) b j w = upI (upI I b j w) a i v := by
  funext x
  by_cases h1 : x = a
  · subst h1; rw [upI_n _ _ _ h, upI_s, upI_s, upI_n _ _ _ h]
  · by_cases h2 : x = b
    · subst h2; rw [upI_s, upI_n _ _ _ h1, upI_n _ _ _ h1, upI_s]
    · rw [upI_n _ _ _ h2, upI_n _ _ _ h1, upI_n _ _ _ h1, upI_n _ _ _ h2]
theorem hRR_lt {lt tx v : Option Nat} : upR (hRR lt tx) 0 17 v = hRR v tx := by
  funext a j
  match a with
  | 0 =>
    match j with
    | 0 => rfl
    | 1 => rfl
    | 2 => rfl
    | 3 => rfl
    | 4 => rfl
    | 5 => rfl
    | 6 => rfl
    | 7 => rfl
    | 8 => rfl
    | 9 => rfl
    | 10 => rfl
    | 11 => rfl
    | 12 => rfl
    | 13 => rfl
    | 14 => rfl
    | 15 => rfl
    | 16 => rfl
    | 17 => rfl
    | j + 18 => rfl
  | a + 1 => rfl
theorem sub0 (v : Int32) : v - nI 0 = v := Int32.sub_zero v
/-- the bodies l appended to the trace in cell ca, its count in field ff of cell cf -/
def ap (I : hI) (ca cf ff : Nat) : Nat → List Nat → hI
  | _, [] => I
  | j, b :: l => ap (upI (upI I ca j (nI b)) cf ff (nI (j + 1))) ca cf ff (j + 1) l
theorem ap_ap {ca cf ff : Nat} {l2 : List Nat} : ∀ {l1 : List Nat} {I : hI} {j k : Nat} (_ : l1.length = k), ap (ap I ca cf ff j l1) ca cf ff (j + k) l2 = ap I ca cf ff j (l1 ++ l2)
  | [], I, j, k, h => by subst h; rfl
  | b :: l, I, j, k, h => by
    subst h
    show ap (ap _ ca cf ff (j + 1) l) ca cf ff (j + (l.length + 1)) l2 = ap _ ca cf ff (j + 1) (l ++ l2)
    rw [show j + (l.length + 1) = j + 1 + l.length by omega]
    exact ap_ap rfl
theorem ap_aq {ca cf ff : Nat} (l1 l2 l : List Nat) (k : Nat) {I : hI} {j : Nat} (h : l1.length = k) (e : l1 ++ l2 = l) : ap (ap I ca cf ff j l1) ca cf ff (j + k) l2 = ap I ca cf ff j l := by rw [← e]; exact ap_ap h
theorem ap_n {ca cf ff y : Nat} {v : Int32} (h1 : cf ≠ ca) (hy : y ≠ ff) : ∀ {l : List Nat} {I : hI} {j : Nat}, I cf y = v → ap I ca cf ff j l cf y = v
  | [], _, _, h => h
  | b :: l, I, j, h => ap_n h1 hy (l := l) (by rw [upI_s, upd_n _ _ hy, upI_n _ _ _ h1]; exact h)
theorem ap_c {ca cf ff : Nat} (h1 : cf ≠ ca) : ∀ {l : List Nat} {I : hI} {j k : Nat}, l.length = k → I cf ff = nI j → ap I ca cf ff j l cf ff = nI (j + k)
  | [], _, _, _, hk, h => by subst hk; exact h
  | b :: l, I, j, k, hk, h => by
    subst hk
    show ap _ ca cf ff (j + 1) l cf ff = nI (j + (l.length + 1))
    rw [show j + (l.length + 1) = j + 1 + l.length by omega]
    exact ap_c h1 (l := l) rfl (by rw [upI_s, upd_s])
theorem sub_eq0 {a b : Int32} (h : a - b = 0) : a = b := by
  have e := Int32.sub_add_cancel a b
  rw [h, Int32.zero_add] at e
  exact e.symm
theorem c_begin1 {l : Launch} {dp : Nat} {n a : Int32} {I : hI} {J : hJ} {lt tx : Option Nat} {Q : hQ} (hQ : Q none hSH (upI (upI (upI (upI I 70 0 n) 70 1 a) 70 2 (nI 0)) 70 3 (nI 0)) J (hRR lt tx))  : HC l mX9_begin dp 0 0 [.ref 70, .int n, .int a] hSH I J (hRR lt tx) Q := by
  refine HC.of (by decide +kernel) rfl (Nat.le_of_ble_eq_true rfl) ?_
  show HV l mX9_begin dp 0 0 0 [some (.ref 70), some (.int n), some (.int a)] [] hSH I J (hRR lt tx) Q
  refine h_aload_n dX9_begin_0 rfl ?_
  refine h_iload_n dX9_begin_1 rfl ?_
  refine h_putI dX9_begin_2 f_X9_9_4 p_X9_4_0 (fun h => by cases h) rfl ?_
  refine h_aload_n dX9_begin_5 rfl ?_
  refine h_iload_n dX9_begin_6 rfl ?_
  refine h_putI dX9_begin_7 f_X9_15_4 p_X9_4_1 (fun h => by cases h) rfl ?_
  refine h_aload_n dX9_begin_10 rfl ?_
  refine h_iconst dX9_begin_11 ci_0 ?_
  refine h_putI dX9_begin_12 f_X9_18_4 p_X9_4_2 (fun h => by cases h) rfl ?_
  refine h_aload_n dX9_begin_15 rfl ?_
  refine h_iconst dX9_begin_16 ci_0 ?_
  refine h_putZ dX9_begin_17 f_X9_21_4 p_X9_4_3 (fun h => by cases h) rfl (by decide) ?_
  refine h_return dX9_begin_20 rfl ?_
  exact hQ
theorem c_begin2 {l : Launch} {dp : Nat} {n a : Int32} {I : hI} {J : hJ} {lt tx : Option Nat} {Q : hQ} (hQ : Q none hSH (upI (upI (upI (upI I 72 0 n) 72 1 a) 72 2 (nI 0)) 72 3 (nI 0)) J (hRR lt tx))  : HC l mX9_begin dp 0 0 [.ref 72, .int n, .int a] hSH I J (hRR lt tx) Q := by
  refine HC.of (by decide +kernel) rfl (Nat.le_of_ble_eq_true rfl) ?_
  show HV l mX9_begin dp 0 0 0 [some (.ref 72), some (.int n), some (.int a)] [] hSH I J (hRR lt tx) Q
  refine h_aload_n dX9_begin_0 rfl ?_
  refine h_iload_n dX9_begin_1 rfl ?_
  refine h_putI dX9_begin_2 f_X9_9_6 p_X9_6_0 (fun h => by cases h) rfl ?_
  refine h_aload_n dX9_begin_5 rfl ?_
  refine h_iload_n dX9_begin_6 rfl ?_
  refine h_putI dX9_begin_7 f_X9_15_6 p_X9_6_1 (fun h => by cases h) rfl ?_
  refine h_aload_n dX9_begin_10 rfl ?_
  refine h_iconst dX9_begin_11 ci_0 ?_
  refine h_putI dX9_begin_12 f_X9_18_6 p_X9_6_2 (fun h => by cases h) rfl ?_
  refine h_aload_n dX9_begin_15 rfl ?_
  refine h_iconst dX9_begin_16 ci_0 ?_
  refine h_putZ dX9_begin_17 f_X9_21_6 p_X9_6_3 (fun h => by cases h) rfl (by decide) ?_
  refine h_return dX9_begin_20 rfl ?_
  exact hQ
theorem c_begin3 {l : Launch} {dp : Nat} {n a : Int32} {I : hI} {J : hJ} {lt tx : Option Nat} {Q : hQ} (hQ : Q none hSH (upI (upI (upI (upI I 74 0 n) 74 1 a) 74 2 (nI 0)) 74 3 (nI 0)) J (hRR lt tx))  : HC l mX9_begin dp 0 0 [.ref 74, .int n, .int a] hSH I J (hRR lt tx) Q := by
  refine HC.of (by decide +kernel) rfl (Nat.le_of_ble_eq_true rfl) ?_
  show HV l mX9_begin dp 0 0 0 [some (.ref 74), some (.int n), some (.int a)] [] hSH I J (hRR lt tx) Q
  refine h_aload_n dX9_begin_0 rfl ?_
  refine h_iload_n dX9_begin_1 rfl ?_
  refine h_putI dX9_begin_2 f_X9_9_0 p_X9_0_0 (fun h => by cases h) rfl ?_
  refine h_aload_n dX9_begin_5 rfl ?_
  refine h_iload_n dX9_begin_6 rfl ?_
  refine h_putI dX9_begin_7 f_X9_15_0 p_X9_0_1 (fun h => by cases h) rfl ?_
  refine h_aload_n dX9_begin_10 rfl ?_
  refine h_iconst dX9_begin_11 ci_0 ?_
  refine h_putI dX9_begin_12 f_X9_18_0 p_X9_0_2 (fun h => by cases h) rfl ?_
  refine h_aload_n dX9_begin_15 rfl ?_
  refine h_iconst dX9_begin_16 ci_0 ?_
  refine h_putZ dX9_begin_17 f_X9_21_0 p_X9_0_3 (fun h => by cases h) rfl (by decide) ?_
  refine h_return dX9_begin_20 rfl ?_
  exact hQ
theorem c_begin4 {l : Launch} {dp : Nat} {n a : Int32} {I : hI} {J : hJ} {lt tx : Option Nat} {Q : hQ} (hQ : Q none hSH (upI (upI (upI (upI I 76 0 n) 76 1 a) 76 2 (nI 0)) 76 3 (nI 0)) J (hRR lt tx))  : HC l mX9_begin dp 0 0 [.ref 76, .int n, .int a] hSH I J (hRR lt tx) Q := by
  refine HC.of (by decide +kernel) rfl (Nat.le_of_ble_eq_true rfl) ?_
  show HV l mX9_begin dp 0 0 0 [some (.ref 76), some (.int n), some (.int a)] [] hSH I J (hRR lt tx) Q
  refine h_aload_n dX9_begin_0 rfl ?_
  refine h_iload_n dX9_begin_1 rfl ?_
  refine h_putI dX9_begin_2 f_X9_9_1 p_X9_1_0 (fun h => by cases h) rfl ?_
  refine h_aload_n dX9_begin_5 rfl ?_
  refine h_iload_n dX9_begin_6 rfl ?_
  refine h_putI dX9_begin_7 f_X9_15_1 p_X9_1_1 (fun h => by cases h) rfl ?_
  refine h_aload_n dX9_begin_10 rfl ?_
  refine h_iconst dX9_begin_11 ci_0 ?_
  refine h_putI dX9_begin_12 f_X9_18_1 p_X9_1_2 (fun h => by cases h) rfl ?_
  refine h_aload_n dX9_begin_15 rfl ?_
  refine h_iconst dX9_begin_16 ci_0 ?_
  refine h_putZ dX9_begin_17 f_X9_21_1 p_X9_1_3 (fun h => by cases h) rfl (by decide) ?_
  refine h_return dX9_begin_20 rfl ?_
  exact hQ
theorem c_begin5 {l : Launch} {dp : Nat} {n a : Int32} {I : hI} {J : hJ} {lt tx : Option Nat} {Q : hQ} (hQ : Q none hSH (upI (upI (upI (upI I 78 0 n) 78 1 a) 78 2 (nI 0)) 78 3 (nI 0)) J (hRR lt tx))  : HC l mX9_begin dp 0 0 [.ref 78, .int n, .int a] hSH I J (hRR lt tx) Q := by
  refine HC.of (by decide +kernel) rfl (Nat.le_of_ble_eq_true rfl) ?_
  show HV l mX9_begin dp 0 0 0 [some (.ref 78), some (.int n), some (.int a)] [] hSH I J (hRR lt tx) Q
  refine h_aload_n dX9_begin_0 rfl ?_
  refine h_iload_n dX9_begin_1 rfl ?_
  refine h_putI dX9_begin_2 f_X9_9_2 p_X9_2_0 (fun h => by cases h) rfl ?_
  refine h_aload_n dX9_begin_5 rfl ?_
  refine h_iload_n dX9_begin_6 rfl ?_
  refine h_putI dX9_begin_7 f_X9_15_2 p_X9_2_1 (fun h => by cases h) rfl ?_
  refine h_aload_n dX9_begin_10 rfl ?_
  refine h_iconst dX9_begin_11 ci_0 ?_
  refine h_putI dX9_begin_12 f_X9_18_2 p_X9_2_2 (fun h => by cases h) rfl ?_
  refine h_aload_n dX9_begin_15 rfl ?_
  refine h_iconst dX9_begin_16 ci_0 ?_
  refine h_putZ dX9_begin_17 f_X9_21_2 p_X9_2_3 (fun h => by cases h) rfl (by decide) ?_
  refine h_return dX9_begin_20 rfl ?_
  exact hQ
theorem c_begin6 {l : Launch} {dp : Nat} {n a : Int32} {I : hI} {J : hJ} {lt tx : Option Nat} {Q : hQ} (hQ : Q none hSH (upI (upI (upI (upI I 80 0 n) 80 1 a) 80 2 (nI 0)) 80 3 (nI 0)) J (hRR lt tx))  : HC l mX9_begin dp 0 0 [.ref 80, .int n, .int a] hSH I J (hRR lt tx) Q := by
  refine HC.of (by decide +kernel) rfl (Nat.le_of_ble_eq_true rfl) ?_
  show HV l mX9_begin dp 0 0 0 [some (.ref 80), some (.int n), some (.int a)] [] hSH I J (hRR lt tx) Q
  refine h_aload_n dX9_begin_0 rfl ?_
  refine h_iload_n dX9_begin_1 rfl ?_
  refine h_putI dX9_begin_2 f_X9_9_7 p_X9_7_0 (fun h => by cases h) rfl ?_
  refine h_aload_n dX9_begin_5 rfl ?_
  refine h_iload_n dX9_begin_6 rfl ?_
  refine h_putI dX9_begin_7 f_X9_15_7 p_X9_7_1 (fun h => by cases h) rfl ?_
  refine h_aload_n dX9_begin_10 rfl ?_
  refine h_iconst dX9_begin_11 ci_0 ?_
  refine h_putI dX9_begin_12 f_X9_18_7 p_X9_7_2 (fun h => by cases h) rfl ?_
  refine h_aload_n dX9_begin_15 rfl ?_
  refine h_iconst dX9_begin_16 ci_0 ?_
  refine h_putZ dX9_begin_17 f_X9_21_7 p_X9_7_3 (fun h => by cases h) rfl (by decide) ?_
  refine h_return dX9_begin_20 rfl ?_
  exact hQ
theorem t1_X8_sees {l : Launch} {dp : Nat} {n a x : Int32} {j : Nat} {I : hI} {J : hJ} {lt tx : Option Nat} {Q : hQ} (h0 : I 70 0 = n) (h1 : I 70 1 = a) (h2 : I 70 2 = nI j) (hj : j + 1 ≤ 30) (hQ : Q (some (.int (x + a))) hSH (ap I 71 70 2 j [10]) J (hRR lt tx))  : HC l mX8_sees dp 0 0 [.ref 70, .int x] hSH I J (hRR lt tx) Q := by
  refine HC.of (by decide +kernel) rfl (Nat.le_of_ble_eq_true rfl) ?_
  show HV l mX8_sees dp 0 0 0 [some (.ref 70), some (.int x)] [] hSH I J (hRR lt tx) Q
  refine h_aload_n dX8_sees_0 rfl ?_
  refine h_getI dX8_sees_1 f_X8_9_4 rfl (show _ = nI j from h2) ?_
  refine h_bipush dX8_sees_4 cb_30 ?_
  refine h_icmpge (tgt := 27) dX8_sees_6 rfl (fun c_6 => ?_) (fun c_6 => ?_)
  · rw [nI_leI (by omega) (by omega)] at c_6
    omega
  · rw [nI_leI (by omega) (by omega)] at c_6
    refine h_aload_n dX8_sees_9 rfl ?_
    refine h_getR dX8_sees_10 f_X8_15_4 rfl rfl ?_
    refine h_aload_n dX8_sees_13 rfl ?_
    refine h_dup dX8_sees_14 rfl ?_
    refine h_getI dX8_sees_15 f_X8_9_4 rfl (show _ = nI j from h2) ?_
    refine h_dup_x1 dX8_sees_18 rfl rfl ?_
    refine h_iconst dX8_sees_19 ci_1 ?_
    refine h_iaddN dX8_sees_20 ?_
    refine h_putI dX8_sees_21 f_X8_9_4 p_X8_4_2 (fun h => by cases h) rfl ?_
    refine h_bipush dX8_sees_24 cb_10 ?_
    refine h_iastN (j := j) dX8_sees_26 rfl rfl (by omega) rfl ?_
    rw [upI_sw _ _ _ _ _ (by decide)]
    change HV _ _ _ _ _ _ _ _ _ (ap I 71 70 2 j [10]) _ _ _
    refine h_iload_n dX8_sees_27 rfl ?_
    refine h_aload_n dX8_sees_28 rfl ?_
    refine h_getI dX8_sees_29 f_X8_19_4 rfl (ap_n (by decide) (by decide) h1) ?_
    refine h_iadd dX8_sees_32 ?_
    refine h_ireturn dX8_sees_33 rfl ?_
    exact hQ
theorem oP_X4_X8_bends : hOkP mX8_bends 1 "FarHeights$Morning" ⟨"FarHeights$Sight", "bends", "(I)I"⟩ := ⟨oX8_bends, k4_136, k7_104, k2_32, Or.inl rfl, rfl, rfl, by decide +kernel⟩
theorem oU_X8_sees_X4 : hOkU mX8_sees 1 4 ⟨"FarHeights$Sight", "sees", "(I)I"⟩ "FarHeights$Sight" := ⟨oX8_sees, k4_112, ⟨by decide +kernel, by decide +kernel, by decide +kernel⟩, k7_98, Or.inl k4_119, _, _, _, rfl, k7_102⟩
theorem t1_X8_bends {l : Launch} {dp : Nat} {n a x : Int32} {j : Nat} {I : hI} {J : hJ} {lt tx : Option Nat} {Q : hQ} (h0 : I 70 0 = n) (h1 : I 70 1 = a) (h2 : I 70 2 = nI j) (hj : j + 2 ≤ 30) (hQ : Q (some (.int ((x + a) * nI 2))) hSH (ap I 71 70 2 j [11, 10]) J (hRR lt tx))  : HC l mX8_bends (dp + 3) 0 0 [.ref 70, .int x] hSH I J (hRR lt tx) Q := by
  refine HC.of (by decide +kernel) rfl (Nat.le_of_ble_eq_true rfl) ?_
  show HV l mX8_bends (dp + 3) 0 0 0 [some (.ref 70), some (.int x)] [] hSH I J (hRR lt tx) Q
  refine h_aload_n dX8_bends_0 rfl ?_
  refine h_getI dX8_bends_1 f_X8_9_4 rfl (show _ = nI j from h2) ?_
  refine h_bipush dX8_bends_4 cb_30 ?_
  refine h_icmpge (tgt := 27) dX8_bends_6 rfl (fun c_6 => ?_) (fun c_6 => ?_)
  · rw [nI_leI (by omega) (by omega)] at c_6
    omega
  · rw [nI_leI (by omega) (by omega)] at c_6
    refine h_aload_n dX8_bends_9 rfl ?_
    refine h_getR dX8_bends_10 f_X8_15_4 rfl rfl ?_
    refine h_aload_n dX8_bends_13 rfl ?_
    refine h_dup dX8_bends_14 rfl ?_
    refine h_getI dX8_bends_15 f_X8_9_4 rfl (show _ = nI j from h2) ?_
    refine h_dup_x1 dX8_bends_18 rfl rfl ?_
    refine h_iconst dX8_bends_19 ci_1 ?_
    refine h_iaddN dX8_bends_20 ?_
    refine h_putI dX8_bends_21 f_X8_9_4 p_X8_4_2 (fun h => by cases h) rfl ?_
    refine h_bipush dX8_bends_24 cb_11 ?_
    refine h_iastN (j := j) dX8_bends_26 rfl rfl (by omega) rfl ?_
    rw [upI_sw _ _ _ _ _ (by decide)]
    change HV _ _ _ _ _ _ _ _ _ (ap I 71 70 2 j [11]) _ _ _
    refine h_aload_n dX8_bends_27 rfl ?_
    refine h_iload_n dX8_bends_28 rfl ?_
    refine h_cU1 dX8_bends_29 k4_138 oU_X8_sees_X4 rfl rfl ?_
    refine t1_X8_sees (j := j + 1) (ap_n (by decide) (by decide) h0) (ap_n (by decide) (by decide) h1) (ap_c (by decide) rfl h2) (by omega) ?_
    rw [ap_aq [11] [10] [11, 10] 1 rfl rfl]
    refine h_iconst dX8_bends_32 ci_2 ?_
    refine h_imul dX8_bends_33 ?_
    refine h_ireturn dX8_bends_34 rfl ?_
    exact hQ
theorem t1_X4_bends {l : Launch} {dp : Nat} {n a x : Int32} {j : Nat} {I : hI} {J : hJ} {lt tx : Option Nat} {Q : hQ} (h0 : I 70 0 = n) (h1 : I 70 1 = a) (h2 : I 70 2 = nI j) (hj : j + 3 ≤ 30) (hQ : Q (some (.int ((x + a) * nI 2 + nI 7))) hSH (ap I 71 70 2 j [20, 11, 10]) J (hRR lt tx))  : HC l mX4_bends (dp + 4) 0 0 [.ref 70, .int x] hSH I J (hRR lt tx) Q := by
  refine HC.of (by decide +kernel) rfl (Nat.le_of_ble_eq_true rfl) ?_
  show HV l mX4_bends (dp + 4) 0 0 0 [some (.ref 70), some (.int x)] [] hSH I J (hRR lt tx) Q
  refine h_aload_n dX4_bends_0 rfl ?_
  refine h_getI dX4_bends_1 f_X4_9_4 rfl (show _ = nI j from h2) ?_
  refine h_bipush dX4_bends_4 cb_30 ?_
  refine h_icmpge (tgt := 27) dX4_bends_6 rfl (fun c_6 => ?_) (fun c_6 => ?_)
  · rw [nI_leI (by omega) (by omega)] at c_6
    omega
  · rw [nI_leI (by omega) (by omega)] at c_6
    refine h_aload_n dX4_bends_9 rfl ?_
    refine h_getR dX4_bends_10 f_X4_15_4 rfl rfl ?_
    refine h_aload_n dX4_bends_13 rfl ?_
    refine h_dup dX4_bends_14 rfl ?_
    refine h_getI dX4_bends_15 f_X4_9_4 rfl (show _ = nI j from h2) ?_
    refine h_dup_x1 dX4_bends_18 rfl rfl ?_
    refine h_iconst dX4_bends_19 ci_1 ?_
    refine h_iaddN dX4_bends_20 ?_
    refine h_putI dX4_bends_21 f_X4_9_4 p_X4_4_2 (fun h => by cases h) rfl ?_
    refine h_bipush dX4_bends_24 cb_20 ?_
    refine h_iastN (j := j) dX4_bends_26 rfl rfl (by omega) rfl ?_
    rw [upI_sw _ _ _ _ _ (by decide)]
    change HV _ _ _ _ _ _ _ _ _ (ap I 71 70 2 j [20]) _ _ _
    refine h_aload_n dX4_bends_27 rfl ?_
    refine h_iload_n dX4_bends_28 rfl ?_
    refine h_cP1 dX4_bends_29 k4_142 oP_X4_X8_bends rfl rfl rfl ?_
    refine t1_X8_bends (j := j + 1) (ap_n (by decide) (by decide) h0) (ap_n (by decide) (by decide) h1) (ap_c (by decide) rfl h2) (by omega) ?_
    rw [ap_aq [20] [11, 10] [20, 11, 10] 1 rfl rfl]
    refine h_bipush dX4_bends_32 cb_7 ?_
    refine h_iadd dX4_bends_34 ?_
    refine h_ireturn dX4_bends_35 rfl ?_
    exact hQ
theorem t1_X8_leans {l : Launch} {dp : Nat} {n a x : Int32} {j : Nat} {I : hI} {J : hJ} {lt tx : Option Nat} {Q : hQ} (h0 : I 70 0 = n) (h1 : I 70 1 = a) (h2 : I 70 2 = nI j) (hj : j + 1 ≤ 30) (hP : ∀ v, a = n → Q (some (.int v)) hSH (upI (ap I 71 70 2 j [12]) 70 3 (nI 1)) J (hRR lt tx)) (hQ : ¬ a = n → Q (some (.int (x / (a - n)))) hSH (ap I 71 70 2 j [12]) J (hRR lt tx))  : HC l mX8_leans dp 0 0 [.ref 70, .int x] hSH I J (hRR lt tx) Q := by
  refine HC.of (by decide +kernel) rfl (Nat.le_of_ble_eq_true rfl) ?_
  show HV l mX8_leans dp 0 0 0 [some (.ref 70), some (.int x), none] [] hSH I J (hRR lt tx) Q
  refine h_aload_n dX8_leans_0 rfl ?_
  refine h_getI dX8_leans_1 f_X8_9_4 rfl (show _ = nI j from h2) ?_
  refine h_bipush dX8_leans_4 cb_30 ?_
  refine h_icmpge (tgt := 27) dX8_leans_6 rfl (fun c_6 => ?_) (fun c_6 => ?_)
  · rw [nI_leI (by omega) (by omega)] at c_6
    omega
  · rw [nI_leI (by omega) (by omega)] at c_6
    refine h_aload_n dX8_leans_9 rfl ?_
    refine h_getR dX8_leans_10 f_X8_15_4 rfl rfl ?_
    refine h_aload_n dX8_leans_13 rfl ?_
    refine h_dup dX8_leans_14 rfl ?_
    refine h_getI dX8_leans_15 f_X8_9_4 rfl (show _ = nI j from h2) ?_
    refine h_dup_x1 dX8_leans_18 rfl rfl ?_
    refine h_iconst dX8_leans_19 ci_1 ?_
    refine h_iaddN dX8_leans_20 ?_
    refine h_putI dX8_leans_21 f_X8_9_4 p_X8_4_2 (fun h => by cases h) rfl ?_
    refine h_bipush dX8_leans_24 cb_12 ?_
    refine h_iastN (j := j) dX8_leans_26 rfl rfl (by omega) rfl ?_
    rw [upI_sw _ _ _ _ _ (by decide)]
    change HV _ _ _ _ _ _ _ _ _ (ap I 71 70 2 j [12]) _ _ _
    refine h_aload_n dX8_leans_27 rfl ?_
    refine h_getI dX8_leans_28 f_X8_19_4 rfl (ap_n (by decide) (by decide) h1) ?_
    refine h_aload_n dX8_leans_31 rfl ?_
    refine h_getI dX8_leans_32 f_X8_26_4 rfl (ap_n (by decide) (by decide) h0) ?_
    refine h_isub dX8_leans_35 ?_
    refine h_istore_n dX8_leans_36 (Nat.le_of_ble_eq_true rfl) ?_
    refine h_iload_n dX8_leans_37 rfl ?_
    refine h_ifne (tgt := 48) dX8_leans_38 rfl (fun c_38 => ?_) (fun c_38 => ?_)
    · refine h_iload_n dX8_leans_48 rfl ?_
      refine h_iload_n dX8_leans_49 rfl ?_
      refine h_idiv dX8_leans_50 c_38 ?_
      refine h_ireturn dX8_leans_51 rfl ?_
      exact hQ (fun z => c_38 (by rw [z]; exact Int32.sub_self n))
    · refine h_aload_n dX8_leans_41 rfl ?_
      refine h_iconst dX8_leans_42 ci_1 ?_
      refine h_putZ dX8_leans_43 f_X8_29_4 p_X8_4_3 (fun h => by cases h) rfl (by decide) ?_
      refine h_iconst dX8_leans_46 ci_0 ?_
      refine h_ireturn dX8_leans_47 rfl ?_
      exact hP _ (sub_eq0 c_38)
theorem oU_X8_bends_X4 : hOkU mX4_bends 1 4 ⟨"FarHeights$Sight", "bends", "(I)I"⟩ "FarHeights$Sight" := ⟨oX4_bends, k4_140, ⟨by decide +kernel, by decide +kernel, by decide +kernel⟩, k7_104, Or.inl k4_148, _, _, _, rfl, k7_111⟩
theorem t1_X8_tells {l : Launch} {dp : Nat} {n a x : Int32} {j : Nat} {I : hI} {J : hJ} {lt tx : Option Nat} {Q : hQ} (h0 : I 70 0 = n) (h1 : I 70 1 = a) (h2 : I 70 2 = nI j) (hj : j + 4 ≤ 30) (hQ : Q (some (.int (((x + a) * nI 2 + nI 7) ^^^ n))) hSH (ap I 71 70 2 j [13, 20, 11, 10]) J (hRR lt tx))  : HC l mX8_tells (dp + 5) 0 0 [.ref 70, .int x] hSH I J (hRR lt tx) Q := by
  refine HC.of (by decide +kernel) rfl (Nat.le_of_ble_eq_true rfl) ?_
  show HV l mX8_tells (dp + 5) 0 0 0 [some (.ref 70), some (.int x)] [] hSH I J (hRR lt tx) Q
  refine h_aload_n dX8_tells_0 rfl ?_
  refine h_getI dX8_tells_1 f_X8_9_4 rfl (show _ = nI j from h2) ?_
  refine h_bipush dX8_tells_4 cb_30 ?_
  refine h_icmpge (tgt := 27) dX8_tells_6 rfl (fun c_6 => ?_) (fun c_6 => ?_)
  · rw [nI_leI (by omega) (by omega)] at c_6
    omega
  · rw [nI_leI (by omega) (by omega)] at c_6
    refine h_aload_n dX8_tells_9 rfl ?_
    refine h_getR dX8_tells_10 f_X8_15_4 rfl rfl ?_
    refine h_aload_n dX8_tells_13 rfl ?_
    refine h_dup dX8_tells_14 rfl ?_
    refine h_getI dX8_tells_15 f_X8_9_4 rfl (show _ = nI j from h2) ?_
    refine h_dup_x1 dX8_tells_18 rfl rfl ?_
    refine h_iconst dX8_tells_19 ci_1 ?_
    refine h_iaddN dX8_tells_20 ?_
    refine h_putI dX8_tells_21 f_X8_9_4 p_X8_4_2 (fun h => by cases h) rfl ?_
    refine h_bipush dX8_tells_24 cb_13 ?_
    refine h_iastN (j := j) dX8_tells_26 rfl rfl (by omega) rfl ?_
    rw [upI_sw _ _ _ _ _ (by decide)]
    change HV _ _ _ _ _ _ _ _ _ (ap I 71 70 2 j [13]) _ _ _
    refine h_aload_n dX8_tells_27 rfl ?_
    refine h_iload_n dX8_tells_28 rfl ?_
    refine h_cU1 dX8_tells_29 k4_178 oU_X8_bends_X4 rfl rfl ?_
    refine t1_X4_bends (j := j + 1) (ap_n (by decide) (by decide) h0) (ap_n (by decide) (by decide) h1) (ap_c (by decide) rfl h2) (by omega) ?_
    rw [ap_aq [13] [20, 11, 10] [13, 20, 11, 10] 1 rfl rfl]
    refine h_aload_n dX8_tells_32 rfl ?_
    refine h_getI dX8_tells_33 f_X8_26_4 rfl (ap_n (by decide) (by decide) h0) ?_
    refine h_ixor dX8_tells_36 ?_
    refine h_ireturn dX8_tells_37 rfl ?_
    exact hQ
theorem oP_X6_X8_sees : hOkP mX8_sees 1 "FarHeights$Noon" ⟨"FarHeights$Sight", "sees", "(I)I"⟩ := ⟨oX8_sees, k4_112, k7_98, k2_46, Or.inl rfl, rfl, rfl, by decide +kernel⟩
theorem t2_X8_sees {l : Launch} {dp : Nat} {n a x : Int32} {j : Nat} {I : hI} {J : hJ} {lt tx : Option Nat} {Q : hQ} (h0 : I 72 0 = n) (h1 : I 72 1 = a) (h2 : I 72 2 = nI j) (hj : j + 1 ≤ 30) (hQ : Q (some (.int (x + a))) hSH (ap I 73 72 2 j [10]) J (hRR lt tx))  : HC l mX8_sees dp 0 0 [.ref 72, .int x] hSH I J (hRR lt tx) Q := by
  refine HC.of (by decide +kernel) rfl (Nat.le_of_ble_eq_true rfl) ?_
  show HV l mX8_sees dp 0 0 0 [some (.ref 72), some (.int x)] [] hSH I J (hRR lt tx) Q
  refine h_aload_n dX8_sees_0 rfl ?_
  refine h_getI dX8_sees_1 f_X8_9_6 rfl (show _ = nI j from h2) ?_
  refine h_bipush dX8_sees_4 cb_30 ?_
  refine h_icmpge (tgt := 27) dX8_sees_6 rfl (fun c_6 => ?_) (fun c_6 => ?_)
  · rw [nI_leI (by omega) (by omega)] at c_6
    omega
  · rw [nI_leI (by omega) (by omega)] at c_6
    refine h_aload_n dX8_sees_9 rfl ?_
    refine h_getR dX8_sees_10 f_X8_15_6 rfl rfl ?_
    refine h_aload_n dX8_sees_13 rfl ?_
    refine h_dup dX8_sees_14 rfl ?_
    refine h_getI dX8_sees_15 f_X8_9_6 rfl (show _ = nI j from h2) ?_
    refine h_dup_x1 dX8_sees_18 rfl rfl ?_
    refine h_iconst dX8_sees_19 ci_1 ?_
    refine h_iaddN dX8_sees_20 ?_
    refine h_putI dX8_sees_21 f_X8_9_6 p_X8_6_2 (fun h => by cases h) rfl ?_
    refine h_bipush dX8_sees_24 cb_10 ?_
    refine h_iastN (j := j) dX8_sees_26 rfl rfl (by omega) rfl ?_
    rw [upI_sw _ _ _ _ _ (by decide)]
    change HV _ _ _ _ _ _ _ _ _ (ap I 73 72 2 j [10]) _ _ _
    refine h_iload_n dX8_sees_27 rfl ?_
    refine h_aload_n dX8_sees_28 rfl ?_
    refine h_getI dX8_sees_29 f_X8_19_6 rfl (ap_n (by decide) (by decide) h1) ?_
    refine h_iadd dX8_sees_32 ?_
    refine h_ireturn dX8_sees_33 rfl ?_
    exact hQ
theorem t2_X6_sees {l : Launch} {dp : Nat} {n a x : Int32} {j : Nat} {I : hI} {J : hJ} {lt tx : Option Nat} {Q : hQ} (h0 : I 72 0 = n) (h1 : I 72 1 = a) (h2 : I 72 2 = nI j) (hj : j + 2 ≤ 30) (hQ : Q (some (.int (x + a - n))) hSH (ap I 73 72 2 j [30, 10]) J (hRR lt tx))  : HC l mX6_sees (dp + 1) 0 0 [.ref 72, .int x] hSH I J (hRR lt tx) Q := by
  refine HC.of (by decide +kernel) rfl (Nat.le_of_ble_eq_true rfl) ?_
  show HV l mX6_sees (dp + 1) 0 0 0 [some (.ref 72), some (.int x)] [] hSH I J (hRR lt tx) Q
  refine h_aload_n dX6_sees_0 rfl ?_
  refine h_getI dX6_sees_1 f_X6_9_6 rfl (show _ = nI j from h2) ?_
  refine h_bipush dX6_sees_4 cb_30 ?_
  refine h_icmpge (tgt := 27) dX6_sees_6 rfl (fun c_6 => ?_) (fun c_6 => ?_)
  · rw [nI_leI (by omega) (by omega)] at c_6
    omega
  · rw [nI_leI (by omega) (by omega)] at c_6
    refine h_aload_n dX6_sees_9 rfl ?_
    refine h_getR dX6_sees_10 f_X6_15_6 rfl rfl ?_
    refine h_aload_n dX6_sees_13 rfl ?_
    refine h_dup dX6_sees_14 rfl ?_
    refine h_getI dX6_sees_15 f_X6_9_6 rfl (show _ = nI j from h2) ?_
    refine h_dup_x1 dX6_sees_18 rfl rfl ?_
    refine h_iconst dX6_sees_19 ci_1 ?_
    refine h_iaddN dX6_sees_20 ?_
    refine h_putI dX6_sees_21 f_X6_9_6 p_X6_6_2 (fun h => by cases h) rfl ?_
    refine h_bipush dX6_sees_24 cb_30 ?_
    refine h_iastN (j := j) dX6_sees_26 rfl rfl (by omega) rfl ?_
    rw [upI_sw _ _ _ _ _ (by decide)]
    change HV _ _ _ _ _ _ _ _ _ (ap I 73 72 2 j [30]) _ _ _
    refine h_aload_n dX6_sees_27 rfl ?_
    refine h_iload_n dX6_sees_28 rfl ?_
    refine h_cP1 dX6_sees_29 k4_126 oP_X6_X8_sees rfl rfl rfl ?_
    refine t2_X8_sees (j := j + 1) (ap_n (by decide) (by decide) h0) (ap_n (by decide) (by decide) h1) (ap_c (by decide) rfl h2) (by omega) ?_
    rw [ap_aq [30] [10] [30, 10] 1 rfl rfl]
    refine h_aload_n dX6_sees_32 rfl ?_
    refine h_getI dX6_sees_33 f_X6_23_6 rfl (ap_n (by decide) (by decide) h0) ?_
    refine h_isub dX6_sees_36 ?_
    refine h_ireturn dX6_sees_37 rfl ?_
    exact hQ
theorem oU_X8_sees_X6 : hOkU mX6_sees 1 6 ⟨"FarHeights$Sight", "sees", "(I)I"⟩ "FarHeights$Sight" := ⟨oX6_sees, k4_124, ⟨by decide +kernel, by decide +kernel, by decide +kernel⟩, k7_98, Or.inl k4_119, _, _, _, rfl, k7_103⟩
theorem t2_X8_bends {l : Launch} {dp : Nat} {n a x : Int32} {j : Nat} {I : hI} {J : hJ} {lt tx : Option Nat} {Q : hQ} (h0 : I 72 0 = n) (h1 : I 72 1 = a) (h2 : I 72 2 = nI j) (hj : j + 3 ≤ 30) (hQ : Q (some (.int ((x + a - n) * nI 2))) hSH (ap I 73 72 2 j [11, 30, 10]) J (hRR lt tx))  : HC l mX8_bends (dp + 3) 0 0 [.ref 72, .int x] hSH I J (hRR lt tx) Q := by
  refine HC.of (by decide +kernel) rfl (Nat.le_of_ble_eq_true rfl) ?_
  show HV l mX8_bends (dp + 3) 0 0 0 [some (.ref 72), some (.int x)] [] hSH I J (hRR lt tx) Q
  refine h_aload_n dX8_bends_0 rfl ?_
  refine h_getI dX8_bends_1 f_X8_9_6 rfl (show _ = nI j from h2) ?_
  refine h_bipush dX8_bends_4 cb_30 ?_
  refine h_icmpge (tgt := 27) dX8_bends_6 rfl (fun c_6 => ?_) (fun c_6 => ?_)
  · rw [nI_leI (by omega) (by omega)] at c_6
    omega
  · rw [nI_leI (by omega) (by omega)] at c_6
    refine h_aload_n dX8_bends_9 rfl ?_
    refine h_getR dX8_bends_10 f_X8_15_6 rfl rfl ?_
    refine h_aload_n dX8_bends_13 rfl ?_
    refine h_dup dX8_bends_14 rfl ?_
    refine h_getI dX8_bends_15 f_X8_9_6 rfl (show _ = nI j from h2) ?_
    refine h_dup_x1 dX8_bends_18 rfl rfl ?_
    refine h_iconst dX8_bends_19 ci_1 ?_
    refine h_iaddN dX8_bends_20 ?_
    refine h_putI dX8_bends_21 f_X8_9_6 p_X8_6_2 (fun h => by cases h) rfl ?_
    refine h_bipush dX8_bends_24 cb_11 ?_
    refine h_iastN (j := j) dX8_bends_26 rfl rfl (by omega) rfl ?_
    rw [upI_sw _ _ _ _ _ (by decide)]
    change HV _ _ _ _ _ _ _ _ _ (ap I 73 72 2 j [11]) _ _ _
    refine h_aload_n dX8_bends_27 rfl ?_
    refine h_iload_n dX8_bends_28 rfl ?_
    refine h_cU1 dX8_bends_29 k4_138 oU_X8_sees_X6 rfl rfl ?_
    refine t2_X6_sees (j := j + 1) (ap_n (by decide) (by decide) h0) (ap_n (by decide) (by decide) h1) (ap_c (by decide) rfl h2) (by omega) ?_
    rw [ap_aq [11] [30, 10] [11, 30, 10] 1 rfl rfl]
    refine h_iconst dX8_bends_32 ci_2 ?_
    refine h_imul dX8_bends_33 ?_
    refine h_ireturn dX8_bends_34 rfl ?_
    exact hQ
theorem t2_X8_leans {l : Launch} {dp : Nat} {n a x : Int32} {j : Nat} {I : hI} {J : hJ} {lt tx : Option Nat} {Q : hQ} (h0 : I 72 0 = n) (h1 : I 72 1 = a) (h2 : I 72 2 = nI j) (hj : j + 1 ≤ 30) (hP : ∀ v, a = n → Q (some (.int v)) hSH (upI (ap I 73 72 2 j [12]) 72 3 (nI 1)) J (hRR lt tx)) (hQ : ¬ a = n → Q (some (.int (x / (a - n)))) hSH (ap I 73 72 2 j [12]) J (hRR lt tx))  : HC l mX8_leans dp 0 0 [.ref 72, .int x] hSH I J (hRR lt tx) Q := by
  refine HC.of (by decide +kernel) rfl (Nat.le_of_ble_eq_true rfl) ?_
  show HV l mX8_leans dp 0 0 0 [some (.ref 72), some (.int x), none] [] hSH I J (hRR lt tx) Q
  refine h_aload_n dX8_leans_0 rfl ?_
  refine h_getI dX8_leans_1 f_X8_9_6 rfl (show _ = nI j from h2) ?_
  refine h_bipush dX8_leans_4 cb_30 ?_
  refine h_icmpge (tgt := 27) dX8_leans_6 rfl (fun c_6 => ?_) (fun c_6 => ?_)
  · rw [nI_leI (by omega) (by omega)] at c_6
    omega
  · rw [nI_leI (by omega) (by omega)] at c_6
    refine h_aload_n dX8_leans_9 rfl ?_
    refine h_getR dX8_leans_10 f_X8_15_6 rfl rfl ?_
    refine h_aload_n dX8_leans_13 rfl ?_
    refine h_dup dX8_leans_14 rfl ?_
    refine h_getI dX8_leans_15 f_X8_9_6 rfl (show _ = nI j from h2) ?_
    refine h_dup_x1 dX8_leans_18 rfl rfl ?_
    refine h_iconst dX8_leans_19 ci_1 ?_
    refine h_iaddN dX8_leans_20 ?_
    refine h_putI dX8_leans_21 f_X8_9_6 p_X8_6_2 (fun h => by cases h) rfl ?_
    refine h_bipush dX8_leans_24 cb_12 ?_
    refine h_iastN (j := j) dX8_leans_26 rfl rfl (by omega) rfl ?_
    rw [upI_sw _ _ _ _ _ (by decide)]
    change HV _ _ _ _ _ _ _ _ _ (ap I 73 72 2 j [12]) _ _ _
    refine h_aload_n dX8_leans_27 rfl ?_
    refine h_getI dX8_leans_28 f_X8_19_6 rfl (ap_n (by decide) (by decide) h1) ?_
    refine h_aload_n dX8_leans_31 rfl ?_
    refine h_getI dX8_leans_32 f_X8_26_6 rfl (ap_n (by decide) (by decide) h0) ?_
    refine h_isub dX8_leans_35 ?_
    refine h_istore_n dX8_leans_36 (Nat.le_of_ble_eq_true rfl) ?_
    refine h_iload_n dX8_leans_37 rfl ?_
    refine h_ifne (tgt := 48) dX8_leans_38 rfl (fun c_38 => ?_) (fun c_38 => ?_)
    · refine h_iload_n dX8_leans_48 rfl ?_
      refine h_iload_n dX8_leans_49 rfl ?_
      refine h_idiv dX8_leans_50 c_38 ?_
      refine h_ireturn dX8_leans_51 rfl ?_
      exact hQ (fun z => c_38 (by rw [z]; exact Int32.sub_self n))
    · refine h_aload_n dX8_leans_41 rfl ?_
      refine h_iconst dX8_leans_42 ci_1 ?_
      refine h_putZ dX8_leans_43 f_X8_29_6 p_X8_6_3 (fun h => by cases h) rfl (by decide) ?_
      refine h_iconst dX8_leans_46 ci_0 ?_
      refine h_ireturn dX8_leans_47 rfl ?_
      exact hP _ (sub_eq0 c_38)
theorem oU_X8_bends_X6 : hOkU mX8_bends 1 6 ⟨"FarHeights$Sight", "bends", "(I)I"⟩ "FarHeights$Sight" := ⟨oX8_bends, k4_136, ⟨by decide +kernel, by decide +kernel, by decide +kernel⟩, k7_104, Or.inl k4_148, _, _, _, rfl, k7_112⟩
theorem t2_X8_tells {l : Launch} {dp : Nat} {n a x : Int32} {j : Nat} {I : hI} {J : hJ} {lt tx : Option Nat} {Q : hQ} (h0 : I 72 0 = n) (h1 : I 72 1 = a) (h2 : I 72 2 = nI j) (hj : j + 4 ≤ 30) (hQ : Q (some (.int (((x + a - n) * nI 2) ^^^ n))) hSH (ap I 73 72 2 j [13, 11, 30, 10]) J (hRR lt tx))  : HC l mX8_tells (dp + 5) 0 0 [.ref 72, .int x] hSH I J (hRR lt tx) Q := by
  refine HC.of (by decide +kernel) rfl (Nat.le_of_ble_eq_true rfl) ?_
  show HV l mX8_tells (dp + 5) 0 0 0 [some (.ref 72), some (.int x)] [] hSH I J (hRR lt tx) Q
  refine h_aload_n dX8_tells_0 rfl ?_
  refine h_getI dX8_tells_1 f_X8_9_6 rfl (show _ = nI j from h2) ?_
  refine h_bipush dX8_tells_4 cb_30 ?_
  refine h_icmpge (tgt := 27) dX8_tells_6 rfl (fun c_6 => ?_) (fun c_6 => ?_)
  · rw [nI_leI (by omega) (by omega)] at c_6
    omega
  · rw [nI_leI (by omega) (by omega)] at c_6
    refine h_aload_n dX8_tells_9 rfl ?_
    refine h_getR dX8_tells_10 f_X8_15_6 rfl rfl ?_
    refine h_aload_n dX8_tells_13 rfl ?_
    refine h_dup dX8_tells_14 rfl ?_
    refine h_getI dX8_tells_15 f_X8_9_6 rfl (show _ = nI j from h2) ?_
    refine h_dup_x1 dX8_tells_18 rfl rfl ?_
    refine h_iconst dX8_tells_19 ci_1 ?_
    refine h_iaddN dX8_tells_20 ?_
    refine h_putI dX8_tells_21 f_X8_9_6 p_X8_6_2 (fun h => by cases h) rfl ?_
    refine h_bipush dX8_tells_24 cb_13 ?_
    refine h_iastN (j := j) dX8_tells_26 rfl rfl (by omega) rfl ?_
    rw [upI_sw _ _ _ _ _ (by decide)]
    change HV _ _ _ _ _ _ _ _ _ (ap I 73 72 2 j [13]) _ _ _
    refine h_aload_n dX8_tells_27 rfl ?_
    refine h_iload_n dX8_tells_28 rfl ?_
    refine h_cU1 dX8_tells_29 k4_178 oU_X8_bends_X6 rfl rfl ?_
    refine t2_X8_bends (j := j + 1) (ap_n (by decide) (by decide) h0) (ap_n (by decide) (by decide) h1) (ap_c (by decide) rfl h2) (by omega) ?_
    rw [ap_aq [13] [11, 30, 10] [13, 11, 30, 10] 1 rfl rfl]
    refine h_aload_n dX8_tells_32 rfl ?_
    refine h_getI dX8_tells_33 f_X8_26_6 rfl (ap_n (by decide) (by decide) h0) ?_
    refine h_ixor dX8_tells_36 ?_
    refine h_ireturn dX8_tells_37 rfl ?_
    exact hQ
theorem t3_X8_sees {l : Launch} {dp : Nat} {n a x : Int32} {j : Nat} {I : hI} {J : hJ} {lt tx : Option Nat} {Q : hQ} (h0 : I 74 0 = n) (h1 : I 74 1 = a) (h2 : I 74 2 = nI j) (hj : j + 1 ≤ 30) (hQ : Q (some (.int (x + a))) hSH (ap I 75 74 2 j [10]) J (hRR lt tx))  : HC l mX8_sees dp 0 0 [.ref 74, .int x] hSH I J (hRR lt tx) Q := by
  refine HC.of (by decide +kernel) rfl (Nat.le_of_ble_eq_true rfl) ?_
  show HV l mX8_sees dp 0 0 0 [some (.ref 74), some (.int x)] [] hSH I J (hRR lt tx) Q
  refine h_aload_n dX8_sees_0 rfl ?_
  refine h_getI dX8_sees_1 f_X8_9_0 rfl (show _ = nI j from h2) ?_
  refine h_bipush dX8_sees_4 cb_30 ?_
  refine h_icmpge (tgt := 27) dX8_sees_6 rfl (fun c_6 => ?_) (fun c_6 => ?_)
  · rw [nI_leI (by omega) (by omega)] at c_6
    omega
  · rw [nI_leI (by omega) (by omega)] at c_6
    refine h_aload_n dX8_sees_9 rfl ?_
    refine h_getR dX8_sees_10 f_X8_15_0 rfl rfl ?_
    refine h_aload_n dX8_sees_13 rfl ?_
    refine h_dup dX8_sees_14 rfl ?_
    refine h_getI dX8_sees_15 f_X8_9_0 rfl (show _ = nI j from h2) ?_
    refine h_dup_x1 dX8_sees_18 rfl rfl ?_
    refine h_iconst dX8_sees_19 ci_1 ?_
    refine h_iaddN dX8_sees_20 ?_
    refine h_putI dX8_sees_21 f_X8_9_0 p_X8_0_2 (fun h => by cases h) rfl ?_
    refine h_bipush dX8_sees_24 cb_10 ?_
    refine h_iastN (j := j) dX8_sees_26 rfl rfl (by omega) rfl ?_
    rw [upI_sw _ _ _ _ _ (by decide)]
    change HV _ _ _ _ _ _ _ _ _ (ap I 75 74 2 j [10]) _ _ _
    refine h_iload_n dX8_sees_27 rfl ?_
    refine h_aload_n dX8_sees_28 rfl ?_
    refine h_getI dX8_sees_29 f_X8_19_0 rfl (ap_n (by decide) (by decide) h1) ?_
    refine h_iadd dX8_sees_32 ?_
    refine h_ireturn dX8_sees_33 rfl ?_
    exact hQ
theorem oU_X8_sees_X0 : hOkU mX8_sees 1 0 ⟨"FarHeights$Sight", "sees", "(I)I"⟩ "FarHeights$Sight" := ⟨oX8_sees, k4_112, ⟨by decide +kernel, by decide +kernel, by decide +kernel⟩, k7_98, Or.inl k4_119, _, _, _, rfl, k7_99⟩
theorem t3_X8_bends {l : Launch} {dp : Nat} {n a x : Int32} {j : Nat} {I : hI} {J : hJ} {lt tx : Option Nat} {Q : hQ} (h0 : I 74 0 = n) (h1 : I 74 1 = a) (h2 : I 74 2 = nI j) (hj : j + 2 ≤ 30) (hQ : Q (some (.int ((x + a) * nI 2))) hSH (ap I 75 74 2 j [11, 10]) J (hRR lt tx))  : HC l mX8_bends (dp + 3) 0 0 [.ref 74, .int x] hSH I J (hRR lt tx) Q := by
  refine HC.of (by decide +kernel) rfl (Nat.le_of_ble_eq_true rfl) ?_
  show HV l mX8_bends (dp + 3) 0 0 0 [some (.ref 74), some (.int x)] [] hSH I J (hRR lt tx) Q
  refine h_aload_n dX8_bends_0 rfl ?_
  refine h_getI dX8_bends_1 f_X8_9_0 rfl (show _ = nI j from h2) ?_
  refine h_bipush dX8_bends_4 cb_30 ?_
  refine h_icmpge (tgt := 27) dX8_bends_6 rfl (fun c_6 => ?_) (fun c_6 => ?_)
  · rw [nI_leI (by omega) (by omega)] at c_6
    omega
  · rw [nI_leI (by omega) (by omega)] at c_6
    refine h_aload_n dX8_bends_9 rfl ?_
    refine h_getR dX8_bends_10 f_X8_15_0 rfl rfl ?_
    refine h_aload_n dX8_bends_13 rfl ?_
    refine h_dup dX8_bends_14 rfl ?_
    refine h_getI dX8_bends_15 f_X8_9_0 rfl (show _ = nI j from h2) ?_
    refine h_dup_x1 dX8_bends_18 rfl rfl ?_
    refine h_iconst dX8_bends_19 ci_1 ?_
    refine h_iaddN dX8_bends_20 ?_
    refine h_putI dX8_bends_21 f_X8_9_0 p_X8_0_2 (fun h => by cases h) rfl ?_
    refine h_bipush dX8_bends_24 cb_11 ?_
    refine h_iastN (j := j) dX8_bends_26 rfl rfl (by omega) rfl ?_
    rw [upI_sw _ _ _ _ _ (by decide)]
    change HV _ _ _ _ _ _ _ _ _ (ap I 75 74 2 j [11]) _ _ _
    refine h_aload_n dX8_bends_27 rfl ?_
    refine h_iload_n dX8_bends_28 rfl ?_
    refine h_cU1 dX8_bends_29 k4_138 oU_X8_sees_X0 rfl rfl ?_
    refine t3_X8_sees (j := j + 1) (ap_n (by decide) (by decide) h0) (ap_n (by decide) (by decide) h1) (ap_c (by decide) rfl h2) (by omega) ?_
    rw [ap_aq [11] [10] [11, 10] 1 rfl rfl]
    refine h_iconst dX8_bends_32 ci_2 ?_
    refine h_imul dX8_bends_33 ?_
    refine h_ireturn dX8_bends_34 rfl ?_
    exact hQ
theorem oP_X0_X8_leans : hOkP mX8_leans 1 "FarHeights$Both" ⟨"FarHeights$Sight", "leans", "(I)I"⟩ := ⟨oX8_leans, k4_163, k7_107, k2_58, Or.inl rfl, rfl, rfl, by decide +kernel⟩
theorem t3_X8_leans {l : Launch} {dp : Nat} {n a x : Int32} {j : Nat} {I : hI} {J : hJ} {lt tx : Option Nat} {Q : hQ} (h0 : I 74 0 = n) (h1 : I 74 1 = a) (h2 : I 74 2 = nI j) (hj : j + 1 ≤ 30) (hP : ∀ v, a = n → Q (some (.int v)) hSH (upI (ap I 75 74 2 j [12]) 74 3 (nI 1)) J (hRR lt tx)) (hQ : ¬ a = n → Q (some (.int (x / (a - n)))) hSH (ap I 75 74 2 j [12]) J (hRR lt tx))  : HC l mX8_leans dp 0 0 [.ref 74, .int x] hSH I J (hRR lt tx) Q := by
  refine HC.of (by decide +kernel) rfl (Nat.le_of_ble_eq_true rfl) ?_
  show HV l mX8_leans dp 0 0 0 [some (.ref 74), some (.int x), none] [] hSH I J (hRR lt tx) Q
  refine h_aload_n dX8_leans_0 rfl ?_
  refine h_getI dX8_leans_1 f_X8_9_0 rfl (show _ = nI j from h2) ?_
  refine h_bipush dX8_leans_4 cb_30 ?_
  refine h_icmpge (tgt := 27) dX8_leans_6 rfl (fun c_6 => ?_) (fun c_6 => ?_)
  · rw [nI_leI (by omega) (by omega)] at c_6
    omega
  · rw [nI_leI (by omega) (by omega)] at c_6
    refine h_aload_n dX8_leans_9 rfl ?_
    refine h_getR dX8_leans_10 f_X8_15_0 rfl rfl ?_
    refine h_aload_n dX8_leans_13 rfl ?_
    refine h_dup dX8_leans_14 rfl ?_
    refine h_getI dX8_leans_15 f_X8_9_0 rfl (show _ = nI j from h2) ?_
    refine h_dup_x1 dX8_leans_18 rfl rfl ?_
    refine h_iconst dX8_leans_19 ci_1 ?_
    refine h_iaddN dX8_leans_20 ?_
    refine h_putI dX8_leans_21 f_X8_9_0 p_X8_0_2 (fun h => by cases h) rfl ?_
    refine h_bipush dX8_leans_24 cb_12 ?_
    refine h_iastN (j := j) dX8_leans_26 rfl rfl (by omega) rfl ?_
    rw [upI_sw _ _ _ _ _ (by decide)]
    change HV _ _ _ _ _ _ _ _ _ (ap I 75 74 2 j [12]) _ _ _
    refine h_aload_n dX8_leans_27 rfl ?_
    refine h_getI dX8_leans_28 f_X8_19_0 rfl (ap_n (by decide) (by decide) h1) ?_
    refine h_aload_n dX8_leans_31 rfl ?_
    refine h_getI dX8_leans_32 f_X8_26_0 rfl (ap_n (by decide) (by decide) h0) ?_
    refine h_isub dX8_leans_35 ?_
    refine h_istore_n dX8_leans_36 (Nat.le_of_ble_eq_true rfl) ?_
    refine h_iload_n dX8_leans_37 rfl ?_
    refine h_ifne (tgt := 48) dX8_leans_38 rfl (fun c_38 => ?_) (fun c_38 => ?_)
    · refine h_iload_n dX8_leans_48 rfl ?_
      refine h_iload_n dX8_leans_49 rfl ?_
      refine h_idiv dX8_leans_50 c_38 ?_
      refine h_ireturn dX8_leans_51 rfl ?_
      exact hQ (fun z => c_38 (by rw [z]; exact Int32.sub_self n))
    · refine h_aload_n dX8_leans_41 rfl ?_
      refine h_iconst dX8_leans_42 ci_1 ?_
      refine h_putZ dX8_leans_43 f_X8_29_0 p_X8_0_3 (fun h => by cases h) rfl (by decide) ?_
      refine h_iconst dX8_leans_46 ci_0 ?_
      refine h_ireturn dX8_leans_47 rfl ?_
      exact hP _ (sub_eq0 c_38)
theorem t3_X0_leans {l : Launch} {dp : Nat} {n a x : Int32} {j : Nat} {I : hI} {J : hJ} {lt tx : Option Nat} {Q : hQ} (h0 : I 74 0 = n) (h1 : I 74 1 = a) (h2 : I 74 2 = nI j) (hj : j + 2 ≤ 30) (hP : ∀ v, a = n → Q (some (.int v)) hSH (upI (ap I 75 74 2 j [40, 12]) 74 3 (nI 1)) J (hRR lt tx)) (hQ : ¬ a = n → Q (some (.int ((x + nI 1) / (a - n) * nI 2))) hSH (ap I 75 74 2 j [40, 12]) J (hRR lt tx))  : HC l mX0_leans (dp + 1) 0 0 [.ref 74, .int x] hSH I J (hRR lt tx) Q := by
  refine HC.of (by decide +kernel) rfl (Nat.le_of_ble_eq_true rfl) ?_
  show HV l mX0_leans (dp + 1) 0 0 0 [some (.ref 74), some (.int x)] [] hSH I J (hRR lt tx) Q
  refine h_aload_n dX0_leans_0 rfl ?_
  refine h_getI dX0_leans_1 f_X0_9_0 rfl (show _ = nI j from h2) ?_
  refine h_bipush dX0_leans_4 cb_30 ?_
  refine h_icmpge (tgt := 27) dX0_leans_6 rfl (fun c_6 => ?_) (fun c_6 => ?_)
  · rw [nI_leI (by omega) (by omega)] at c_6
    omega
  · rw [nI_leI (by omega) (by omega)] at c_6
    refine h_aload_n dX0_leans_9 rfl ?_
    refine h_getR dX0_leans_10 f_X0_15_0 rfl rfl ?_
    refine h_aload_n dX0_leans_13 rfl ?_
    refine h_dup dX0_leans_14 rfl ?_
    refine h_getI dX0_leans_15 f_X0_9_0 rfl (show _ = nI j from h2) ?_
    refine h_dup_x1 dX0_leans_18 rfl rfl ?_
    refine h_iconst dX0_leans_19 ci_1 ?_
    refine h_iaddN dX0_leans_20 ?_
    refine h_putI dX0_leans_21 f_X0_9_0 p_X0_0_2 (fun h => by cases h) rfl ?_
    refine h_bipush dX0_leans_24 cb_40 ?_
    refine h_iastN (j := j) dX0_leans_26 rfl rfl (by omega) rfl ?_
    rw [upI_sw _ _ _ _ _ (by decide)]
    change HV _ _ _ _ _ _ _ _ _ (ap I 75 74 2 j [40]) _ _ _
    refine h_aload_n dX0_leans_27 rfl ?_
    refine h_iload_n dX0_leans_28 rfl ?_
    refine h_iconst dX0_leans_29 ci_1 ?_
    refine h_iadd dX0_leans_30 ?_
    refine h_cP1 dX0_leans_31 k4_162 oP_X0_X8_leans rfl rfl rfl ?_
    refine t3_X8_leans (j := j + 1) (ap_n (by decide) (by decide) h0) (ap_n (by decide) (by decide) h1) (ap_c (by decide) rfl h2) (by omega) (fun v0 hz => ?_) (fun hz => ?_)
    · rw [ap_aq [40] [12] [40, 12] 1 rfl rfl]
      refine h_iconst dX0_leans_34 ci_2 ?_
      refine h_imul dX0_leans_35 ?_
      refine h_ireturn dX0_leans_36 rfl ?_
      exact hP _ hz
    · rw [ap_aq [40] [12] [40, 12] 1 rfl rfl]
      refine h_iconst dX0_leans_34 ci_2 ?_
      refine h_imul dX0_leans_35 ?_
      refine h_ireturn dX0_leans_36 rfl ?_
      exact hQ hz
theorem oU_X8_bends_X0 : hOkU mX8_bends 1 0 ⟨"FarHeights$Sight", "bends", "(I)I"⟩ "FarHeights$Sight" := ⟨oX8_bends, k4_136, ⟨by decide +kernel, by decide +kernel, by decide +kernel⟩, k7_104, Or.inl k4_148, _, _, _, rfl, k7_108⟩
theorem t3_X8_tells {l : Launch} {dp : Nat} {n a x : Int32} {j : Nat} {I : hI} {J : hJ} {lt tx : Option Nat} {Q : hQ} (h0 : I 74 0 = n) (h1 : I 74 1 = a) (h2 : I 74 2 = nI j) (hj : j + 3 ≤ 30) (hQ : Q (some (.int (((x + a) * nI 2) ^^^ n))) hSH (ap I 75 74 2 j [13, 11, 10]) J (hRR lt tx))  : HC l mX8_tells (dp + 5) 0 0 [.ref 74, .int x] hSH I J (hRR lt tx) Q := by
  refine HC.of (by decide +kernel) rfl (Nat.le_of_ble_eq_true rfl) ?_
  show HV l mX8_tells (dp + 5) 0 0 0 [some (.ref 74), some (.int x)] [] hSH I J (hRR lt tx) Q
  refine h_aload_n dX8_tells_0 rfl ?_
  refine h_getI dX8_tells_1 f_X8_9_0 rfl (show _ = nI j from h2) ?_
  refine h_bipush dX8_tells_4 cb_30 ?_
  refine h_icmpge (tgt := 27) dX8_tells_6 rfl (fun c_6 => ?_) (fun c_6 => ?_)
  · rw [nI_leI (by omega) (by omega)] at c_6
    omega
  · rw [nI_leI (by omega) (by omega)] at c_6
    refine h_aload_n dX8_tells_9 rfl ?_
    refine h_getR dX8_tells_10 f_X8_15_0 rfl rfl ?_
    refine h_aload_n dX8_tells_13 rfl ?_
    refine h_dup dX8_tells_14 rfl ?_
    refine h_getI dX8_tells_15 f_X8_9_0 rfl (show _ = nI j from h2) ?_
    refine h_dup_x1 dX8_tells_18 rfl rfl ?_
    refine h_iconst dX8_tells_19 ci_1 ?_
    refine h_iaddN dX8_tells_20 ?_
    refine h_putI dX8_tells_21 f_X8_9_0 p_X8_0_2 (fun h => by cases h) rfl ?_
    refine h_bipush dX8_tells_24 cb_13 ?_
    refine h_iastN (j := j) dX8_tells_26 rfl rfl (by omega) rfl ?_
    rw [upI_sw _ _ _ _ _ (by decide)]
    change HV _ _ _ _ _ _ _ _ _ (ap I 75 74 2 j [13]) _ _ _
    refine h_aload_n dX8_tells_27 rfl ?_
    refine h_iload_n dX8_tells_28 rfl ?_
    refine h_cU1 dX8_tells_29 k4_178 oU_X8_bends_X0 rfl rfl ?_
    refine t3_X8_bends (j := j + 1) (ap_n (by decide) (by decide) h0) (ap_n (by decide) (by decide) h1) (ap_c (by decide) rfl h2) (by omega) ?_
    rw [ap_aq [13] [11, 10] [13, 11, 10] 1 rfl rfl]
    refine h_aload_n dX8_tells_32 rfl ?_
    refine h_getI dX8_tells_33 f_X8_26_0 rfl (ap_n (by decide) (by decide) h0) ?_
    refine h_ixor dX8_tells_36 ?_
    refine h_ireturn dX8_tells_37 rfl ?_
    exact hQ
theorem oP_X1_X4_sees : hOkP mX8_sees 1 "FarHeights$Far" ⟨"FarHeights$Morning", "sees", "(I)I"⟩ := ⟨oX8_sees, k4_112, k4_118, k2_70, Or.inr k2_32, rfl, rfl, by decide +kernel⟩
theorem t4_X8_sees {l : Launch} {dp : Nat} {n a x : Int32} {j : Nat} {I : hI} {J : hJ} {lt tx : Option Nat} {Q : hQ} (h0 : I 76 0 = n) (h1 : I 76 1 = a) (h2 : I 76 2 = nI j) (hj : j + 1 ≤ 30) (hQ : Q (some (.int (x + a))) hSH (ap I 77 76 2 j [10]) J (hRR lt tx))  : HC l mX8_sees dp 0 0 [.ref 76, .int x] hSH I J (hRR lt tx) Q := by
  refine HC.of (by decide +kernel) rfl (Nat.le_of_ble_eq_true rfl) ?_
  show HV l mX8_sees dp 0 0 0 [some (.ref 76), some (.int x)] [] hSH I J (hRR lt tx) Q
  refine h_aload_n dX8_sees_0 rfl ?_
  refine h_getI dX8_sees_1 f_X8_9_1 rfl (show _ = nI j from h2) ?_
  refine h_bipush dX8_sees_4 cb_30 ?_
  refine h_icmpge (tgt := 27) dX8_sees_6 rfl (fun c_6 => ?_) (fun c_6 => ?_)
  · rw [nI_leI (by omega) (by omega)] at c_6
    omega
  · rw [nI_leI (by omega) (by omega)] at c_6
    refine h_aload_n dX8_sees_9 rfl ?_
    refine h_getR dX8_sees_10 f_X8_15_1 rfl rfl ?_
    refine h_aload_n dX8_sees_13 rfl ?_
    refine h_dup dX8_sees_14 rfl ?_
    refine h_getI dX8_sees_15 f_X8_9_1 rfl (show _ = nI j from h2) ?_
    refine h_dup_x1 dX8_sees_18 rfl rfl ?_
    refine h_iconst dX8_sees_19 ci_1 ?_
    refine h_iaddN dX8_sees_20 ?_
    refine h_putI dX8_sees_21 f_X8_9_1 p_X8_1_2 (fun h => by cases h) rfl ?_
    refine h_bipush dX8_sees_24 cb_10 ?_
    refine h_iastN (j := j) dX8_sees_26 rfl rfl (by omega) rfl ?_
    rw [upI_sw _ _ _ _ _ (by decide)]
    change HV _ _ _ _ _ _ _ _ _ (ap I 77 76 2 j [10]) _ _ _
    refine h_iload_n dX8_sees_27 rfl ?_
    refine h_aload_n dX8_sees_28 rfl ?_
    refine h_getI dX8_sees_29 f_X8_19_1 rfl (ap_n (by decide) (by decide) h1) ?_
    refine h_iadd dX8_sees_32 ?_
    refine h_ireturn dX8_sees_33 rfl ?_
    exact hQ
theorem t4_X1_sees {l : Launch} {dp : Nat} {n a x : Int32} {j : Nat} {I : hI} {J : hJ} {lt tx : Option Nat} {Q : hQ} (h0 : I 76 0 = n) (h1 : I 76 1 = a) (h2 : I 76 2 = nI j) (hj : j + 2 ≤ 30) (hQ : Q (some (.int ((x + a) ^^^ nI 3))) hSH (ap I 77 76 2 j [50, 10]) J (hRR lt tx))  : HC l mX1_sees (dp + 1) 0 0 [.ref 76, .int x] hSH I J (hRR lt tx) Q := by
  refine HC.of (by decide +kernel) rfl (Nat.le_of_ble_eq_true rfl) ?_
  show HV l mX1_sees (dp + 1) 0 0 0 [some (.ref 76), some (.int x)] [] hSH I J (hRR lt tx) Q
  refine h_aload_n dX1_sees_0 rfl ?_
  refine h_getI dX1_sees_1 f_X1_9_1 rfl (show _ = nI j from h2) ?_
  refine h_bipush dX1_sees_4 cb_30 ?_
  refine h_icmpge (tgt := 27) dX1_sees_6 rfl (fun c_6 => ?_) (fun c_6 => ?_)
  · rw [nI_leI (by omega) (by omega)] at c_6
    omega
  · rw [nI_leI (by omega) (by omega)] at c_6
    refine h_aload_n dX1_sees_9 rfl ?_
    refine h_getR dX1_sees_10 f_X1_15_1 rfl rfl ?_
    refine h_aload_n dX1_sees_13 rfl ?_
    refine h_dup dX1_sees_14 rfl ?_
    refine h_getI dX1_sees_15 f_X1_9_1 rfl (show _ = nI j from h2) ?_
    refine h_dup_x1 dX1_sees_18 rfl rfl ?_
    refine h_iconst dX1_sees_19 ci_1 ?_
    refine h_iaddN dX1_sees_20 ?_
    refine h_putI dX1_sees_21 f_X1_9_1 p_X1_1_2 (fun h => by cases h) rfl ?_
    refine h_bipush dX1_sees_24 cb_50 ?_
    refine h_iastN (j := j) dX1_sees_26 rfl rfl (by omega) rfl ?_
    rw [upI_sw _ _ _ _ _ (by decide)]
    change HV _ _ _ _ _ _ _ _ _ (ap I 77 76 2 j [50]) _ _ _
    refine h_aload_n dX1_sees_27 rfl ?_
    refine h_iload_n dX1_sees_28 rfl ?_
    refine h_cP1 dX1_sees_29 k4_117 oP_X1_X4_sees rfl rfl rfl ?_
    refine t4_X8_sees (j := j + 1) (ap_n (by decide) (by decide) h0) (ap_n (by decide) (by decide) h1) (ap_c (by decide) rfl h2) (by omega) ?_
    rw [ap_aq [50] [10] [50, 10] 1 rfl rfl]
    refine h_iconst dX1_sees_32 ci_3 ?_
    refine h_ixor dX1_sees_33 ?_
    refine h_ireturn dX1_sees_34 rfl ?_
    exact hQ
theorem oU_X8_sees_X1 : hOkU mX1_sees 1 1 ⟨"FarHeights$Sight", "sees", "(I)I"⟩ "FarHeights$Sight" := ⟨oX1_sees, k4_115, ⟨by decide +kernel, by decide +kernel, by decide +kernel⟩, k7_98, Or.inl k4_119, _, _, _, rfl, k7_100⟩
theorem t4_X8_bends {l : Launch} {dp : Nat} {n a x : Int32} {j : Nat} {I : hI} {J : hJ} {lt tx : Option Nat} {Q : hQ} (h0 : I 76 0 = n) (h1 : I 76 1 = a) (h2 : I 76 2 = nI j) (hj : j + 3 ≤ 30) (hQ : Q (some (.int (((x + a) ^^^ nI 3) * nI 2))) hSH (ap I 77 76 2 j [11, 50, 10]) J (hRR lt tx))  : HC l mX8_bends (dp + 3) 0 0 [.ref 76, .int x] hSH I J (hRR lt tx) Q := by
  refine HC.of (by decide +kernel) rfl (Nat.le_of_ble_eq_true rfl) ?_
  show HV l mX8_bends (dp + 3) 0 0 0 [some (.ref 76), some (.int x)] [] hSH I J (hRR lt tx) Q
  refine h_aload_n dX8_bends_0 rfl ?_
  refine h_getI dX8_bends_1 f_X8_9_1 rfl (show _ = nI j from h2) ?_
  refine h_bipush dX8_bends_4 cb_30 ?_
  refine h_icmpge (tgt := 27) dX8_bends_6 rfl (fun c_6 => ?_) (fun c_6 => ?_)
  · rw [nI_leI (by omega) (by omega)] at c_6
    omega
  · rw [nI_leI (by omega) (by omega)] at c_6
    refine h_aload_n dX8_bends_9 rfl ?_
    refine h_getR dX8_bends_10 f_X8_15_1 rfl rfl ?_
    refine h_aload_n dX8_bends_13 rfl ?_
    refine h_dup dX8_bends_14 rfl ?_
    refine h_getI dX8_bends_15 f_X8_9_1 rfl (show _ = nI j from h2) ?_
    refine h_dup_x1 dX8_bends_18 rfl rfl ?_
    refine h_iconst dX8_bends_19 ci_1 ?_
    refine h_iaddN dX8_bends_20 ?_
    refine h_putI dX8_bends_21 f_X8_9_1 p_X8_1_2 (fun h => by cases h) rfl ?_
    refine h_bipush dX8_bends_24 cb_11 ?_
    refine h_iastN (j := j) dX8_bends_26 rfl rfl (by omega) rfl ?_
    rw [upI_sw _ _ _ _ _ (by decide)]
    change HV _ _ _ _ _ _ _ _ _ (ap I 77 76 2 j [11]) _ _ _
    refine h_aload_n dX8_bends_27 rfl ?_
    refine h_iload_n dX8_bends_28 rfl ?_
    refine h_cU1 dX8_bends_29 k4_138 oU_X8_sees_X1 rfl rfl ?_
    refine t4_X1_sees (j := j + 1) (ap_n (by decide) (by decide) h0) (ap_n (by decide) (by decide) h1) (ap_c (by decide) rfl h2) (by omega) ?_
    rw [ap_aq [11] [50, 10] [11, 50, 10] 1 rfl rfl]
    refine h_iconst dX8_bends_32 ci_2 ?_
    refine h_imul dX8_bends_33 ?_
    refine h_ireturn dX8_bends_34 rfl ?_
    exact hQ
theorem t4_X4_bends {l : Launch} {dp : Nat} {n a x : Int32} {j : Nat} {I : hI} {J : hJ} {lt tx : Option Nat} {Q : hQ} (h0 : I 76 0 = n) (h1 : I 76 1 = a) (h2 : I 76 2 = nI j) (hj : j + 4 ≤ 30) (hQ : Q (some (.int (((x + a) ^^^ nI 3) * nI 2 + nI 7))) hSH (ap I 77 76 2 j [20, 11, 50, 10]) J (hRR lt tx))  : HC l mX4_bends (dp + 4) 0 0 [.ref 76, .int x] hSH I J (hRR lt tx) Q := by
  refine HC.of (by decide +kernel) rfl (Nat.le_of_ble_eq_true rfl) ?_
  show HV l mX4_bends (dp + 4) 0 0 0 [some (.ref 76), some (.int x)] [] hSH I J (hRR lt tx) Q
  refine h_aload_n dX4_bends_0 rfl ?_
  refine h_getI dX4_bends_1 f_X4_9_1 rfl (show _ = nI j from h2) ?_
  refine h_bipush dX4_bends_4 cb_30 ?_
  refine h_icmpge (tgt := 27) dX4_bends_6 rfl (fun c_6 => ?_) (fun c_6 => ?_)
  · rw [nI_leI (by omega) (by omega)] at c_6
    omega
  · rw [nI_leI (by omega) (by omega)] at c_6
    refine h_aload_n dX4_bends_9 rfl ?_
    refine h_getR dX4_bends_10 f_X4_15_1 rfl rfl ?_
    refine h_aload_n dX4_bends_13 rfl ?_
    refine h_dup dX4_bends_14 rfl ?_
    refine h_getI dX4_bends_15 f_X4_9_1 rfl (show _ = nI j from h2) ?_
    refine h_dup_x1 dX4_bends_18 rfl rfl ?_
    refine h_iconst dX4_bends_19 ci_1 ?_
    refine h_iaddN dX4_bends_20 ?_
    refine h_putI dX4_bends_21 f_X4_9_1 p_X4_1_2 (fun h => by cases h) rfl ?_
    refine h_bipush dX4_bends_24 cb_20 ?_
    refine h_iastN (j := j) dX4_bends_26 rfl rfl (by omega) rfl ?_
    rw [upI_sw _ _ _ _ _ (by decide)]
    change HV _ _ _ _ _ _ _ _ _ (ap I 77 76 2 j [20]) _ _ _
    refine h_aload_n dX4_bends_27 rfl ?_
    refine h_iload_n dX4_bends_28 rfl ?_
    refine h_cP1 dX4_bends_29 k4_142 oP_X4_X8_bends rfl rfl rfl ?_
    refine t4_X8_bends (j := j + 1) (ap_n (by decide) (by decide) h0) (ap_n (by decide) (by decide) h1) (ap_c (by decide) rfl h2) (by omega) ?_
    rw [ap_aq [20] [11, 50, 10] [20, 11, 50, 10] 1 rfl rfl]
    refine h_bipush dX4_bends_32 cb_7 ?_
    refine h_iadd dX4_bends_34 ?_
    refine h_ireturn dX4_bends_35 rfl ?_
    exact hQ
theorem t4_X8_leans {l : Launch} {dp : Nat} {n a x : Int32} {j : Nat} {I : hI} {J : hJ} {lt tx : Option Nat} {Q : hQ} (h0 : I 76 0 = n) (h1 : I 76 1 = a) (h2 : I 76 2 = nI j) (hj : j + 1 ≤ 30) (hP : ∀ v, a = n → Q (some (.int v)) hSH (upI (ap I 77 76 2 j [12]) 76 3 (nI 1)) J (hRR lt tx)) (hQ : ¬ a = n → Q (some (.int (x / (a - n)))) hSH (ap I 77 76 2 j [12]) J (hRR lt tx))  : HC l mX8_leans dp 0 0 [.ref 76, .int x] hSH I J (hRR lt tx) Q := by
  refine HC.of (by decide +kernel) rfl (Nat.le_of_ble_eq_true rfl) ?_
  show HV l mX8_leans dp 0 0 0 [some (.ref 76), some (.int x), none] [] hSH I J (hRR lt tx) Q
  refine h_aload_n dX8_leans_0 rfl ?_
  refine h_getI dX8_leans_1 f_X8_9_1 rfl (show _ = nI j from h2) ?_
  refine h_bipush dX8_leans_4 cb_30 ?_
  refine h_icmpge (tgt := 27) dX8_leans_6 rfl (fun c_6 => ?_) (fun c_6 => ?_)
  · rw [nI_leI (by omega) (by omega)] at c_6
    omega
  · rw [nI_leI (by omega) (by omega)] at c_6
    refine h_aload_n dX8_leans_9 rfl ?_
    refine h_getR dX8_leans_10 f_X8_15_1 rfl rfl ?_
    refine h_aload_n dX8_leans_13 rfl ?_
    refine h_dup dX8_leans_14 rfl ?_
    refine h_getI dX8_leans_15 f_X8_9_1 rfl (show _ = nI j from h2) ?_
    refine h_dup_x1 dX8_leans_18 rfl rfl ?_
    refine h_iconst dX8_leans_19 ci_1 ?_
    refine h_iaddN dX8_leans_20 ?_
    refine h_putI dX8_leans_21 f_X8_9_1 p_X8_1_2 (fun h => by cases h) rfl ?_
    refine h_bipush dX8_leans_24 cb_12 ?_
    refine h_iastN (j := j) dX8_leans_26 rfl rfl (by omega) rfl ?_
    rw [upI_sw _ _ _ _ _ (by decide)]
    change HV _ _ _ _ _ _ _ _ _ (ap I 77 76 2 j [12]) _ _ _
    refine h_aload_n dX8_leans_27 rfl ?_
    refine h_getI dX8_leans_28 f_X8_19_1 rfl (ap_n (by decide) (by decide) h1) ?_
    refine h_aload_n dX8_leans_31 rfl ?_
    refine h_getI dX8_leans_32 f_X8_26_1 rfl (ap_n (by decide) (by decide) h0) ?_
    refine h_isub dX8_leans_35 ?_
    refine h_istore_n dX8_leans_36 (Nat.le_of_ble_eq_true rfl) ?_
    refine h_iload_n dX8_leans_37 rfl ?_
    refine h_ifne (tgt := 48) dX8_leans_38 rfl (fun c_38 => ?_) (fun c_38 => ?_)
    · refine h_iload_n dX8_leans_48 rfl ?_
      refine h_iload_n dX8_leans_49 rfl ?_
      refine h_idiv dX8_leans_50 c_38 ?_
      refine h_ireturn dX8_leans_51 rfl ?_
      exact hQ (fun z => c_38 (by rw [z]; exact Int32.sub_self n))
    · refine h_aload_n dX8_leans_41 rfl ?_
      refine h_iconst dX8_leans_42 ci_1 ?_
      refine h_putZ dX8_leans_43 f_X8_29_1 p_X8_1_3 (fun h => by cases h) rfl (by decide) ?_
      refine h_iconst dX8_leans_46 ci_0 ?_
      refine h_ireturn dX8_leans_47 rfl ?_
      exact hP _ (sub_eq0 c_38)
theorem oP_X1_X4_tells : hOkP mX8_tells 1 "FarHeights$Far" ⟨"FarHeights$Morning", "tells", "(I)I"⟩ := ⟨oX8_tells, k4_176, k4_183, k2_70, Or.inr k2_32, rfl, rfl, by decide +kernel⟩
theorem oU_X8_bends_X1 : hOkU mX4_bends 1 1 ⟨"FarHeights$Sight", "bends", "(I)I"⟩ "FarHeights$Sight" := ⟨oX4_bends, k4_140, ⟨by decide +kernel, by decide +kernel, by decide +kernel⟩, k7_104, Or.inl k4_148, _, _, _, rfl, k7_109⟩
theorem t4_X8_tells {l : Launch} {dp : Nat} {n a x : Int32} {j : Nat} {I : hI} {J : hJ} {lt tx : Option Nat} {Q : hQ} (h0 : I 76 0 = n) (h1 : I 76 1 = a) (h2 : I 76 2 = nI j) (hj : j + 5 ≤ 30) (hQ : Q (some (.int ((((x + a) ^^^ nI 3) * nI 2 + nI 7) ^^^ n))) hSH (ap I 77 76 2 j [13, 20, 11, 50, 10]) J (hRR lt tx))  : HC l mX8_tells (dp + 5) 0 0 [.ref 76, .int x] hSH I J (hRR lt tx) Q := by
  refine HC.of (by decide +kernel) rfl (Nat.le_of_ble_eq_true rfl) ?_
  show HV l mX8_tells (dp + 5) 0 0 0 [some (.ref 76), some (.int x)] [] hSH I J (hRR lt tx) Q
  refine h_aload_n dX8_tells_0 rfl ?_
  refine h_getI dX8_tells_1 f_X8_9_1 rfl (show _ = nI j from h2) ?_
  refine h_bipush dX8_tells_4 cb_30 ?_
  refine h_icmpge (tgt := 27) dX8_tells_6 rfl (fun c_6 => ?_) (fun c_6 => ?_)
  · rw [nI_leI (by omega) (by omega)] at c_6
    omega
  · rw [nI_leI (by omega) (by omega)] at c_6
    refine h_aload_n dX8_tells_9 rfl ?_
    refine h_getR dX8_tells_10 f_X8_15_1 rfl rfl ?_
    refine h_aload_n dX8_tells_13 rfl ?_
    refine h_dup dX8_tells_14 rfl ?_
    refine h_getI dX8_tells_15 f_X8_9_1 rfl (show _ = nI j from h2) ?_
    refine h_dup_x1 dX8_tells_18 rfl rfl ?_
    refine h_iconst dX8_tells_19 ci_1 ?_
    refine h_iaddN dX8_tells_20 ?_
    refine h_putI dX8_tells_21 f_X8_9_1 p_X8_1_2 (fun h => by cases h) rfl ?_
    refine h_bipush dX8_tells_24 cb_13 ?_
    refine h_iastN (j := j) dX8_tells_26 rfl rfl (by omega) rfl ?_
    rw [upI_sw _ _ _ _ _ (by decide)]
    change HV _ _ _ _ _ _ _ _ _ (ap I 77 76 2 j [13]) _ _ _
    refine h_aload_n dX8_tells_27 rfl ?_
    refine h_iload_n dX8_tells_28 rfl ?_
    refine h_cU1 dX8_tells_29 k4_178 oU_X8_bends_X1 rfl rfl ?_
    refine t4_X4_bends (j := j + 1) (ap_n (by decide) (by decide) h0) (ap_n (by decide) (by decide) h1) (ap_c (by decide) rfl h2) (by omega) ?_
    rw [ap_aq [13] [20, 11, 50, 10] [13, 20, 11, 50, 10] 1 rfl rfl]
    refine h_aload_n dX8_tells_32 rfl ?_
    refine h_getI dX8_tells_33 f_X8_26_1 rfl (ap_n (by decide) (by decide) h0) ?_
    refine h_ixor dX8_tells_36 ?_
    refine h_ireturn dX8_tells_37 rfl ?_
    exact hQ
theorem oU_X1_leans_X1 : hOkU mX8_leans 1 1 ⟨"FarHeights$Far", "leans", "(I)I"⟩ "FarHeights$Sight" := ⟨oX8_leans, k4_163, ⟨by decide +kernel, by decide +kernel, by decide +kernel⟩, k4_186, Or.inl k4_187, _, _, _, rfl, k4_188⟩
theorem t4_X1_tells {l : Launch} {dp : Nat} {n a x : Int32} {j : Nat} {I : hI} {J : hJ} {lt tx : Option Nat} {Q : hQ} (h0 : I 76 0 = n) (h1 : I 76 1 = a) (h2 : I 76 2 = nI j) (hj : j + 7 ≤ 30) (hP : ∀ v, a = n → Q (some (.int v)) hSH (upI (ap I 77 76 2 j [51, 13, 20, 11, 50, 10, 12]) 76 3 (nI 1)) J (hRR lt tx)) (hQ : ¬ a = n → Q (some (.int (((((x + a) ^^^ nI 3) * nI 2 + nI 7) ^^^ n) + n / (a - n)))) hSH (ap I 77 76 2 j [51, 13, 20, 11, 50, 10, 12]) J (hRR lt tx))  : HC l mX1_tells (dp + 6) 0 0 [.ref 76, .int x] hSH I J (hRR lt tx) Q := by
  refine HC.of (by decide +kernel) rfl (Nat.le_of_ble_eq_true rfl) ?_
  show HV l mX1_tells (dp + 6) 0 0 0 [some (.ref 76), some (.int x)] [] hSH I J (hRR lt tx) Q
  refine h_aload_n dX1_tells_0 rfl ?_
  refine h_getI dX1_tells_1 f_X1_9_1 rfl (show _ = nI j from h2) ?_
  refine h_bipush dX1_tells_4 cb_30 ?_
  refine h_icmpge (tgt := 27) dX1_tells_6 rfl (fun c_6 => ?_) (fun c_6 => ?_)
  · rw [nI_leI (by omega) (by omega)] at c_6
    omega
  · rw [nI_leI (by omega) (by omega)] at c_6
    refine h_aload_n dX1_tells_9 rfl ?_
    refine h_getR dX1_tells_10 f_X1_15_1 rfl rfl ?_
    refine h_aload_n dX1_tells_13 rfl ?_
    refine h_dup dX1_tells_14 rfl ?_
    refine h_getI dX1_tells_15 f_X1_9_1 rfl (show _ = nI j from h2) ?_
    refine h_dup_x1 dX1_tells_18 rfl rfl ?_
    refine h_iconst dX1_tells_19 ci_1 ?_
    refine h_iaddN dX1_tells_20 ?_
    refine h_putI dX1_tells_21 f_X1_9_1 p_X1_1_2 (fun h => by cases h) rfl ?_
    refine h_bipush dX1_tells_24 cb_51 ?_
    refine h_iastN (j := j) dX1_tells_26 rfl rfl (by omega) rfl ?_
    rw [upI_sw _ _ _ _ _ (by decide)]
    change HV _ _ _ _ _ _ _ _ _ (ap I 77 76 2 j [51]) _ _ _
    refine h_aload_n dX1_tells_27 rfl ?_
    refine h_iload_n dX1_tells_28 rfl ?_
    refine h_cP1 dX1_tells_29 k4_182 oP_X1_X4_tells rfl rfl rfl ?_
    refine t4_X8_tells (j := j + 1) (ap_n (by decide) (by decide) h0) (ap_n (by decide) (by decide) h1) (ap_c (by decide) rfl h2) (by omega) ?_
    rw [ap_aq [51] [13, 20, 11, 50, 10] [51, 13, 20, 11, 50, 10] 1 rfl rfl]
    refine h_aload_n dX1_tells_32 rfl ?_
    refine h_aload_n dX1_tells_33 rfl ?_
    refine h_getI dX1_tells_34 f_X1_26_1 rfl (ap_n (by decide) (by decide) h0) ?_
    refine h_cU1 dX1_tells_37 k4_185 oU_X1_leans_X1 rfl rfl ?_
    refine t4_X8_leans (j := j + 6) (ap_n (by decide) (by decide) h0) (ap_n (by decide) (by decide) h1) (ap_c (by decide) rfl h2) (by omega) (fun v0 hz => ?_) (fun hz => ?_)
    · rw [ap_aq [51, 13, 20, 11, 50, 10] [12] [51, 13, 20, 11, 50, 10, 12] 6 rfl rfl]
      refine h_iadd dX1_tells_40 ?_
      refine h_ireturn dX1_tells_41 rfl ?_
      exact hP _ hz
    · rw [ap_aq [51, 13, 20, 11, 50, 10] [12] [51, 13, 20, 11, 50, 10, 12] 6 rfl rfl]
      refine h_iadd dX1_tells_40 ?_
      refine h_ireturn dX1_tells_41 rfl ?_
      exact hQ hz
theorem oP_X2_X6_sees : hOkP mX6_sees 1 "FarHeights$Hidden" ⟨"FarHeights$Noon", "sees", "(I)I"⟩ := ⟨oX6_sees, k4_124, k7_97, k2_82, Or.inl rfl, rfl, rfl, by decide +kernel⟩
theorem t5_X8_sees {l : Launch} {dp : Nat} {n a x : Int32} {j : Nat} {I : hI} {J : hJ} {lt tx : Option Nat} {Q : hQ} (h0 : I 78 0 = n) (h1 : I 78 1 = a) (h2 : I 78 2 = nI j) (hj : j + 1 ≤ 30) (hQ : Q (some (.int (x + a))) hSH (ap I 79 78 2 j [10]) J (hRR lt tx))  : HC l mX8_sees dp 0 0 [.ref 78, .int x] hSH I J (hRR lt tx) Q := by
  refine HC.of (by decide +kernel) rfl (Nat.le_of_ble_eq_true rfl) ?_
  show HV l mX8_sees dp 0 0 0 [some (.ref 78), some (.int x)] [] hSH I J (hRR lt tx) Q
  refine h_aload_n dX8_sees_0 rfl ?_
  refine h_getI dX8_sees_1 f_X8_9_2 rfl (show _ = nI j from h2) ?_
  refine h_bipush dX8_sees_4 cb_30 ?_
  refine h_icmpge (tgt := 27) dX8_sees_6 rfl (fun c_6 => ?_) (fun c_6 => ?_)
  · rw [nI_leI (by omega) (by omega)] at c_6
    omega
  · rw [nI_leI (by omega) (by omega)] at c_6
    refine h_aload_n dX8_sees_9 rfl ?_
    refine h_getR dX8_sees_10 f_X8_15_2 rfl rfl ?_
    refine h_aload_n dX8_sees_13 rfl ?_
    refine h_dup dX8_sees_14 rfl ?_
    refine h_getI dX8_sees_15 f_X8_9_2 rfl (show _ = nI j from h2) ?_
    refine h_dup_x1 dX8_sees_18 rfl rfl ?_
    refine h_iconst dX8_sees_19 ci_1 ?_
    refine h_iaddN dX8_sees_20 ?_
    refine h_putI dX8_sees_21 f_X8_9_2 p_X8_2_2 (fun h => by cases h) rfl ?_
    refine h_bipush dX8_sees_24 cb_10 ?_
    refine h_iastN (j := j) dX8_sees_26 rfl rfl (by omega) rfl ?_
    rw [upI_sw _ _ _ _ _ (by decide)]
    change HV _ _ _ _ _ _ _ _ _ (ap I 79 78 2 j [10]) _ _ _
    refine h_iload_n dX8_sees_27 rfl ?_
    refine h_aload_n dX8_sees_28 rfl ?_
    refine h_getI dX8_sees_29 f_X8_19_2 rfl (ap_n (by decide) (by decide) h1) ?_
    refine h_iadd dX8_sees_32 ?_
    refine h_ireturn dX8_sees_33 rfl ?_
    exact hQ
theorem t5_X6_sees {l : Launch} {dp : Nat} {n a x : Int32} {j : Nat} {I : hI} {J : hJ} {lt tx : Option Nat} {Q : hQ} (h0 : I 78 0 = n) (h1 : I 78 1 = a) (h2 : I 78 2 = nI j) (hj : j + 2 ≤ 30) (hQ : Q (some (.int (x + a - n))) hSH (ap I 79 78 2 j [30, 10]) J (hRR lt tx))  : HC l mX6_sees (dp + 1) 0 0 [.ref 78, .int x] hSH I J (hRR lt tx) Q := by
  refine HC.of (by decide +kernel) rfl (Nat.le_of_ble_eq_true rfl) ?_
  show HV l mX6_sees (dp + 1) 0 0 0 [some (.ref 78), some (.int x)] [] hSH I J (hRR lt tx) Q
  refine h_aload_n dX6_sees_0 rfl ?_
  refine h_getI dX6_sees_1 f_X6_9_2 rfl (show _ = nI j from h2) ?_
  refine h_bipush dX6_sees_4 cb_30 ?_
  refine h_icmpge (tgt := 27) dX6_sees_6 rfl (fun c_6 => ?_) (fun c_6 => ?_)
  · rw [nI_leI (by omega) (by omega)] at c_6
    omega
  · rw [nI_leI (by omega) (by omega)] at c_6
    refine h_aload_n dX6_sees_9 rfl ?_
    refine h_getR dX6_sees_10 f_X6_15_2 rfl rfl ?_
    refine h_aload_n dX6_sees_13 rfl ?_
    refine h_dup dX6_sees_14 rfl ?_
    refine h_getI dX6_sees_15 f_X6_9_2 rfl (show _ = nI j from h2) ?_
    refine h_dup_x1 dX6_sees_18 rfl rfl ?_
    refine h_iconst dX6_sees_19 ci_1 ?_
    refine h_iaddN dX6_sees_20 ?_
    refine h_putI dX6_sees_21 f_X6_9_2 p_X6_2_2 (fun h => by cases h) rfl ?_
    refine h_bipush dX6_sees_24 cb_30 ?_
    refine h_iastN (j := j) dX6_sees_26 rfl rfl (by omega) rfl ?_
    rw [upI_sw _ _ _ _ _ (by decide)]
    change HV _ _ _ _ _ _ _ _ _ (ap I 79 78 2 j [30]) _ _ _
    refine h_aload_n dX6_sees_27 rfl ?_
    refine h_iload_n dX6_sees_28 rfl ?_
    refine h_cP1 dX6_sees_29 k4_126 oP_X6_X8_sees rfl rfl rfl ?_
    refine t5_X8_sees (j := j + 1) (ap_n (by decide) (by decide) h0) (ap_n (by decide) (by decide) h1) (ap_c (by decide) rfl h2) (by omega) ?_
    rw [ap_aq [30] [10] [30, 10] 1 rfl rfl]
    refine h_aload_n dX6_sees_32 rfl ?_
    refine h_getI dX6_sees_33 f_X6_23_2 rfl (ap_n (by decide) (by decide) h0) ?_
    refine h_isub dX6_sees_36 ?_
    refine h_ireturn dX6_sees_37 rfl ?_
    exact hQ
theorem t5_X2_sees {l : Launch} {dp : Nat} {n a x : Int32} {j : Nat} {I : hI} {J : hJ} {lt tx : Option Nat} {Q : hQ} (h0 : I 78 0 = n) (h1 : I 78 1 = a) (h2 : I 78 2 = nI j) (hj : j + 3 ≤ 30) (hQ : Q (some (.int (nI 0 - (x + a - n)))) hSH (ap I 79 78 2 j [60, 30, 10]) J (hRR lt tx))  : HC l mX2_sees (dp + 2) 0 0 [.ref 78, .int x] hSH I J (hRR lt tx) Q := by
  refine HC.of (by decide +kernel) rfl (Nat.le_of_ble_eq_true rfl) ?_
  show HV l mX2_sees (dp + 2) 0 0 0 [some (.ref 78), some (.int x)] [] hSH I J (hRR lt tx) Q
  refine h_aload_n dX2_sees_0 rfl ?_
  refine h_getI dX2_sees_1 f_X2_9_2 rfl (show _ = nI j from h2) ?_
  refine h_bipush dX2_sees_4 cb_30 ?_
  refine h_icmpge (tgt := 27) dX2_sees_6 rfl (fun c_6 => ?_) (fun c_6 => ?_)
  · rw [nI_leI (by omega) (by omega)] at c_6
    omega
  · rw [nI_leI (by omega) (by omega)] at c_6
    refine h_aload_n dX2_sees_9 rfl ?_
    refine h_getR dX2_sees_10 f_X2_15_2 rfl rfl ?_
    refine h_aload_n dX2_sees_13 rfl ?_
    refine h_dup dX2_sees_14 rfl ?_
    refine h_getI dX2_sees_15 f_X2_9_2 rfl (show _ = nI j from h2) ?_
    refine h_dup_x1 dX2_sees_18 rfl rfl ?_
    refine h_iconst dX2_sees_19 ci_1 ?_
    refine h_iaddN dX2_sees_20 ?_
    refine h_putI dX2_sees_21 f_X2_9_2 p_X2_2_2 (fun h => by cases h) rfl ?_
    refine h_bipush dX2_sees_24 cb_60 ?_
    refine h_iastN (j := j) dX2_sees_26 rfl rfl (by omega) rfl ?_
    rw [upI_sw _ _ _ _ _ (by decide)]
    change HV _ _ _ _ _ _ _ _ _ (ap I 79 78 2 j [60]) _ _ _
    refine h_iconst dX2_sees_27 ci_0 ?_
    refine h_aload_n dX2_sees_28 rfl ?_
    refine h_iload_n dX2_sees_29 rfl ?_
    refine h_cP1 dX2_sees_30 k4_123 oP_X2_X6_sees rfl rfl rfl ?_
    refine t5_X6_sees (j := j + 1) (ap_n (by decide) (by decide) h0) (ap_n (by decide) (by decide) h1) (ap_c (by decide) rfl h2) (by omega) ?_
    rw [ap_aq [60] [30, 10] [60, 30, 10] 1 rfl rfl]
    refine h_isub dX2_sees_33 ?_
    refine h_ireturn dX2_sees_34 rfl ?_
    exact hQ
theorem oP_X2_X6_bends : hOkP mX8_bends 1 "FarHeights$Hidden" ⟨"FarHeights$Noon", "bends", "(I)I"⟩ := ⟨oX8_bends, k4_136, k4_147, k2_82, Or.inr k2_46, rfl, rfl, by decide +kernel⟩
theorem oU_X8_sees_X2 : hOkU mX2_sees 1 2 ⟨"FarHeights$Sight", "sees", "(I)I"⟩ "FarHeights$Sight" := ⟨oX2_sees, k4_121, ⟨by decide +kernel, by decide +kernel, by decide +kernel⟩, k7_98, Or.inl k4_119, _, _, _, rfl, k7_101⟩
theorem t5_X8_bends {l : Launch} {dp : Nat} {n a x : Int32} {j : Nat} {I : hI} {J : hJ} {lt tx : Option Nat} {Q : hQ} (h0 : I 78 0 = n) (h1 : I 78 1 = a) (h2 : I 78 2 = nI j) (hj : j + 4 ≤ 30) (hQ : Q (some (.int ((nI 0 - (x + a - n)) * nI 2))) hSH (ap I 79 78 2 j [11, 60, 30, 10]) J (hRR lt tx))  : HC l mX8_bends (dp + 3) 0 0 [.ref 78, .int x] hSH I J (hRR lt tx) Q := by
  refine HC.of (by decide +kernel) rfl (Nat.le_of_ble_eq_true rfl) ?_
  show HV l mX8_bends (dp + 3) 0 0 0 [some (.ref 78), some (.int x)] [] hSH I J (hRR lt tx) Q
  refine h_aload_n dX8_bends_0 rfl ?_
  refine h_getI dX8_bends_1 f_X8_9_2 rfl (show _ = nI j from h2) ?_
  refine h_bipush dX8_bends_4 cb_30 ?_
  refine h_icmpge (tgt := 27) dX8_bends_6 rfl (fun c_6 => ?_) (fun c_6 => ?_)
  · rw [nI_leI (by omega) (by omega)] at c_6
    omega
  · rw [nI_leI (by omega) (by omega)] at c_6
    refine h_aload_n dX8_bends_9 rfl ?_
    refine h_getR dX8_bends_10 f_X8_15_2 rfl rfl ?_
    refine h_aload_n dX8_bends_13 rfl ?_
    refine h_dup dX8_bends_14 rfl ?_
    refine h_getI dX8_bends_15 f_X8_9_2 rfl (show _ = nI j from h2) ?_
    refine h_dup_x1 dX8_bends_18 rfl rfl ?_
    refine h_iconst dX8_bends_19 ci_1 ?_
    refine h_iaddN dX8_bends_20 ?_
    refine h_putI dX8_bends_21 f_X8_9_2 p_X8_2_2 (fun h => by cases h) rfl ?_
    refine h_bipush dX8_bends_24 cb_11 ?_
    refine h_iastN (j := j) dX8_bends_26 rfl rfl (by omega) rfl ?_
    rw [upI_sw _ _ _ _ _ (by decide)]
    change HV _ _ _ _ _ _ _ _ _ (ap I 79 78 2 j [11]) _ _ _
    refine h_aload_n dX8_bends_27 rfl ?_
    refine h_iload_n dX8_bends_28 rfl ?_
    refine h_cU1 dX8_bends_29 k4_138 oU_X8_sees_X2 rfl rfl ?_
    refine t5_X2_sees (j := j + 1) (ap_n (by decide) (by decide) h0) (ap_n (by decide) (by decide) h1) (ap_c (by decide) rfl h2) (by omega) ?_
    rw [ap_aq [11] [60, 30, 10] [11, 60, 30, 10] 1 rfl rfl]
    refine h_iconst dX8_bends_32 ci_2 ?_
    refine h_imul dX8_bends_33 ?_
    refine h_ireturn dX8_bends_34 rfl ?_
    exact hQ
theorem t5_X2_bends {l : Launch} {dp : Nat} {n a x : Int32} {j : Nat} {I : hI} {J : hJ} {lt tx : Option Nat} {Q : hQ} (h0 : I 78 0 = n) (h1 : I 78 1 = a) (h2 : I 78 2 = nI j) (hj : j + 8 ≤ 30) (hQ : Q (some (.int ((nI 0 - (x + a - n)) * nI 2 + (nI 0 - (n + a - n))))) hSH (ap I 79 78 2 j [61, 11, 60, 30, 10, 60, 30, 10]) J (hRR lt tx))  : HC l mX2_bends (dp + 4) 0 0 [.ref 78, .int x] hSH I J (hRR lt tx) Q := by
  refine HC.of (by decide +kernel) rfl (Nat.le_of_ble_eq_true rfl) ?_
  show HV l mX2_bends (dp + 4) 0 0 0 [some (.ref 78), some (.int x)] [] hSH I J (hRR lt tx) Q
  refine h_aload_n dX2_bends_0 rfl ?_
  refine h_getI dX2_bends_1 f_X2_9_2 rfl (show _ = nI j from h2) ?_
  refine h_bipush dX2_bends_4 cb_30 ?_
  refine h_icmpge (tgt := 27) dX2_bends_6 rfl (fun c_6 => ?_) (fun c_6 => ?_)
  · rw [nI_leI (by omega) (by omega)] at c_6
    omega
  · rw [nI_leI (by omega) (by omega)] at c_6
    refine h_aload_n dX2_bends_9 rfl ?_
    refine h_getR dX2_bends_10 f_X2_15_2 rfl rfl ?_
    refine h_aload_n dX2_bends_13 rfl ?_
    refine h_dup dX2_bends_14 rfl ?_
    refine h_getI dX2_bends_15 f_X2_9_2 rfl (show _ = nI j from h2) ?_
    refine h_dup_x1 dX2_bends_18 rfl rfl ?_
    refine h_iconst dX2_bends_19 ci_1 ?_
    refine h_iaddN dX2_bends_20 ?_
    refine h_putI dX2_bends_21 f_X2_9_2 p_X2_2_2 (fun h => by cases h) rfl ?_
    refine h_bipush dX2_bends_24 cb_61 ?_
    refine h_iastN (j := j) dX2_bends_26 rfl rfl (by omega) rfl ?_
    rw [upI_sw _ _ _ _ _ (by decide)]
    change HV _ _ _ _ _ _ _ _ _ (ap I 79 78 2 j [61]) _ _ _
    refine h_aload_n dX2_bends_27 rfl ?_
    refine h_iload_n dX2_bends_28 rfl ?_
    refine h_cP1 dX2_bends_29 k4_146 oP_X2_X6_bends rfl rfl rfl ?_
    refine t5_X8_bends (j := j + 1) (ap_n (by decide) (by decide) h0) (ap_n (by decide) (by decide) h1) (ap_c (by decide) rfl h2) (by omega) ?_
    rw [ap_aq [61] [11, 60, 30, 10] [61, 11, 60, 30, 10] 1 rfl rfl]
    refine h_aload_n dX2_bends_32 rfl ?_
    refine h_aload_n dX2_bends_33 rfl ?_
    refine h_getI dX2_bends_34 f_X2_26_2 rfl (ap_n (by decide) (by decide) h0) ?_
    refine h_cV1 dX2_bends_37 k4_149 oVX2_sees rfl rfl ?_
    refine t5_X2_sees (j := j + 5) (ap_n (by decide) (by decide) h0) (ap_n (by decide) (by decide) h1) (ap_c (by decide) rfl h2) (by omega) ?_
    rw [ap_aq [61, 11, 60, 30, 10] [60, 30, 10] [61, 11, 60, 30, 10, 60, 30, 10] 5 rfl rfl]
    refine h_iadd dX2_bends_40 ?_
    refine h_ireturn dX2_bends_41 rfl ?_
    exact hQ
theorem t5_X8_leans {l : Launch} {dp : Nat} {n a x : Int32} {j : Nat} {I : hI} {J : hJ} {lt tx : Option Nat} {Q : hQ} (h0 : I 78 0 = n) (h1 : I 78 1 = a) (h2 : I 78 2 = nI j) (hj : j + 1 ≤ 30) (hP : ∀ v, a = n → Q (some (.int v)) hSH (upI (ap I 79 78 2 j [12]) 78 3 (nI 1)) J (hRR lt tx)) (hQ : ¬ a = n → Q (some (.int (x / (a - n)))) hSH (ap I 79 78 2 j [12]) J (hRR lt tx))  : HC l mX8_leans dp 0 0 [.ref 78, .int x] hSH I J (hRR lt tx) Q := by
  refine HC.of (by decide +kernel) rfl (Nat.le_of_ble_eq_true rfl) ?_
  show HV l mX8_leans dp 0 0 0 [some (.ref 78), some (.int x), none] [] hSH I J (hRR lt tx) Q
  refine h_aload_n dX8_leans_0 rfl ?_
  refine h_getI dX8_leans_1 f_X8_9_2 rfl (show _ = nI j from h2) ?_
  refine h_bipush dX8_leans_4 cb_30 ?_
  refine h_icmpge (tgt := 27) dX8_leans_6 rfl (fun c_6 => ?_) (fun c_6 => ?_)
  · rw [nI_leI (by omega) (by omega)] at c_6
    omega
  · rw [nI_leI (by omega) (by omega)] at c_6
    refine h_aload_n dX8_leans_9 rfl ?_
    refine h_getR dX8_leans_10 f_X8_15_2 rfl rfl ?_
    refine h_aload_n dX8_leans_13 rfl ?_
    refine h_dup dX8_leans_14 rfl ?_
    refine h_getI dX8_leans_15 f_X8_9_2 rfl (show _ = nI j from h2) ?_
    refine h_dup_x1 dX8_leans_18 rfl rfl ?_
    refine h_iconst dX8_leans_19 ci_1 ?_
    refine h_iaddN dX8_leans_20 ?_
    refine h_putI dX8_leans_21 f_X8_9_2 p_X8_2_2 (fun h => by cases h) rfl ?_
    refine h_bipush dX8_leans_24 cb_12 ?_
    refine h_iastN (j := j) dX8_leans_26 rfl rfl (by omega) rfl ?_
    rw [upI_sw _ _ _ _ _ (by decide)]
    change HV _ _ _ _ _ _ _ _ _ (ap I 79 78 2 j [12]) _ _ _
    refine h_aload_n dX8_leans_27 rfl ?_
    refine h_getI dX8_leans_28 f_X8_19_2 rfl (ap_n (by decide) (by decide) h1) ?_
    refine h_aload_n dX8_leans_31 rfl ?_
    refine h_getI dX8_leans_32 f_X8_26_2 rfl (ap_n (by decide) (by decide) h0) ?_
    refine h_isub dX8_leans_35 ?_
    refine h_istore_n dX8_leans_36 (Nat.le_of_ble_eq_true rfl) ?_
    refine h_iload_n dX8_leans_37 rfl ?_
    refine h_ifne (tgt := 48) dX8_leans_38 rfl (fun c_38 => ?_) (fun c_38 => ?_)
    · refine h_iload_n dX8_leans_48 rfl ?_
      refine h_iload_n dX8_leans_49 rfl ?_
      refine h_idiv dX8_leans_50 c_38 ?_
      refine h_ireturn dX8_leans_51 rfl ?_
      exact hQ (fun z => c_38 (by rw [z]; exact Int32.sub_self n))
    · refine h_aload_n dX8_leans_41 rfl ?_
      refine h_iconst dX8_leans_42 ci_1 ?_
      refine h_putZ dX8_leans_43 f_X8_29_2 p_X8_2_3 (fun h => by cases h) rfl (by decide) ?_
      refine h_iconst dX8_leans_46 ci_0 ?_
      refine h_ireturn dX8_leans_47 rfl ?_
      exact hP _ (sub_eq0 c_38)
theorem oU_X8_bends_X2 : hOkU mX2_bends 1 2 ⟨"FarHeights$Sight", "bends", "(I)I"⟩ "FarHeights$Sight" := ⟨oX2_bends, k4_144, ⟨by decide +kernel, by decide +kernel, by decide +kernel⟩, k7_104, Or.inl k4_148, _, _, _, rfl, k7_110⟩
theorem t5_X8_tells {l : Launch} {dp : Nat} {n a x : Int32} {j : Nat} {I : hI} {J : hJ} {lt tx : Option Nat} {Q : hQ} (h0 : I 78 0 = n) (h1 : I 78 1 = a) (h2 : I 78 2 = nI j) (hj : j + 9 ≤ 30) (hQ : Q (some (.int (((nI 0 - (x + a - n)) * nI 2 + (nI 0 - (n + a - n))) ^^^ n))) hSH (ap I 79 78 2 j [13, 61, 11, 60, 30, 10, 60, 30, 10]) J (hRR lt tx))  : HC l mX8_tells (dp + 5) 0 0 [.ref 78, .int x] hSH I J (hRR lt tx) Q := by
  refine HC.of (by decide +kernel) rfl (Nat.le_of_ble_eq_true rfl) ?_
  show HV l mX8_tells (dp + 5) 0 0 0 [some (.ref 78), some (.int x)] [] hSH I J (hRR lt tx) Q
  refine h_aload_n dX8_tells_0 rfl ?_
  refine h_getI dX8_tells_1 f_X8_9_2 rfl (show _ = nI j from h2) ?_
  refine h_bipush dX8_tells_4 cb_30 ?_
  refine h_icmpge (tgt := 27) dX8_tells_6 rfl (fun c_6 => ?_) (fun c_6 => ?_)
  · rw [nI_leI (by omega) (by omega)] at c_6
    omega
  · rw [nI_leI (by omega) (by omega)] at c_6
    refine h_aload_n dX8_tells_9 rfl ?_
    refine h_getR dX8_tells_10 f_X8_15_2 rfl rfl ?_
    refine h_aload_n dX8_tells_13 rfl ?_
    refine h_dup dX8_tells_14 rfl ?_
    refine h_getI dX8_tells_15 f_X8_9_2 rfl (show _ = nI j from h2) ?_
    refine h_dup_x1 dX8_tells_18 rfl rfl ?_
    refine h_iconst dX8_tells_19 ci_1 ?_
    refine h_iaddN dX8_tells_20 ?_
    refine h_putI dX8_tells_21 f_X8_9_2 p_X8_2_2 (fun h => by cases h) rfl ?_
    refine h_bipush dX8_tells_24 cb_13 ?_
    refine h_iastN (j := j) dX8_tells_26 rfl rfl (by omega) rfl ?_
    rw [upI_sw _ _ _ _ _ (by decide)]
    change HV _ _ _ _ _ _ _ _ _ (ap I 79 78 2 j [13]) _ _ _
    refine h_aload_n dX8_tells_27 rfl ?_
    refine h_iload_n dX8_tells_28 rfl ?_
    refine h_cU1 dX8_tells_29 k4_178 oU_X8_bends_X2 rfl rfl ?_
    refine t5_X2_bends (j := j + 1) (ap_n (by decide) (by decide) h0) (ap_n (by decide) (by decide) h1) (ap_c (by decide) rfl h2) (by omega) ?_
    rw [ap_aq [13] [61, 11, 60, 30, 10, 60, 30, 10] [13, 61, 11, 60, 30, 10, 60, 30, 10] 1 rfl rfl]
    refine h_aload_n dX8_tells_32 rfl ?_
    refine h_getI dX8_tells_33 f_X8_26_2 rfl (ap_n (by decide) (by decide) h0) ?_
    refine h_ixor dX8_tells_36 ?_
    refine h_ireturn dX8_tells_37 rfl ?_
    exact hQ
theorem t6_X7_sees {l : Launch} {dp : Nat} {n a x : Int32} {j : Nat} {I : hI} {J : hJ} {lt tx : Option Nat} {Q : hQ} (h0 : I 80 0 = n) (h1 : I 80 1 = a) (h2 : I 80 2 = nI j) (hj : j + 1 ≤ 30) (hQ : Q (some (.int (x * a))) hSH (ap I 81 80 2 j [70]) J (hRR lt tx))  : HC l mX7_sees dp 0 0 [.ref 80, .int x] hSH I J (hRR lt tx) Q := by
  refine HC.of (by decide +kernel) rfl (Nat.le_of_ble_eq_true rfl) ?_
  show HV l mX7_sees dp 0 0 0 [some (.ref 80), some (.int x)] [] hSH I J (hRR lt tx) Q
  refine h_aload_n dX7_sees_0 rfl ?_
  refine h_getI dX7_sees_1 f_X7_9_7 rfl (show _ = nI j from h2) ?_
  refine h_bipush dX7_sees_4 cb_30 ?_
  refine h_icmpge (tgt := 27) dX7_sees_6 rfl (fun c_6 => ?_) (fun c_6 => ?_)
  · rw [nI_leI (by omega) (by omega)] at c_6
    omega
  · rw [nI_leI (by omega) (by omega)] at c_6
    refine h_aload_n dX7_sees_9 rfl ?_
    refine h_getR dX7_sees_10 f_X7_15_7 rfl rfl ?_
    refine h_aload_n dX7_sees_13 rfl ?_
    refine h_dup dX7_sees_14 rfl ?_
    refine h_getI dX7_sees_15 f_X7_9_7 rfl (show _ = nI j from h2) ?_
    refine h_dup_x1 dX7_sees_18 rfl rfl ?_
    refine h_iconst dX7_sees_19 ci_1 ?_
    refine h_iaddN dX7_sees_20 ?_
    refine h_putI dX7_sees_21 f_X7_9_7 p_X7_7_2 (fun h => by cases h) rfl ?_
    refine h_bipush dX7_sees_24 cb_70 ?_
    refine h_iastN (j := j) dX7_sees_26 rfl rfl (by omega) rfl ?_
    rw [upI_sw _ _ _ _ _ (by decide)]
    change HV _ _ _ _ _ _ _ _ _ (ap I 81 80 2 j [70]) _ _ _
    refine h_iload_n dX7_sees_27 rfl ?_
    refine h_aload_n dX7_sees_28 rfl ?_
    refine h_getI dX7_sees_29 f_X7_19_7 rfl (ap_n (by decide) (by decide) h1) ?_
    refine h_imul dX7_sees_32 ?_
    refine h_ireturn dX7_sees_33 rfl ?_
    exact hQ
theorem t6_X7_bends {l : Launch} {dp : Nat} {n a x : Int32} {j : Nat} {I : hI} {J : hJ} {lt tx : Option Nat} {Q : hQ} (h0 : I 80 0 = n) (h1 : I 80 1 = a) (h2 : I 80 2 = nI j) (hj : j + 2 ≤ 30) (hQ : Q (some (.int ((x * a) - n))) hSH (ap I 81 80 2 j [71, 70]) J (hRR lt tx))  : HC l mX7_bends (dp + 1) 0 0 [.ref 80, .int x] hSH I J (hRR lt tx) Q := by
  refine HC.of (by decide +kernel) rfl (Nat.le_of_ble_eq_true rfl) ?_
  show HV l mX7_bends (dp + 1) 0 0 0 [some (.ref 80), some (.int x)] [] hSH I J (hRR lt tx) Q
  refine h_aload_n dX7_bends_0 rfl ?_
  refine h_getI dX7_bends_1 f_X7_9_7 rfl (show _ = nI j from h2) ?_
  refine h_bipush dX7_bends_4 cb_30 ?_
  refine h_icmpge (tgt := 27) dX7_bends_6 rfl (fun c_6 => ?_) (fun c_6 => ?_)
  · rw [nI_leI (by omega) (by omega)] at c_6
    omega
  · rw [nI_leI (by omega) (by omega)] at c_6
    refine h_aload_n dX7_bends_9 rfl ?_
    refine h_getR dX7_bends_10 f_X7_15_7 rfl rfl ?_
    refine h_aload_n dX7_bends_13 rfl ?_
    refine h_dup dX7_bends_14 rfl ?_
    refine h_getI dX7_bends_15 f_X7_9_7 rfl (show _ = nI j from h2) ?_
    refine h_dup_x1 dX7_bends_18 rfl rfl ?_
    refine h_iconst dX7_bends_19 ci_1 ?_
    refine h_iaddN dX7_bends_20 ?_
    refine h_putI dX7_bends_21 f_X7_9_7 p_X7_7_2 (fun h => by cases h) rfl ?_
    refine h_bipush dX7_bends_24 cb_71 ?_
    refine h_iastN (j := j) dX7_bends_26 rfl rfl (by omega) rfl ?_
    rw [upI_sw _ _ _ _ _ (by decide)]
    change HV _ _ _ _ _ _ _ _ _ (ap I 81 80 2 j [71]) _ _ _
    refine h_aload_n dX7_bends_27 rfl ?_
    refine h_iload_n dX7_bends_28 rfl ?_
    refine h_cV1 dX7_bends_29 k4_155 oVX7_sees rfl rfl ?_
    refine t6_X7_sees (j := j + 1) (ap_n (by decide) (by decide) h0) (ap_n (by decide) (by decide) h1) (ap_c (by decide) rfl h2) (by omega) ?_
    rw [ap_aq [71] [70] [71, 70] 1 rfl rfl]
    refine h_aload_n dX7_bends_32 rfl ?_
    refine h_getI dX7_bends_33 f_X7_26_7 rfl (ap_n (by decide) (by decide) h0) ?_
    refine h_isub dX7_bends_36 ?_
    refine h_ireturn dX7_bends_37 rfl ?_
    exact hQ
theorem t6_X7_leans {l : Launch} {dp : Nat} {n a x : Int32} {j : Nat} {I : hI} {J : hJ} {lt tx : Option Nat} {Q : hQ} (h0 : I 80 0 = n) (h1 : I 80 1 = a) (h2 : I 80 2 = nI j) (hj : j + 1 ≤ 30) (hQ : Q (some (.int (x ||| a))) hSH (ap I 81 80 2 j [72]) J (hRR lt tx))  : HC l mX7_leans dp 0 0 [.ref 80, .int x] hSH I J (hRR lt tx) Q := by
  refine HC.of (by decide +kernel) rfl (Nat.le_of_ble_eq_true rfl) ?_
  show HV l mX7_leans dp 0 0 0 [some (.ref 80), some (.int x)] [] hSH I J (hRR lt tx) Q
  refine h_aload_n dX7_leans_0 rfl ?_
  refine h_getI dX7_leans_1 f_X7_9_7 rfl (show _ = nI j from h2) ?_
  refine h_bipush dX7_leans_4 cb_30 ?_
  refine h_icmpge (tgt := 27) dX7_leans_6 rfl (fun c_6 => ?_) (fun c_6 => ?_)
  · rw [nI_leI (by omega) (by omega)] at c_6
    omega
  · rw [nI_leI (by omega) (by omega)] at c_6
    refine h_aload_n dX7_leans_9 rfl ?_
    refine h_getR dX7_leans_10 f_X7_15_7 rfl rfl ?_
    refine h_aload_n dX7_leans_13 rfl ?_
    refine h_dup dX7_leans_14 rfl ?_
    refine h_getI dX7_leans_15 f_X7_9_7 rfl (show _ = nI j from h2) ?_
    refine h_dup_x1 dX7_leans_18 rfl rfl ?_
    refine h_iconst dX7_leans_19 ci_1 ?_
    refine h_iaddN dX7_leans_20 ?_
    refine h_putI dX7_leans_21 f_X7_9_7 p_X7_7_2 (fun h => by cases h) rfl ?_
    refine h_bipush dX7_leans_24 cb_72 ?_
    refine h_iastN (j := j) dX7_leans_26 rfl rfl (by omega) rfl ?_
    rw [upI_sw _ _ _ _ _ (by decide)]
    change HV _ _ _ _ _ _ _ _ _ (ap I 81 80 2 j [72]) _ _ _
    refine h_iload_n dX7_leans_27 rfl ?_
    refine h_aload_n dX7_leans_28 rfl ?_
    refine h_getI dX7_leans_29 f_X7_19_7 rfl (ap_n (by decide) (by decide) h1) ?_
    refine h_ior dX7_leans_32 ?_
    refine h_ireturn dX7_leans_33 rfl ?_
    exact hQ
theorem t6_X7_tells {l : Launch} {dp : Nat} {n a x : Int32} {j : Nat} {I : hI} {J : hJ} {lt tx : Option Nat} {Q : hQ} (h0 : I 80 0 = n) (h1 : I 80 1 = a) (h2 : I 80 2 = nI j) (hj : j + 4 ≤ 30) (hQ : Q (some (.int (((x * a) - n) + (n ||| a)))) hSH (ap I 81 80 2 j [73, 71, 70, 72]) J (hRR lt tx))  : HC l mX7_tells (dp + 2) 0 0 [.ref 80, .int x] hSH I J (hRR lt tx) Q := by
  refine HC.of (by decide +kernel) rfl (Nat.le_of_ble_eq_true rfl) ?_
  show HV l mX7_tells (dp + 2) 0 0 0 [some (.ref 80), some (.int x)] [] hSH I J (hRR lt tx) Q
  refine h_aload_n dX7_tells_0 rfl ?_
  refine h_getI dX7_tells_1 f_X7_9_7 rfl (show _ = nI j from h2) ?_
  refine h_bipush dX7_tells_4 cb_30 ?_
  refine h_icmpge (tgt := 27) dX7_tells_6 rfl (fun c_6 => ?_) (fun c_6 => ?_)
  · rw [nI_leI (by omega) (by omega)] at c_6
    omega
  · rw [nI_leI (by omega) (by omega)] at c_6
    refine h_aload_n dX7_tells_9 rfl ?_
    refine h_getR dX7_tells_10 f_X7_15_7 rfl rfl ?_
    refine h_aload_n dX7_tells_13 rfl ?_
    refine h_dup dX7_tells_14 rfl ?_
    refine h_getI dX7_tells_15 f_X7_9_7 rfl (show _ = nI j from h2) ?_
    refine h_dup_x1 dX7_tells_18 rfl rfl ?_
    refine h_iconst dX7_tells_19 ci_1 ?_
    refine h_iaddN dX7_tells_20 ?_
    refine h_putI dX7_tells_21 f_X7_9_7 p_X7_7_2 (fun h => by cases h) rfl ?_
    refine h_bipush dX7_tells_24 cb_73 ?_
    refine h_iastN (j := j) dX7_tells_26 rfl rfl (by omega) rfl ?_
    rw [upI_sw _ _ _ _ _ (by decide)]
    change HV _ _ _ _ _ _ _ _ _ (ap I 81 80 2 j [73]) _ _ _
    refine h_aload_n dX7_tells_27 rfl ?_
    refine h_iload_n dX7_tells_28 rfl ?_
    refine h_cV1 dX7_tells_29 k4_195 oVX7_bends rfl rfl ?_
    refine t6_X7_bends (j := j + 1) (ap_n (by decide) (by decide) h0) (ap_n (by decide) (by decide) h1) (ap_c (by decide) rfl h2) (by omega) ?_
    rw [ap_aq [73] [71, 70] [73, 71, 70] 1 rfl rfl]
    refine h_aload_n dX7_tells_32 rfl ?_
    refine h_aload_n dX7_tells_33 rfl ?_
    refine h_getI dX7_tells_34 f_X7_26_7 rfl (ap_n (by decide) (by decide) h0) ?_
    refine h_cV1 dX7_tells_37 k4_196 oVX7_leans rfl rfl ?_
    refine t6_X7_leans (j := j + 3) (ap_n (by decide) (by decide) h0) (ap_n (by decide) (by decide) h1) (ap_c (by decide) rfl h2) (by omega) ?_
    rw [ap_aq [73, 71, 70] [72] [73, 71, 70, 72] 3 rfl rfl]
    refine h_iadd dX7_tells_40 ?_
    refine h_ireturn dX7_tells_41 rfl ?_
    exact hQ
