theorem hRR_lt {lt tx v : Option Nat} : upR (hRR lt tx) 0 17 v = hRR v tx := by
  funext a j
  match a with
  | 0 =>
    match j with
    | 0 => rfl
    | 1 => rfl
    | 2 => rfl
    | 3 => rfl
    | 4 => rfl
    | 5 => rfl
    | 6 => rfl
    | 7 => rfl
    | 8 => rfl
    | 9 => rfl
    | 10 => rfl
    | 11 => rfl
    | 12 => rfl
    | 13 => rfl
    | 14 => rfl
    | 15 => rfl
    | 16 => rfl
    | 17 => rfl
    | j + 18 => rfl
  | a + 1 => rfl
theorem sub0 (v : Int32) : v - nI 0 = v := Int32.sub_zero v
/-- the bodies l appended to the trace in cell ca, its count in field ff of cell cf -/
def ap (I : hI) (ca cf ff : Nat) : Nat → List Nat → hI
  | _, [] => I
  | j, b :: l => ap (upI (upI I ca j (nI b)) cf ff (nI (j + 1))) ca cf ff (j + 1) l
theorem ap_ap {ca cf ff : Nat} {l2 : List Nat} : ∀ {l1 : List Nat} {I : hI} {j k : Nat} (_ : l1.length = k), ap (ap I ca cf ff j l1) ca cf ff (j + k) l2 = ap I ca cf ff j (l1 ++ l2)
  | [], I, j, k, h => by subst h; rfl
  | b :: l, I, j, k, h => by
    subst h
    show ap (ap _ ca cf ff (j + 1) l) ca cf ff (j + (l.length + 1)) l2 = ap _ ca cf ff (j + 1) (l ++ l2)
    rw [show j + (l.length + 1) = j + 1 + l.length by omega]
    exact ap_ap rfl
theorem ap_aq {ca cf ff : Nat} (l1 l2 l : List Nat) (k : Nat) {I : hI} {j : Nat} (h : l1.length = k) (e : l1 ++ l2 = l) : ap (ap I ca cf ff j l1) ca cf ff (j + k) l2 = ap I ca cf ff j l := by rw [← e]; exact ap_ap h
theorem ap_n {ca cf ff y : Nat} {v : Int32} (h1 : cf ≠ ca) (hy : y ≠ ff) : ∀ {l : List Nat} {I : hI} {j : Nat}, I cf y = v → ap I ca cf ff j l cf y = v
  | [], _, _, h => h
  | b :: l, I, j, h => ap_n h1 hy (l := l) (by rw [upI_s, upd_n _ _ hy, upI_n _ _ _ h1]; exact h)
theorem ap_c {ca cf ff : Nat} (h1 : cf ≠ ca) : ∀ {l : List Nat} {I : hI} {j k : Nat}, l.length = k → I cf ff = nI j → ap I ca cf ff j l cf ff = nI (j + k)
  | [], _, _, _, hk, h => by subst hk; exact h
  | b :: l, I, j, k, hk, h => by
    subst hk
    show ap _ ca cf ff (j + 1) l cf ff = nI (j + (l.length + 1))
    rw [show j + (l.length + 1) = j + 1 + l.length by omega]
    exact ap_c h1 (l := l) rfl (by rw [upI_s, upd_s])
theorem sub_eq0 {a b : Int32} (h : a - b = 0) : a = b := by
  have e := Int32.sub_add_cancel a b
  rw [h, Int32.zero_add] at e
  exact e.symm
theorem c_runs1 {l : Launch} {dp : Nat} {j b : Nat} {I : hI} {J : hJ} {lt tx : Option Nat} {Q : hQ} (h2 : I 70 2 = nI j) (hj : j < 30) (hQ : Q none hSH (ap I 71 70 2 j [b]) J (hRR lt tx))  : HC l mX9_runs dp 0 0 [.ref 70, .int (nI b)] hSH I J (hRR lt tx) Q := by
  refine HC.of (by decide +kernel) rfl (Nat.le_of_ble_eq_true rfl) ?_
  show HV l mX9_runs dp 0 0 0 [some (.ref 70), some (.int (nI b))] [] hSH I J (hRR lt tx) Q
  refine h_aload_n dX9_runs_0 rfl ?_
  refine h_getI dX9_runs_1 f_X9_18_4 rfl (show _ = nI j from h2) ?_
  refine h_bipush dX9_runs_4 cb_30 ?_
  refine h_icmpge (tgt := 29) dX9_runs_6 rfl (fun c_6 => ?_) (fun c_6 => ?_)
  · rw [nI_leI (by omega) (by omega)] at c_6
    omega
  · rw [nI_leI (by omega) (by omega)] at c_6
    refine h_aload_n dX9_runs_9 rfl ?_
    refine h_getR dX9_runs_10 f_X9_25_4 rfl rfl ?_
    refine h_aload_n dX9_runs_13 rfl ?_
    refine h_getI dX9_runs_14 f_X9_18_4 rfl (show _ = nI j from h2) ?_
    refine h_iload_n dX9_runs_17 rfl ?_
    refine h_iastN (j := j) dX9_runs_18 rfl rfl (by omega) rfl ?_
    refine h_aload_n dX9_runs_19 rfl ?_
    refine h_dup dX9_runs_20 rfl ?_
    refine h_getI dX9_runs_21 f_X9_18_4 rfl (show _ = nI j from h2) ?_
    refine h_iconst dX9_runs_24 ci_1 ?_
    refine h_iaddN dX9_runs_25 ?_
    refine h_putI dX9_runs_26 f_X9_18_4 p_X9_4_2 (fun h => by cases h) rfl ?_
    refine h_return dX9_runs_29 rfl ?_
    exact hQ
theorem c_begin1 {l : Launch} {dp : Nat} {n a : Int32} {I : hI} {J : hJ} {lt tx : Option Nat} {Q : hQ} (hQ : Q none hSH (upI (upI (upI (upI I 70 0 n) 70 1 a) 70 2 (nI 0)) 70 3 (nI 0)) J (hRR lt tx))  : HC l mX9_begin dp 0 0 [.ref 70, .int n, .int a] hSH I J (hRR lt tx) Q := by
  refine HC.of (by decide +kernel) rfl (Nat.le_of_ble_eq_true rfl) ?_
  show HV l mX9_begin dp 0 0 0 [some (.ref 70), some (.int n), some (.int a)] [] hSH I J (hRR lt tx) Q
  refine h_aload_n dX9_begin_0 rfl ?_
  refine h_iload_n dX9_begin_1 rfl ?_
  refine h_putI dX9_begin_2 f_X9_9_4 p_X9_4_0 (fun h => by cases h) rfl ?_
  refine h_aload_n dX9_begin_5 rfl ?_
  refine h_iload_n dX9_begin_6 rfl ?_
  refine h_putI dX9_begin_7 f_X9_15_4 p_X9_4_1 (fun h => by cases h) rfl ?_
  refine h_aload_n dX9_begin_10 rfl ?_
  refine h_iconst dX9_begin_11 ci_0 ?_
  refine h_putI dX9_begin_12 f_X9_18_4 p_X9_4_2 (fun h => by cases h) rfl ?_
  refine h_aload_n dX9_begin_15 rfl ?_
  refine h_iconst dX9_begin_16 ci_0 ?_
  refine h_putZ dX9_begin_17 f_X9_21_4 p_X9_4_3 (fun h => by cases h) rfl (by decide) ?_
  refine h_return dX9_begin_20 rfl ?_
  exact hQ
theorem c_runs2 {l : Launch} {dp : Nat} {j b : Nat} {I : hI} {J : hJ} {lt tx : Option Nat} {Q : hQ} (h2 : I 72 2 = nI j) (hj : j < 30) (hQ : Q none hSH (ap I 73 72 2 j [b]) J (hRR lt tx))  : HC l mX9_runs dp 0 0 [.ref 72, .int (nI b)] hSH I J (hRR lt tx) Q := by
  refine HC.of (by decide +kernel) rfl (Nat.le_of_ble_eq_true rfl) ?_
  show HV l mX9_runs dp 0 0 0 [some (.ref 72), some (.int (nI b))] [] hSH I J (hRR lt tx) Q
  refine h_aload_n dX9_runs_0 rfl ?_
  refine h_getI dX9_runs_1 f_X9_18_6 rfl (show _ = nI j from h2) ?_
  refine h_bipush dX9_runs_4 cb_30 ?_
  refine h_icmpge (tgt := 29) dX9_runs_6 rfl (fun c_6 => ?_) (fun c_6 => ?_)
  · rw [nI_leI (by omega) (by omega)] at c_6
    omega
  · rw [nI_leI (by omega) (by omega)] at c_6
    refine h_aload_n dX9_runs_9 rfl ?_
    refine h_getR dX9_runs_10 f_X9_25_6 rfl rfl ?_
    refine h_aload_n dX9_runs_13 rfl ?_
    refine h_getI dX9_runs_14 f_X9_18_6 rfl (show _ = nI j from h2) ?_
    refine h_iload_n dX9_runs_17 rfl ?_
    refine h_iastN (j := j) dX9_runs_18 rfl rfl (by omega) rfl ?_
    refine h_aload_n dX9_runs_19 rfl ?_
    refine h_dup dX9_runs_20 rfl ?_
    refine h_getI dX9_runs_21 f_X9_18_6 rfl (show _ = nI j from h2) ?_
    refine h_iconst dX9_runs_24 ci_1 ?_
    refine h_iaddN dX9_runs_25 ?_
    refine h_putI dX9_runs_26 f_X9_18_6 p_X9_6_2 (fun h => by cases h) rfl ?_
    refine h_return dX9_runs_29 rfl ?_
    exact hQ
theorem c_begin2 {l : Launch} {dp : Nat} {n a : Int32} {I : hI} {J : hJ} {lt tx : Option Nat} {Q : hQ} (hQ : Q none hSH (upI (upI (upI (upI I 72 0 n) 72 1 a) 72 2 (nI 0)) 72 3 (nI 0)) J (hRR lt tx))  : HC l mX9_begin dp 0 0 [.ref 72, .int n, .int a] hSH I J (hRR lt tx) Q := by
  refine HC.of (by decide +kernel) rfl (Nat.le_of_ble_eq_true rfl) ?_
  show HV l mX9_begin dp 0 0 0 [some (.ref 72), some (.int n), some (.int a)] [] hSH I J (hRR lt tx) Q
  refine h_aload_n dX9_begin_0 rfl ?_
  refine h_iload_n dX9_begin_1 rfl ?_
  refine h_putI dX9_begin_2 f_X9_9_6 p_X9_6_0 (fun h => by cases h) rfl ?_
  refine h_aload_n dX9_begin_5 rfl ?_
  refine h_iload_n dX9_begin_6 rfl ?_
  refine h_putI dX9_begin_7 f_X9_15_6 p_X9_6_1 (fun h => by cases h) rfl ?_
  refine h_aload_n dX9_begin_10 rfl ?_
  refine h_iconst dX9_begin_11 ci_0 ?_
  refine h_putI dX9_begin_12 f_X9_18_6 p_X9_6_2 (fun h => by cases h) rfl ?_
  refine h_aload_n dX9_begin_15 rfl ?_
  refine h_iconst dX9_begin_16 ci_0 ?_
  refine h_putZ dX9_begin_17 f_X9_21_6 p_X9_6_3 (fun h => by cases h) rfl (by decide) ?_
  refine h_return dX9_begin_20 rfl ?_
  exact hQ
theorem c_runs3 {l : Launch} {dp : Nat} {j b : Nat} {I : hI} {J : hJ} {lt tx : Option Nat} {Q : hQ} (h2 : I 74 2 = nI j) (hj : j < 30) (hQ : Q none hSH (ap I 75 74 2 j [b]) J (hRR lt tx))  : HC l mX9_runs dp 0 0 [.ref 74, .int (nI b)] hSH I J (hRR lt tx) Q := by
  refine HC.of (by decide +kernel) rfl (Nat.le_of_ble_eq_true rfl) ?_
  show HV l mX9_runs dp 0 0 0 [some (.ref 74), some (.int (nI b))] [] hSH I J (hRR lt tx) Q
  refine h_aload_n dX9_runs_0 rfl ?_
  refine h_getI dX9_runs_1 f_X9_18_0 rfl (show _ = nI j from h2) ?_
  refine h_bipush dX9_runs_4 cb_30 ?_
  refine h_icmpge (tgt := 29) dX9_runs_6 rfl (fun c_6 => ?_) (fun c_6 => ?_)
  · rw [nI_leI (by omega) (by omega)] at c_6
    omega
  · rw [nI_leI (by omega) (by omega)] at c_6
    refine h_aload_n dX9_runs_9 rfl ?_
    refine h_getR dX9_runs_10 f_X9_25_0 rfl rfl ?_
    refine h_aload_n dX9_runs_13 rfl ?_
    refine h_getI dX9_runs_14 f_X9_18_0 rfl (show _ = nI j from h2) ?_
    refine h_iload_n dX9_runs_17 rfl ?_
    refine h_iastN (j := j) dX9_runs_18 rfl rfl (by omega) rfl ?_
    refine h_aload_n dX9_runs_19 rfl ?_
    refine h_dup dX9_runs_20 rfl ?_
    refine h_getI dX9_runs_21 f_X9_18_0 rfl (show _ = nI j from h2) ?_
    refine h_iconst dX9_runs_24 ci_1 ?_
    refine h_iaddN dX9_runs_25 ?_
    refine h_putI dX9_runs_26 f_X9_18_0 p_X9_0_2 (fun h => by cases h) rfl ?_
    refine h_return dX9_runs_29 rfl ?_
    exact hQ
theorem c_begin3 {l : Launch} {dp : Nat} {n a : Int32} {I : hI} {J : hJ} {lt tx : Option Nat} {Q : hQ} (hQ : Q none hSH (upI (upI (upI (upI I 74 0 n) 74 1 a) 74 2 (nI 0)) 74 3 (nI 0)) J (hRR lt tx))  : HC l mX9_begin dp 0 0 [.ref 74, .int n, .int a] hSH I J (hRR lt tx) Q := by
  refine HC.of (by decide +kernel) rfl (Nat.le_of_ble_eq_true rfl) ?_
  show HV l mX9_begin dp 0 0 0 [some (.ref 74), some (.int n), some (.int a)] [] hSH I J (hRR lt tx) Q
  refine h_aload_n dX9_begin_0 rfl ?_
  refine h_iload_n dX9_begin_1 rfl ?_
  refine h_putI dX9_begin_2 f_X9_9_0 p_X9_0_0 (fun h => by cases h) rfl ?_
  refine h_aload_n dX9_begin_5 rfl ?_
  refine h_iload_n dX9_begin_6 rfl ?_
  refine h_putI dX9_begin_7 f_X9_15_0 p_X9_0_1 (fun h => by cases h) rfl ?_
  refine h_aload_n dX9_begin_10 rfl ?_
  refine h_iconst dX9_begin_11 ci_0 ?_
  refine h_putI dX9_begin_12 f_X9_18_0 p_X9_0_2 (fun h => by cases h) rfl ?_
  refine h_aload_n dX9_begin_15 rfl ?_
  refine h_iconst dX9_begin_16 ci_0 ?_
  refine h_putZ dX9_begin_17 f_X9_21_0 p_X9_0_3 (fun h => by cases h) rfl (by decide) ?_
  refine h_return dX9_begin_20 rfl ?_
  exact hQ
theorem c_runs4 {l : Launch} {dp : Nat} {j b : Nat} {I : hI} {J : hJ} {lt tx : Option Nat} {Q : hQ} (h2 : I 76 2 = nI j) (hj : j < 30) (hQ : Q none hSH (ap I 77 76 2 j [b]) J (hRR lt tx))  : HC l mX9_runs dp 0 0 [.ref 76, .int (nI b)] hSH I J (hRR lt tx) Q := by
  refine HC.of (by decide +kernel) rfl (Nat.le_of_ble_eq_true rfl) ?_
  show HV l mX9_runs dp 0 0 0 [some (.ref 76), some (.int (nI b))] [] hSH I J (hRR lt tx) Q
  refine h_aload_n dX9_runs_0 rfl ?_
  refine h_getI dX9_runs_1 f_X9_18_1 rfl (show _ = nI j from h2) ?_
  refine h_bipush dX9_runs_4 cb_30 ?_
  refine h_icmpge (tgt := 29) dX9_runs_6 rfl (fun c_6 => ?_) (fun c_6 => ?_)
  · rw [nI_leI (by omega) (by omega)] at c_6
    omega
  · rw [nI_leI (by omega) (by omega)] at c_6
    refine h_aload_n dX9_runs_9 rfl ?_
    refine h_getR dX9_runs_10 f_X9_25_1 rfl rfl ?_
    refine h_aload_n dX9_runs_13 rfl ?_
    refine h_getI dX9_runs_14 f_X9_18_1 rfl (show _ = nI j from h2) ?_
    refine h_iload_n dX9_runs_17 rfl ?_
    refine h_iastN (j := j) dX9_runs_18 rfl rfl (by omega) rfl ?_
    refine h_aload_n dX9_runs_19 rfl ?_
    refine h_dup dX9_runs_20 rfl ?_
    refine h_getI dX9_runs_21 f_X9_18_1 rfl (show _ = nI j from h2) ?_
    refine h_iconst dX9_runs_24 ci_1 ?_
    refine h_iaddN dX9_runs_25 ?_
    refine h_putI dX9_runs_26 f_X9_18_1 p_X9_1_2 (fun h => by cases h) rfl ?_
    refine h_return dX9_runs_29 rfl ?_
    exact hQ
theorem c_begin4 {l : Launch} {dp : Nat} {n a : Int32} {I : hI} {J : hJ} {lt tx : Option Nat} {Q : hQ} (hQ : Q none hSH (upI (upI (upI (upI I 76 0 n) 76 1 a) 76 2 (nI 0)) 76 3 (nI 0)) J (hRR lt tx))  : HC l mX9_begin dp 0 0 [.ref 76, .int n, .int a] hSH I J (hRR lt tx) Q := by
  refine HC.of (by decide +kernel) rfl (Nat.le_of_ble_eq_true rfl) ?_
  show HV l mX9_begin dp 0 0 0 [some (.ref 76), some (.int n), some (.int a)] [] hSH I J (hRR lt tx) Q
  refine h_aload_n dX9_begin_0 rfl ?_
  refine h_iload_n dX9_begin_1 rfl ?_
  refine h_putI dX9_begin_2 f_X9_9_1 p_X9_1_0 (fun h => by cases h) rfl ?_
  refine h_aload_n dX9_begin_5 rfl ?_
  refine h_iload_n dX9_begin_6 rfl ?_
  refine h_putI dX9_begin_7 f_X9_15_1 p_X9_1_1 (fun h => by cases h) rfl ?_
  refine h_aload_n dX9_begin_10 rfl ?_
  refine h_iconst dX9_begin_11 ci_0 ?_
  refine h_putI dX9_begin_12 f_X9_18_1 p_X9_1_2 (fun h => by cases h) rfl ?_
  refine h_aload_n dX9_begin_15 rfl ?_
  refine h_iconst dX9_begin_16 ci_0 ?_
  refine h_putZ dX9_begin_17 f_X9_21_1 p_X9_1_3 (fun h => by cases h) rfl (by decide) ?_
  refine h_return dX9_begin_20 rfl ?_
  exact hQ
theorem c_runs5 {l : Launch} {dp : Nat} {j b : Nat} {I : hI} {J : hJ} {lt tx : Option Nat} {Q : hQ} (h2 : I 78 2 = nI j) (hj : j < 30) (hQ : Q none hSH (ap I 79 78 2 j [b]) J (hRR lt tx))  : HC l mX9_runs dp 0 0 [.ref 78, .int (nI b)] hSH I J (hRR lt tx) Q := by
  refine HC.of (by decide +kernel) rfl (Nat.le_of_ble_eq_true rfl) ?_
  show HV l mX9_runs dp 0 0 0 [some (.ref 78), some (.int (nI b))] [] hSH I J (hRR lt tx) Q
  refine h_aload_n dX9_runs_0 rfl ?_
  refine h_getI dX9_runs_1 f_X9_18_2 rfl (show _ = nI j from h2) ?_
  refine h_bipush dX9_runs_4 cb_30 ?_
  refine h_icmpge (tgt := 29) dX9_runs_6 rfl (fun c_6 => ?_) (fun c_6 => ?_)
  · rw [nI_leI (by omega) (by omega)] at c_6
    omega
  · rw [nI_leI (by omega) (by omega)] at c_6
    refine h_aload_n dX9_runs_9 rfl ?_
    refine h_getR dX9_runs_10 f_X9_25_2 rfl rfl ?_
    refine h_aload_n dX9_runs_13 rfl ?_
    refine h_getI dX9_runs_14 f_X9_18_2 rfl (show _ = nI j from h2) ?_
    refine h_iload_n dX9_runs_17 rfl ?_
    refine h_iastN (j := j) dX9_runs_18 rfl rfl (by omega) rfl ?_
    refine h_aload_n dX9_runs_19 rfl ?_
    refine h_dup dX9_runs_20 rfl ?_
    refine h_getI dX9_runs_21 f_X9_18_2 rfl (show _ = nI j from h2) ?_
    refine h_iconst dX9_runs_24 ci_1 ?_
    refine h_iaddN dX9_runs_25 ?_
    refine h_putI dX9_runs_26 f_X9_18_2 p_X9_2_2 (fun h => by cases h) rfl ?_
    refine h_return dX9_runs_29 rfl ?_
    exact hQ
theorem c_begin5 {l : Launch} {dp : Nat} {n a : Int32} {I : hI} {J : hJ} {lt tx : Option Nat} {Q : hQ} (hQ : Q none hSH (upI (upI (upI (upI I 78 0 n) 78 1 a) 78 2 (nI 0)) 78 3 (nI 0)) J (hRR lt tx))  : HC l mX9_begin dp 0 0 [.ref 78, .int n, .int a] hSH I J (hRR lt tx) Q := by
  refine HC.of (by decide +kernel) rfl (Nat.le_of_ble_eq_true rfl) ?_
  show HV l mX9_begin dp 0 0 0 [some (.ref 78), some (.int n), some (.int a)] [] hSH I J (hRR lt tx) Q
  refine h_aload_n dX9_begin_0 rfl ?_
  refine h_iload_n dX9_begin_1 rfl ?_
  refine h_putI dX9_begin_2 f_X9_9_2 p_X9_2_0 (fun h => by cases h) rfl ?_
  refine h_aload_n dX9_begin_5 rfl ?_
  refine h_iload_n dX9_begin_6 rfl ?_
  refine h_putI dX9_begin_7 f_X9_15_2 p_X9_2_1 (fun h => by cases h) rfl ?_
  refine h_aload_n dX9_begin_10 rfl ?_
  refine h_iconst dX9_begin_11 ci_0 ?_
  refine h_putI dX9_begin_12 f_X9_18_2 p_X9_2_2 (fun h => by cases h) rfl ?_
  refine h_aload_n dX9_begin_15 rfl ?_
  refine h_iconst dX9_begin_16 ci_0 ?_
  refine h_putZ dX9_begin_17 f_X9_21_2 p_X9_2_3 (fun h => by cases h) rfl (by decide) ?_
  refine h_return dX9_begin_20 rfl ?_
  exact hQ
theorem c_runs6 {l : Launch} {dp : Nat} {j b : Nat} {I : hI} {J : hJ} {lt tx : Option Nat} {Q : hQ} (h2 : I 80 2 = nI j) (hj : j < 30) (hQ : Q none hSH (ap I 81 80 2 j [b]) J (hRR lt tx))  : HC l mX9_runs dp 0 0 [.ref 80, .int (nI b)] hSH I J (hRR lt tx) Q := by
  refine HC.of (by decide +kernel) rfl (Nat.le_of_ble_eq_true rfl) ?_
  show HV l mX9_runs dp 0 0 0 [some (.ref 80), some (.int (nI b))] [] hSH I J (hRR lt tx) Q
  refine h_aload_n dX9_runs_0 rfl ?_
  refine h_getI dX9_runs_1 f_X9_18_7 rfl (show _ = nI j from h2) ?_
  refine h_bipush dX9_runs_4 cb_30 ?_
  refine h_icmpge (tgt := 29) dX9_runs_6 rfl (fun c_6 => ?_) (fun c_6 => ?_)
  · rw [nI_leI (by omega) (by omega)] at c_6
    omega
  · rw [nI_leI (by omega) (by omega)] at c_6
    refine h_aload_n dX9_runs_9 rfl ?_
    refine h_getR dX9_runs_10 f_X9_25_7 rfl rfl ?_
    refine h_aload_n dX9_runs_13 rfl ?_
    refine h_getI dX9_runs_14 f_X9_18_7 rfl (show _ = nI j from h2) ?_
    refine h_iload_n dX9_runs_17 rfl ?_
    refine h_iastN (j := j) dX9_runs_18 rfl rfl (by omega) rfl ?_
    refine h_aload_n dX9_runs_19 rfl ?_
    refine h_dup dX9_runs_20 rfl ?_
    refine h_getI dX9_runs_21 f_X9_18_7 rfl (show _ = nI j from h2) ?_
    refine h_iconst dX9_runs_24 ci_1 ?_
    refine h_iaddN dX9_runs_25 ?_
    refine h_putI dX9_runs_26 f_X9_18_7 p_X9_7_2 (fun h => by cases h) rfl ?_
    refine h_return dX9_runs_29 rfl ?_
    exact hQ
theorem c_begin6 {l : Launch} {dp : Nat} {n a : Int32} {I : hI} {J : hJ} {lt tx : Option Nat} {Q : hQ} (hQ : Q none hSH (upI (upI (upI (upI I 80 0 n) 80 1 a) 80 2 (nI 0)) 80 3 (nI 0)) J (hRR lt tx))  : HC l mX9_begin dp 0 0 [.ref 80, .int n, .int a] hSH I J (hRR lt tx) Q := by
  refine HC.of (by decide +kernel) rfl (Nat.le_of_ble_eq_true rfl) ?_
  show HV l mX9_begin dp 0 0 0 [some (.ref 80), some (.int n), some (.int a)] [] hSH I J (hRR lt tx) Q
  refine h_aload_n dX9_begin_0 rfl ?_
  refine h_iload_n dX9_begin_1 rfl ?_
  refine h_putI dX9_begin_2 f_X9_9_7 p_X9_7_0 (fun h => by cases h) rfl ?_
  refine h_aload_n dX9_begin_5 rfl ?_
  refine h_iload_n dX9_begin_6 rfl ?_
  refine h_putI dX9_begin_7 f_X9_15_7 p_X9_7_1 (fun h => by cases h) rfl ?_
  refine h_aload_n dX9_begin_10 rfl ?_
  refine h_iconst dX9_begin_11 ci_0 ?_
  refine h_putI dX9_begin_12 f_X9_18_7 p_X9_7_2 (fun h => by cases h) rfl ?_
  refine h_aload_n dX9_begin_15 rfl ?_
  refine h_iconst dX9_begin_16 ci_0 ?_
  refine h_putZ dX9_begin_17 f_X9_21_7 p_X9_7_3 (fun h => by cases h) rfl (by decide) ?_
  refine h_return dX9_begin_20 rfl ?_
  exact hQ
theorem oU_X8_runs_X4 : hOkU mX9_runs 1 4 ⟨"FarHeights$Sight", "runs", "(I)V"⟩ "FarHeights$Thing" := ⟨oX9_runs, k4_94, ⟨by decide +kernel, by decide +kernel, by decide +kernel⟩, k4_87, Or.inl k4_88, _, _, _, rfl, k4_92⟩
theorem t1_X8_sees {l : Launch} {dp : Nat} {n a x : Int32} {j : Nat} {I : hI} {J : hJ} {lt tx : Option Nat} {Q : hQ} (h0 : I 70 0 = n) (h1 : I 70 1 = a) (h2 : I 70 2 = nI j) (hj : j + 1 ≤ 30) (hQ : Q (some (.int (x + a))) hSH (ap I 71 70 2 j [10]) J (hRR lt tx))  : HC l mX8_sees (dp + 1) 0 0 [.ref 70, .int x] hSH I J (hRR lt tx) Q := by
  refine HC.of (by decide +kernel) rfl (Nat.le_of_ble_eq_true rfl) ?_
  show HV l mX8_sees (dp + 1) 0 0 0 [some (.ref 70), some (.int x)] [] hSH I J (hRR lt tx) Q
  refine h_aload_n dX8_sees_0 rfl ?_
  refine h_bipush dX8_sees_1 cb_10 ?_
  refine h_cU1 dX8_sees_3 k4_86 oU_X8_runs_X4 rfl rfl ?_
  refine c_runs1 (j := j) h2 (by omega) ?_
  refine h_iload_n dX8_sees_6 rfl ?_
  refine h_aload_n dX8_sees_7 rfl ?_
  refine h_getI dX8_sees_8 f_X8_13_4 rfl (ap_n (by decide) (by decide) h1) ?_
  refine h_iadd dX8_sees_11 ?_
  refine h_ireturn dX8_sees_12 rfl ?_
  exact hQ
theorem oU_X4_runs_X4 : hOkU mX9_runs 1 4 ⟨"FarHeights$Morning", "runs", "(I)V"⟩ "FarHeights$Thing" := ⟨oX9_runs, k4_94, ⟨by decide +kernel, by decide +kernel, by decide +kernel⟩, k4_138, Or.inl k4_88, _, _, _, rfl, k4_140⟩
theorem oP_X4_X8_bends : hOkP mX8_bends 1 "FarHeights$Morning" ⟨"FarHeights$Sight", "bends", "(I)I"⟩ := ⟨oX8_bends, k4_131, k7_106, k2_4, Or.inl rfl, rfl, rfl, by decide +kernel⟩
theorem oU_X8_sees_X4 : hOkU mX8_sees 1 4 ⟨"FarHeights$Sight", "sees", "(I)I"⟩ "FarHeights$Sight" := ⟨oX8_sees, k4_84, ⟨by decide +kernel, by decide +kernel, by decide +kernel⟩, k7_100, Or.inl k4_104, _, _, _, rfl, k7_104⟩
theorem t1_X8_bends {l : Launch} {dp : Nat} {n a x : Int32} {j : Nat} {I : hI} {J : hJ} {lt tx : Option Nat} {Q : hQ} (h0 : I 70 0 = n) (h1 : I 70 1 = a) (h2 : I 70 2 = nI j) (hj : j + 2 ≤ 30) (hQ : Q (some (.int ((x + a) * nI 2))) hSH (ap I 71 70 2 j [11, 10]) J (hRR lt tx))  : HC l mX8_bends (dp + 4) 0 0 [.ref 70, .int x] hSH I J (hRR lt tx) Q := by
  refine HC.of (by decide +kernel) rfl (Nat.le_of_ble_eq_true rfl) ?_
  show HV l mX8_bends (dp + 4) 0 0 0 [some (.ref 70), some (.int x)] [] hSH I J (hRR lt tx) Q
  refine h_aload_n dX8_bends_0 rfl ?_
  refine h_bipush dX8_bends_1 cb_11 ?_
  refine h_cU1 dX8_bends_3 k4_86 oU_X8_runs_X4 rfl rfl ?_
  refine c_runs1 (j := j) h2 (by omega) ?_
  refine h_aload_n dX8_bends_6 rfl ?_
  refine h_iload_n dX8_bends_7 rfl ?_
  refine h_cU1 dX8_bends_8 k4_133 oU_X8_sees_X4 rfl rfl ?_
  refine t1_X8_sees (j := j + 1) (ap_n (by decide) (by decide) h0) (ap_n (by decide) (by decide) h1) (ap_c (by decide) rfl h2) (by omega) ?_
  rw [ap_aq [11] [10] [11, 10] 1 rfl rfl]
  refine h_iconst dX8_bends_11 ci_2 ?_
  refine h_imul dX8_bends_12 ?_
  refine h_ireturn dX8_bends_13 rfl ?_
  exact hQ
theorem t1_X4_bends {l : Launch} {dp : Nat} {n a x : Int32} {j : Nat} {I : hI} {J : hJ} {lt tx : Option Nat} {Q : hQ} (h0 : I 70 0 = n) (h1 : I 70 1 = a) (h2 : I 70 2 = nI j) (hj : j + 3 ≤ 30) (hQ : Q (some (.int ((x + a) * nI 2 + nI 7))) hSH (ap I 71 70 2 j [20, 11, 10]) J (hRR lt tx))  : HC l mX4_bends (dp + 5) 0 0 [.ref 70, .int x] hSH I J (hRR lt tx) Q := by
  refine HC.of (by decide +kernel) rfl (Nat.le_of_ble_eq_true rfl) ?_
  show HV l mX4_bends (dp + 5) 0 0 0 [some (.ref 70), some (.int x)] [] hSH I J (hRR lt tx) Q
  refine h_aload_n dX4_bends_0 rfl ?_
  refine h_bipush dX4_bends_1 cb_20 ?_
  refine h_cU1 dX4_bends_3 k4_137 oU_X4_runs_X4 rfl rfl ?_
  refine c_runs1 (j := j) h2 (by omega) ?_
  refine h_aload_n dX4_bends_6 rfl ?_
  refine h_iload_n dX4_bends_7 rfl ?_
  refine h_cP1 dX4_bends_8 k4_141 oP_X4_X8_bends rfl rfl rfl ?_
  refine t1_X8_bends (j := j + 1) (ap_n (by decide) (by decide) h0) (ap_n (by decide) (by decide) h1) (ap_c (by decide) rfl h2) (by omega) ?_
  rw [ap_aq [20] [11, 10] [20, 11, 10] 1 rfl rfl]
  refine h_bipush dX4_bends_11 cb_7 ?_
  refine h_iadd dX4_bends_13 ?_
  refine h_ireturn dX4_bends_14 rfl ?_
  exact hQ
theorem t1_X8_leans {l : Launch} {dp : Nat} {n a x : Int32} {j : Nat} {I : hI} {J : hJ} {lt tx : Option Nat} {Q : hQ} (h0 : I 70 0 = n) (h1 : I 70 1 = a) (h2 : I 70 2 = nI j) (hj : j + 1 ≤ 30) (hP : ∀ v, a = n → Q (some (.int v)) hSH (upI (ap I 71 70 2 j [12]) 70 3 (nI 1)) J (hRR lt tx)) (hQ : ¬ a = n → Q (some (.int (x / (a - n)))) hSH (ap I 71 70 2 j [12]) J (hRR lt tx))  : HC l mX8_leans (dp + 1) 0 0 [.ref 70, .int x] hSH I J (hRR lt tx) Q := by
  refine HC.of (by decide +kernel) rfl (Nat.le_of_ble_eq_true rfl) ?_
  show HV l mX8_leans (dp + 1) 0 0 0 [some (.ref 70), some (.int x), none] [] hSH I J (hRR lt tx) Q
  refine h_aload_n dX8_leans_0 rfl ?_
  refine h_bipush dX8_leans_1 cb_12 ?_
  refine h_cU1 dX8_leans_3 k4_86 oU_X8_runs_X4 rfl rfl ?_
  refine c_runs1 (j := j) h2 (by omega) ?_
  refine h_aload_n dX8_leans_6 rfl ?_
  refine h_getI dX8_leans_7 f_X8_13_4 rfl (ap_n (by decide) (by decide) h1) ?_
  refine h_aload_n dX8_leans_10 rfl ?_
  refine h_getI dX8_leans_11 f_X8_21_4 rfl (ap_n (by decide) (by decide) h0) ?_
  refine h_isub dX8_leans_14 ?_
  refine h_istore_n dX8_leans_15 (Nat.le_of_ble_eq_true rfl) ?_
  refine h_iload_n dX8_leans_16 rfl ?_
  refine h_ifne (tgt := 27) dX8_leans_17 rfl (fun c_17 => ?_) (fun c_17 => ?_)
  · refine h_iload_n dX8_leans_27 rfl ?_
    refine h_iload_n dX8_leans_28 rfl ?_
    refine h_idiv dX8_leans_29 c_17 ?_
    refine h_ireturn dX8_leans_30 rfl ?_
    exact hQ (fun z => c_17 (by rw [z]; exact Int32.sub_self n))
  · refine h_aload_n dX8_leans_20 rfl ?_
    refine h_iconst dX8_leans_21 ci_1 ?_
    refine h_putZ dX8_leans_22 f_X8_24_4 p_X8_4_3 (fun h => by cases h) rfl (by decide) ?_
    refine h_iconst dX8_leans_25 ci_0 ?_
    refine h_ireturn dX8_leans_26 rfl ?_
    exact hP _ (sub_eq0 c_17)
theorem oU_X8_bends_X4 : hOkU mX4_bends 1 4 ⟨"FarHeights$Sight", "bends", "(I)I"⟩ "FarHeights$Sight" := ⟨oX4_bends, k4_135, ⟨by decide +kernel, by decide +kernel, by decide +kernel⟩, k7_106, Or.inl k4_147, _, _, _, rfl, k7_113⟩
theorem t1_X8_tells {l : Launch} {dp : Nat} {n a x : Int32} {j : Nat} {I : hI} {J : hJ} {lt tx : Option Nat} {Q : hQ} (h0 : I 70 0 = n) (h1 : I 70 1 = a) (h2 : I 70 2 = nI j) (hj : j + 4 ≤ 30) (hQ : Q (some (.int (((x + a) * nI 2 + nI 7) ^^^ n))) hSH (ap I 71 70 2 j [13, 20, 11, 10]) J (hRR lt tx))  : HC l mX8_tells (dp + 6) 0 0 [.ref 70, .int x] hSH I J (hRR lt tx) Q := by
  refine HC.of (by decide +kernel) rfl (Nat.le_of_ble_eq_true rfl) ?_
  show HV l mX8_tells (dp + 6) 0 0 0 [some (.ref 70), some (.int x)] [] hSH I J (hRR lt tx) Q
  refine h_aload_n dX8_tells_0 rfl ?_
  refine h_bipush dX8_tells_1 cb_13 ?_
  refine h_cU1 dX8_tells_3 k4_86 oU_X8_runs_X4 rfl rfl ?_
  refine c_runs1 (j := j) h2 (by omega) ?_
  refine h_aload_n dX8_tells_6 rfl ?_
  refine h_iload_n dX8_tells_7 rfl ?_
  refine h_cU1 dX8_tells_8 k4_180 oU_X8_bends_X4 rfl rfl ?_
  refine t1_X4_bends (j := j + 1) (ap_n (by decide) (by decide) h0) (ap_n (by decide) (by decide) h1) (ap_c (by decide) rfl h2) (by omega) ?_
  rw [ap_aq [13] [20, 11, 10] [13, 20, 11, 10] 1 rfl rfl]
  refine h_aload_n dX8_tells_11 rfl ?_
  refine h_getI dX8_tells_12 f_X8_21_4 rfl (ap_n (by decide) (by decide) h0) ?_
  refine h_ixor dX8_tells_15 ?_
  refine h_ireturn dX8_tells_16 rfl ?_
  exact hQ
theorem oU_X6_runs_X6 : hOkU mX9_runs 1 6 ⟨"FarHeights$Noon", "runs", "(I)V"⟩ "FarHeights$Thing" := ⟨oX9_runs, k4_94, ⟨by decide +kernel, by decide +kernel, by decide +kernel⟩, k4_115, Or.inl k4_88, _, _, _, rfl, k4_117⟩
theorem oP_X6_X8_sees : hOkP mX8_sees 1 "FarHeights$Noon" ⟨"FarHeights$Sight", "sees", "(I)I"⟩ := ⟨oX8_sees, k4_84, k7_100, k2_18, Or.inl rfl, rfl, rfl, by decide +kernel⟩
theorem oU_X8_runs_X6 : hOkU mX9_runs 1 6 ⟨"FarHeights$Sight", "runs", "(I)V"⟩ "FarHeights$Thing" := ⟨oX9_runs, k4_94, ⟨by decide +kernel, by decide +kernel, by decide +kernel⟩, k4_87, Or.inl k4_88, _, _, _, rfl, k4_93⟩
theorem t2_X8_sees {l : Launch} {dp : Nat} {n a x : Int32} {j : Nat} {I : hI} {J : hJ} {lt tx : Option Nat} {Q : hQ} (h0 : I 72 0 = n) (h1 : I 72 1 = a) (h2 : I 72 2 = nI j) (hj : j + 1 ≤ 30) (hQ : Q (some (.int (x + a))) hSH (ap I 73 72 2 j [10]) J (hRR lt tx))  : HC l mX8_sees (dp + 1) 0 0 [.ref 72, .int x] hSH I J (hRR lt tx) Q := by
  refine HC.of (by decide +kernel) rfl (Nat.le_of_ble_eq_true rfl) ?_
  show HV l mX8_sees (dp + 1) 0 0 0 [some (.ref 72), some (.int x)] [] hSH I J (hRR lt tx) Q
  refine h_aload_n dX8_sees_0 rfl ?_
  refine h_bipush dX8_sees_1 cb_10 ?_
  refine h_cU1 dX8_sees_3 k4_86 oU_X8_runs_X6 rfl rfl ?_
  refine c_runs2 (j := j) h2 (by omega) ?_
  refine h_iload_n dX8_sees_6 rfl ?_
  refine h_aload_n dX8_sees_7 rfl ?_
  refine h_getI dX8_sees_8 f_X8_13_6 rfl (ap_n (by decide) (by decide) h1) ?_
  refine h_iadd dX8_sees_11 ?_
  refine h_ireturn dX8_sees_12 rfl ?_
  exact hQ
theorem t2_X6_sees {l : Launch} {dp : Nat} {n a x : Int32} {j : Nat} {I : hI} {J : hJ} {lt tx : Option Nat} {Q : hQ} (h0 : I 72 0 = n) (h1 : I 72 1 = a) (h2 : I 72 2 = nI j) (hj : j + 2 ≤ 30) (hQ : Q (some (.int (x + a - n))) hSH (ap I 73 72 2 j [30, 10]) J (hRR lt tx))  : HC l mX6_sees (dp + 2) 0 0 [.ref 72, .int x] hSH I J (hRR lt tx) Q := by
  refine HC.of (by decide +kernel) rfl (Nat.le_of_ble_eq_true rfl) ?_
  show HV l mX6_sees (dp + 2) 0 0 0 [some (.ref 72), some (.int x)] [] hSH I J (hRR lt tx) Q
  refine h_aload_n dX6_sees_0 rfl ?_
  refine h_bipush dX6_sees_1 cb_30 ?_
  refine h_cU1 dX6_sees_3 k4_114 oU_X6_runs_X6 rfl rfl ?_
  refine c_runs2 (j := j) h2 (by omega) ?_
  refine h_aload_n dX6_sees_6 rfl ?_
  refine h_iload_n dX6_sees_7 rfl ?_
  refine h_cP1 dX6_sees_8 k4_118 oP_X6_X8_sees rfl rfl rfl ?_
  refine t2_X8_sees (j := j + 1) (ap_n (by decide) (by decide) h0) (ap_n (by decide) (by decide) h1) (ap_c (by decide) rfl h2) (by omega) ?_
  rw [ap_aq [30] [10] [30, 10] 1 rfl rfl]
  refine h_aload_n dX6_sees_11 rfl ?_
  refine h_getI dX6_sees_12 f_X6_17_6 rfl (ap_n (by decide) (by decide) h0) ?_
  refine h_isub dX6_sees_15 ?_
  refine h_ireturn dX6_sees_16 rfl ?_
  exact hQ
theorem oU_X8_sees_X6 : hOkU mX6_sees 1 6 ⟨"FarHeights$Sight", "sees", "(I)I"⟩ "FarHeights$Sight" := ⟨oX6_sees, k4_112, ⟨by decide +kernel, by decide +kernel, by decide +kernel⟩, k7_100, Or.inl k4_104, _, _, _, rfl, k7_105⟩
theorem t2_X8_bends {l : Launch} {dp : Nat} {n a x : Int32} {j : Nat} {I : hI} {J : hJ} {lt tx : Option Nat} {Q : hQ} (h0 : I 72 0 = n) (h1 : I 72 1 = a) (h2 : I 72 2 = nI j) (hj : j + 3 ≤ 30) (hQ : Q (some (.int ((x + a - n) * nI 2))) hSH (ap I 73 72 2 j [11, 30, 10]) J (hRR lt tx))  : HC l mX8_bends (dp + 4) 0 0 [.ref 72, .int x] hSH I J (hRR lt tx) Q := by
  refine HC.of (by decide +kernel) rfl (Nat.le_of_ble_eq_true rfl) ?_
  show HV l mX8_bends (dp + 4) 0 0 0 [some (.ref 72), some (.int x)] [] hSH I J (hRR lt tx) Q
  refine h_aload_n dX8_bends_0 rfl ?_
  refine h_bipush dX8_bends_1 cb_11 ?_
  refine h_cU1 dX8_bends_3 k4_86 oU_X8_runs_X6 rfl rfl ?_
  refine c_runs2 (j := j) h2 (by omega) ?_
  refine h_aload_n dX8_bends_6 rfl ?_
  refine h_iload_n dX8_bends_7 rfl ?_
  refine h_cU1 dX8_bends_8 k4_133 oU_X8_sees_X6 rfl rfl ?_
  refine t2_X6_sees (j := j + 1) (ap_n (by decide) (by decide) h0) (ap_n (by decide) (by decide) h1) (ap_c (by decide) rfl h2) (by omega) ?_
  rw [ap_aq [11] [30, 10] [11, 30, 10] 1 rfl rfl]
  refine h_iconst dX8_bends_11 ci_2 ?_
  refine h_imul dX8_bends_12 ?_
  refine h_ireturn dX8_bends_13 rfl ?_
  exact hQ
theorem t2_X8_leans {l : Launch} {dp : Nat} {n a x : Int32} {j : Nat} {I : hI} {J : hJ} {lt tx : Option Nat} {Q : hQ} (h0 : I 72 0 = n) (h1 : I 72 1 = a) (h2 : I 72 2 = nI j) (hj : j + 1 ≤ 30) (hP : ∀ v, a = n → Q (some (.int v)) hSH (upI (ap I 73 72 2 j [12]) 72 3 (nI 1)) J (hRR lt tx)) (hQ : ¬ a = n → Q (some (.int (x / (a - n)))) hSH (ap I 73 72 2 j [12]) J (hRR lt tx))  : HC l mX8_leans (dp + 1) 0 0 [.ref 72, .int x] hSH I J (hRR lt tx) Q := by
  refine HC.of (by decide +kernel) rfl (Nat.le_of_ble_eq_true rfl) ?_
  show HV l mX8_leans (dp + 1) 0 0 0 [some (.ref 72), some (.int x), none] [] hSH I J (hRR lt tx) Q
  refine h_aload_n dX8_leans_0 rfl ?_
  refine h_bipush dX8_leans_1 cb_12 ?_
  refine h_cU1 dX8_leans_3 k4_86 oU_X8_runs_X6 rfl rfl ?_
  refine c_runs2 (j := j) h2 (by omega) ?_
  refine h_aload_n dX8_leans_6 rfl ?_
  refine h_getI dX8_leans_7 f_X8_13_6 rfl (ap_n (by decide) (by decide) h1) ?_
  refine h_aload_n dX8_leans_10 rfl ?_
  refine h_getI dX8_leans_11 f_X8_21_6 rfl (ap_n (by decide) (by decide) h0) ?_
  refine h_isub dX8_leans_14 ?_
  refine h_istore_n dX8_leans_15 (Nat.le_of_ble_eq_true rfl) ?_
  refine h_iload_n dX8_leans_16 rfl ?_
  refine h_ifne (tgt := 27) dX8_leans_17 rfl (fun c_17 => ?_) (fun c_17 => ?_)
  · refine h_iload_n dX8_leans_27 rfl ?_
    refine h_iload_n dX8_leans_28 rfl ?_
    refine h_idiv dX8_leans_29 c_17 ?_
    refine h_ireturn dX8_leans_30 rfl ?_
    exact hQ (fun z => c_17 (by rw [z]; exact Int32.sub_self n))
  · refine h_aload_n dX8_leans_20 rfl ?_
    refine h_iconst dX8_leans_21 ci_1 ?_
    refine h_putZ dX8_leans_22 f_X8_24_6 p_X8_6_3 (fun h => by cases h) rfl (by decide) ?_
    refine h_iconst dX8_leans_25 ci_0 ?_
    refine h_ireturn dX8_leans_26 rfl ?_
    exact hP _ (sub_eq0 c_17)
theorem oU_X8_bends_X6 : hOkU mX8_bends 1 6 ⟨"FarHeights$Sight", "bends", "(I)I"⟩ "FarHeights$Sight" := ⟨oX8_bends, k4_131, ⟨by decide +kernel, by decide +kernel, by decide +kernel⟩, k7_106, Or.inl k4_147, _, _, _, rfl, k7_114⟩
theorem t2_X8_tells {l : Launch} {dp : Nat} {n a x : Int32} {j : Nat} {I : hI} {J : hJ} {lt tx : Option Nat} {Q : hQ} (h0 : I 72 0 = n) (h1 : I 72 1 = a) (h2 : I 72 2 = nI j) (hj : j + 4 ≤ 30) (hQ : Q (some (.int (((x + a - n) * nI 2) ^^^ n))) hSH (ap I 73 72 2 j [13, 11, 30, 10]) J (hRR lt tx))  : HC l mX8_tells (dp + 6) 0 0 [.ref 72, .int x] hSH I J (hRR lt tx) Q := by
  refine HC.of (by decide +kernel) rfl (Nat.le_of_ble_eq_true rfl) ?_
  show HV l mX8_tells (dp + 6) 0 0 0 [some (.ref 72), some (.int x)] [] hSH I J (hRR lt tx) Q
  refine h_aload_n dX8_tells_0 rfl ?_
  refine h_bipush dX8_tells_1 cb_13 ?_
  refine h_cU1 dX8_tells_3 k4_86 oU_X8_runs_X6 rfl rfl ?_
  refine c_runs2 (j := j) h2 (by omega) ?_
  refine h_aload_n dX8_tells_6 rfl ?_
  refine h_iload_n dX8_tells_7 rfl ?_
  refine h_cU1 dX8_tells_8 k4_180 oU_X8_bends_X6 rfl rfl ?_
  refine t2_X8_bends (j := j + 1) (ap_n (by decide) (by decide) h0) (ap_n (by decide) (by decide) h1) (ap_c (by decide) rfl h2) (by omega) ?_
  rw [ap_aq [13] [11, 30, 10] [13, 11, 30, 10] 1 rfl rfl]
  refine h_aload_n dX8_tells_11 rfl ?_
  refine h_getI dX8_tells_12 f_X8_21_6 rfl (ap_n (by decide) (by decide) h0) ?_
  refine h_ixor dX8_tells_15 ?_
  refine h_ireturn dX8_tells_16 rfl ?_
  exact hQ
theorem oU_X8_runs_X0 : hOkU mX9_runs 1 0 ⟨"FarHeights$Sight", "runs", "(I)V"⟩ "FarHeights$Thing" := ⟨oX9_runs, k4_94, ⟨by decide +kernel, by decide +kernel, by decide +kernel⟩, k4_87, Or.inl k4_88, _, _, _, rfl, k4_89⟩
theorem t3_X8_sees {l : Launch} {dp : Nat} {n a x : Int32} {j : Nat} {I : hI} {J : hJ} {lt tx : Option Nat} {Q : hQ} (h0 : I 74 0 = n) (h1 : I 74 1 = a) (h2 : I 74 2 = nI j) (hj : j + 1 ≤ 30) (hQ : Q (some (.int (x + a))) hSH (ap I 75 74 2 j [10]) J (hRR lt tx))  : HC l mX8_sees (dp + 1) 0 0 [.ref 74, .int x] hSH I J (hRR lt tx) Q := by
  refine HC.of (by decide +kernel) rfl (Nat.le_of_ble_eq_true rfl) ?_
  show HV l mX8_sees (dp + 1) 0 0 0 [some (.ref 74), some (.int x)] [] hSH I J (hRR lt tx) Q
  refine h_aload_n dX8_sees_0 rfl ?_
  refine h_bipush dX8_sees_1 cb_10 ?_
  refine h_cU1 dX8_sees_3 k4_86 oU_X8_runs_X0 rfl rfl ?_
  refine c_runs3 (j := j) h2 (by omega) ?_
  refine h_iload_n dX8_sees_6 rfl ?_
  refine h_aload_n dX8_sees_7 rfl ?_
  refine h_getI dX8_sees_8 f_X8_13_0 rfl (ap_n (by decide) (by decide) h1) ?_
  refine h_iadd dX8_sees_11 ?_
  refine h_ireturn dX8_sees_12 rfl ?_
  exact hQ
theorem oU_X8_sees_X0 : hOkU mX8_sees 1 0 ⟨"FarHeights$Sight", "sees", "(I)I"⟩ "FarHeights$Sight" := ⟨oX8_sees, k4_84, ⟨by decide +kernel, by decide +kernel, by decide +kernel⟩, k7_100, Or.inl k4_104, _, _, _, rfl, k7_101⟩
theorem t3_X8_bends {l : Launch} {dp : Nat} {n a x : Int32} {j : Nat} {I : hI} {J : hJ} {lt tx : Option Nat} {Q : hQ} (h0 : I 74 0 = n) (h1 : I 74 1 = a) (h2 : I 74 2 = nI j) (hj : j + 2 ≤ 30) (hQ : Q (some (.int ((x + a) * nI 2))) hSH (ap I 75 74 2 j [11, 10]) J (hRR lt tx))  : HC l mX8_bends (dp + 4) 0 0 [.ref 74, .int x] hSH I J (hRR lt tx) Q := by
  refine HC.of (by decide +kernel) rfl (Nat.le_of_ble_eq_true rfl) ?_
  show HV l mX8_bends (dp + 4) 0 0 0 [some (.ref 74), some (.int x)] [] hSH I J (hRR lt tx) Q
  refine h_aload_n dX8_bends_0 rfl ?_
  refine h_bipush dX8_bends_1 cb_11 ?_
  refine h_cU1 dX8_bends_3 k4_86 oU_X8_runs_X0 rfl rfl ?_
  refine c_runs3 (j := j) h2 (by omega) ?_
  refine h_aload_n dX8_bends_6 rfl ?_
  refine h_iload_n dX8_bends_7 rfl ?_
  refine h_cU1 dX8_bends_8 k4_133 oU_X8_sees_X0 rfl rfl ?_
  refine t3_X8_sees (j := j + 1) (ap_n (by decide) (by decide) h0) (ap_n (by decide) (by decide) h1) (ap_c (by decide) rfl h2) (by omega) ?_
  rw [ap_aq [11] [10] [11, 10] 1 rfl rfl]
  refine h_iconst dX8_bends_11 ci_2 ?_
  refine h_imul dX8_bends_12 ?_
  refine h_ireturn dX8_bends_13 rfl ?_
  exact hQ
theorem oU_X0_runs_X0 : hOkU mX9_runs 1 0 ⟨"FarHeights$Both", "runs", "(I)V"⟩ "FarHeights$Thing" := ⟨oX9_runs, k4_94, ⟨by decide +kernel, by decide +kernel, by decide +kernel⟩, k4_162, Or.inl k4_88, _, _, _, rfl, k4_163⟩
theorem oP_X0_X8_leans : hOkP mX8_leans 1 "FarHeights$Both" ⟨"FarHeights$Sight", "leans", "(I)I"⟩ := ⟨oX8_leans, k4_165, k7_109, k2_30, Or.inl rfl, rfl, rfl, by decide +kernel⟩
theorem t3_X8_leans {l : Launch} {dp : Nat} {n a x : Int32} {j : Nat} {I : hI} {J : hJ} {lt tx : Option Nat} {Q : hQ} (h0 : I 74 0 = n) (h1 : I 74 1 = a) (h2 : I 74 2 = nI j) (hj : j + 1 ≤ 30) (hP : ∀ v, a = n → Q (some (.int v)) hSH (upI (ap I 75 74 2 j [12]) 74 3 (nI 1)) J (hRR lt tx)) (hQ : ¬ a = n → Q (some (.int (x / (a - n)))) hSH (ap I 75 74 2 j [12]) J (hRR lt tx))  : HC l mX8_leans (dp + 1) 0 0 [.ref 74, .int x] hSH I J (hRR lt tx) Q := by
  refine HC.of (by decide +kernel) rfl (Nat.le_of_ble_eq_true rfl) ?_
  show HV l mX8_leans (dp + 1) 0 0 0 [some (.ref 74), some (.int x), none] [] hSH I J (hRR lt tx) Q
  refine h_aload_n dX8_leans_0 rfl ?_
  refine h_bipush dX8_leans_1 cb_12 ?_
  refine h_cU1 dX8_leans_3 k4_86 oU_X8_runs_X0 rfl rfl ?_
  refine c_runs3 (j := j) h2 (by omega) ?_
  refine h_aload_n dX8_leans_6 rfl ?_
  refine h_getI dX8_leans_7 f_X8_13_0 rfl (ap_n (by decide) (by decide) h1) ?_
  refine h_aload_n dX8_leans_10 rfl ?_
  refine h_getI dX8_leans_11 f_X8_21_0 rfl (ap_n (by decide) (by decide) h0) ?_
  refine h_isub dX8_leans_14 ?_
  refine h_istore_n dX8_leans_15 (Nat.le_of_ble_eq_true rfl) ?_
  refine h_iload_n dX8_leans_16 rfl ?_
  refine h_ifne (tgt := 27) dX8_leans_17 rfl (fun c_17 => ?_) (fun c_17 => ?_)
  · refine h_iload_n dX8_leans_27 rfl ?_
    refine h_iload_n dX8_leans_28 rfl ?_
    refine h_idiv dX8_leans_29 c_17 ?_
    refine h_ireturn dX8_leans_30 rfl ?_
    exact hQ (fun z => c_17 (by rw [z]; exact Int32.sub_self n))
  · refine h_aload_n dX8_leans_20 rfl ?_
    refine h_iconst dX8_leans_21 ci_1 ?_
    refine h_putZ dX8_leans_22 f_X8_24_0 p_X8_0_3 (fun h => by cases h) rfl (by decide) ?_
    refine h_iconst dX8_leans_25 ci_0 ?_
    refine h_ireturn dX8_leans_26 rfl ?_
    exact hP _ (sub_eq0 c_17)
theorem t3_X0_leans {l : Launch} {dp : Nat} {n a x : Int32} {j : Nat} {I : hI} {J : hJ} {lt tx : Option Nat} {Q : hQ} (h0 : I 74 0 = n) (h1 : I 74 1 = a) (h2 : I 74 2 = nI j) (hj : j + 2 ≤ 30) (hP : ∀ v, a = n → Q (some (.int v)) hSH (upI (ap I 75 74 2 j [40, 12]) 74 3 (nI 1)) J (hRR lt tx)) (hQ : ¬ a = n → Q (some (.int ((x + nI 1) / (a - n) * nI 2))) hSH (ap I 75 74 2 j [40, 12]) J (hRR lt tx))  : HC l mX0_leans (dp + 2) 0 0 [.ref 74, .int x] hSH I J (hRR lt tx) Q := by
  refine HC.of (by decide +kernel) rfl (Nat.le_of_ble_eq_true rfl) ?_
  show HV l mX0_leans (dp + 2) 0 0 0 [some (.ref 74), some (.int x)] [] hSH I J (hRR lt tx) Q
  refine h_aload_n dX0_leans_0 rfl ?_
  refine h_bipush dX0_leans_1 cb_40 ?_
  refine h_cU1 dX0_leans_3 k4_161 oU_X0_runs_X0 rfl rfl ?_
  refine c_runs3 (j := j) h2 (by omega) ?_
  refine h_aload_n dX0_leans_6 rfl ?_
  refine h_iload_n dX0_leans_7 rfl ?_
  refine h_iconst dX0_leans_8 ci_1 ?_
  refine h_iadd dX0_leans_9 ?_
  refine h_cP1 dX0_leans_10 k4_164 oP_X0_X8_leans rfl rfl rfl ?_
  refine t3_X8_leans (j := j + 1) (ap_n (by decide) (by decide) h0) (ap_n (by decide) (by decide) h1) (ap_c (by decide) rfl h2) (by omega) (fun v0 hz => ?_) (fun hz => ?_)
  · rw [ap_aq [40] [12] [40, 12] 1 rfl rfl]
    refine h_iconst dX0_leans_13 ci_2 ?_
    refine h_imul dX0_leans_14 ?_
    refine h_ireturn dX0_leans_15 rfl ?_
    exact hP _ hz
  · rw [ap_aq [40] [12] [40, 12] 1 rfl rfl]
    refine h_iconst dX0_leans_13 ci_2 ?_
    refine h_imul dX0_leans_14 ?_
    refine h_ireturn dX0_leans_15 rfl ?_
    exact hQ hz
theorem oU_X8_bends_X0 : hOkU mX8_bends 1 0 ⟨"FarHeights$Sight", "bends", "(I)I"⟩ "FarHeights$Sight" := ⟨oX8_bends, k4_131, ⟨by decide +kernel, by decide +kernel, by decide +kernel⟩, k7_106, Or.inl k4_147, _, _, _, rfl, k7_110⟩
theorem t3_X8_tells {l : Launch} {dp : Nat} {n a x : Int32} {j : Nat} {I : hI} {J : hJ} {lt tx : Option Nat} {Q : hQ} (h0 : I 74 0 = n) (h1 : I 74 1 = a) (h2 : I 74 2 = nI j) (hj : j + 3 ≤ 30) (hQ : Q (some (.int (((x + a) * nI 2) ^^^ n))) hSH (ap I 75 74 2 j [13, 11, 10]) J (hRR lt tx))  : HC l mX8_tells (dp + 6) 0 0 [.ref 74, .int x] hSH I J (hRR lt tx) Q := by
  refine HC.of (by decide +kernel) rfl (Nat.le_of_ble_eq_true rfl) ?_
  show HV l mX8_tells (dp + 6) 0 0 0 [some (.ref 74), some (.int x)] [] hSH I J (hRR lt tx) Q
  refine h_aload_n dX8_tells_0 rfl ?_
  refine h_bipush dX8_tells_1 cb_13 ?_
  refine h_cU1 dX8_tells_3 k4_86 oU_X8_runs_X0 rfl rfl ?_
  refine c_runs3 (j := j) h2 (by omega) ?_
  refine h_aload_n dX8_tells_6 rfl ?_
  refine h_iload_n dX8_tells_7 rfl ?_
  refine h_cU1 dX8_tells_8 k4_180 oU_X8_bends_X0 rfl rfl ?_
  refine t3_X8_bends (j := j + 1) (ap_n (by decide) (by decide) h0) (ap_n (by decide) (by decide) h1) (ap_c (by decide) rfl h2) (by omega) ?_
  rw [ap_aq [13] [11, 10] [13, 11, 10] 1 rfl rfl]
  refine h_aload_n dX8_tells_11 rfl ?_
  refine h_getI dX8_tells_12 f_X8_21_0 rfl (ap_n (by decide) (by decide) h0) ?_
  refine h_ixor dX8_tells_15 ?_
  refine h_ireturn dX8_tells_16 rfl ?_
  exact hQ
theorem oU_X1_runs_X1 : hOkU mX9_runs 1 1 ⟨"FarHeights$Far", "runs", "(I)V"⟩ "FarHeights$Thing" := ⟨oX9_runs, k4_94, ⟨by decide +kernel, by decide +kernel, by decide +kernel⟩, k4_100, Or.inl k4_88, _, _, _, rfl, k4_101⟩
theorem oP_X1_X4_sees : hOkP mX8_sees 1 "FarHeights$Far" ⟨"FarHeights$Morning", "sees", "(I)I"⟩ := ⟨oX8_sees, k4_84, k4_103, k2_42, Or.inr k2_4, rfl, rfl, by decide +kernel⟩
theorem oU_X8_runs_X1 : hOkU mX9_runs 1 1 ⟨"FarHeights$Sight", "runs", "(I)V"⟩ "FarHeights$Thing" := ⟨oX9_runs, k4_94, ⟨by decide +kernel, by decide +kernel, by decide +kernel⟩, k4_87, Or.inl k4_88, _, _, _, rfl, k4_90⟩
theorem t4_X8_sees {l : Launch} {dp : Nat} {n a x : Int32} {j : Nat} {I : hI} {J : hJ} {lt tx : Option Nat} {Q : hQ} (h0 : I 76 0 = n) (h1 : I 76 1 = a) (h2 : I 76 2 = nI j) (hj : j + 1 ≤ 30) (hQ : Q (some (.int (x + a))) hSH (ap I 77 76 2 j [10]) J (hRR lt tx))  : HC l mX8_sees (dp + 1) 0 0 [.ref 76, .int x] hSH I J (hRR lt tx) Q := by
  refine HC.of (by decide +kernel) rfl (Nat.le_of_ble_eq_true rfl) ?_
  show HV l mX8_sees (dp + 1) 0 0 0 [some (.ref 76), some (.int x)] [] hSH I J (hRR lt tx) Q
  refine h_aload_n dX8_sees_0 rfl ?_
  refine h_bipush dX8_sees_1 cb_10 ?_
  refine h_cU1 dX8_sees_3 k4_86 oU_X8_runs_X1 rfl rfl ?_
  refine c_runs4 (j := j) h2 (by omega) ?_
  refine h_iload_n dX8_sees_6 rfl ?_
  refine h_aload_n dX8_sees_7 rfl ?_
  refine h_getI dX8_sees_8 f_X8_13_1 rfl (ap_n (by decide) (by decide) h1) ?_
  refine h_iadd dX8_sees_11 ?_
  refine h_ireturn dX8_sees_12 rfl ?_
  exact hQ
theorem t4_X1_sees {l : Launch} {dp : Nat} {n a x : Int32} {j : Nat} {I : hI} {J : hJ} {lt tx : Option Nat} {Q : hQ} (h0 : I 76 0 = n) (h1 : I 76 1 = a) (h2 : I 76 2 = nI j) (hj : j + 2 ≤ 30) (hQ : Q (some (.int ((x + a) ^^^ nI 3))) hSH (ap I 77 76 2 j [50, 10]) J (hRR lt tx))  : HC l mX1_sees (dp + 2) 0 0 [.ref 76, .int x] hSH I J (hRR lt tx) Q := by
  refine HC.of (by decide +kernel) rfl (Nat.le_of_ble_eq_true rfl) ?_
  show HV l mX1_sees (dp + 2) 0 0 0 [some (.ref 76), some (.int x)] [] hSH I J (hRR lt tx) Q
  refine h_aload_n dX1_sees_0 rfl ?_
  refine h_bipush dX1_sees_1 cb_50 ?_
  refine h_cU1 dX1_sees_3 k4_99 oU_X1_runs_X1 rfl rfl ?_
  refine c_runs4 (j := j) h2 (by omega) ?_
  refine h_aload_n dX1_sees_6 rfl ?_
  refine h_iload_n dX1_sees_7 rfl ?_
  refine h_cP1 dX1_sees_8 k4_102 oP_X1_X4_sees rfl rfl rfl ?_
  refine t4_X8_sees (j := j + 1) (ap_n (by decide) (by decide) h0) (ap_n (by decide) (by decide) h1) (ap_c (by decide) rfl h2) (by omega) ?_
  rw [ap_aq [50] [10] [50, 10] 1 rfl rfl]
  refine h_iconst dX1_sees_11 ci_3 ?_
  refine h_ixor dX1_sees_12 ?_
  refine h_ireturn dX1_sees_13 rfl ?_
  exact hQ
theorem oU_X4_runs_X1 : hOkU mX9_runs 1 1 ⟨"FarHeights$Morning", "runs", "(I)V"⟩ "FarHeights$Thing" := ⟨oX9_runs, k4_94, ⟨by decide +kernel, by decide +kernel, by decide +kernel⟩, k4_138, Or.inl k4_88, _, _, _, rfl, k4_139⟩
theorem oU_X8_sees_X1 : hOkU mX1_sees 1 1 ⟨"FarHeights$Sight", "sees", "(I)I"⟩ "FarHeights$Sight" := ⟨oX1_sees, k4_97, ⟨by decide +kernel, by decide +kernel, by decide +kernel⟩, k7_100, Or.inl k4_104, _, _, _, rfl, k7_102⟩
theorem t4_X8_bends {l : Launch} {dp : Nat} {n a x : Int32} {j : Nat} {I : hI} {J : hJ} {lt tx : Option Nat} {Q : hQ} (h0 : I 76 0 = n) (h1 : I 76 1 = a) (h2 : I 76 2 = nI j) (hj : j + 3 ≤ 30) (hQ : Q (some (.int (((x + a) ^^^ nI 3) * nI 2))) hSH (ap I 77 76 2 j [11, 50, 10]) J (hRR lt tx))  : HC l mX8_bends (dp + 4) 0 0 [.ref 76, .int x] hSH I J (hRR lt tx) Q := by
  refine HC.of (by decide +kernel) rfl (Nat.le_of_ble_eq_true rfl) ?_
  show HV l mX8_bends (dp + 4) 0 0 0 [some (.ref 76), some (.int x)] [] hSH I J (hRR lt tx) Q
  refine h_aload_n dX8_bends_0 rfl ?_
  refine h_bipush dX8_bends_1 cb_11 ?_
  refine h_cU1 dX8_bends_3 k4_86 oU_X8_runs_X1 rfl rfl ?_
  refine c_runs4 (j := j) h2 (by omega) ?_
  refine h_aload_n dX8_bends_6 rfl ?_
  refine h_iload_n dX8_bends_7 rfl ?_
  refine h_cU1 dX8_bends_8 k4_133 oU_X8_sees_X1 rfl rfl ?_
  refine t4_X1_sees (j := j + 1) (ap_n (by decide) (by decide) h0) (ap_n (by decide) (by decide) h1) (ap_c (by decide) rfl h2) (by omega) ?_
  rw [ap_aq [11] [50, 10] [11, 50, 10] 1 rfl rfl]
  refine h_iconst dX8_bends_11 ci_2 ?_
  refine h_imul dX8_bends_12 ?_
  refine h_ireturn dX8_bends_13 rfl ?_
  exact hQ
theorem t4_X4_bends {l : Launch} {dp : Nat} {n a x : Int32} {j : Nat} {I : hI} {J : hJ} {lt tx : Option Nat} {Q : hQ} (h0 : I 76 0 = n) (h1 : I 76 1 = a) (h2 : I 76 2 = nI j) (hj : j + 4 ≤ 30) (hQ : Q (some (.int (((x + a) ^^^ nI 3) * nI 2 + nI 7))) hSH (ap I 77 76 2 j [20, 11, 50, 10]) J (hRR lt tx))  : HC l mX4_bends (dp + 5) 0 0 [.ref 76, .int x] hSH I J (hRR lt tx) Q := by
  refine HC.of (by decide +kernel) rfl (Nat.le_of_ble_eq_true rfl) ?_
  show HV l mX4_bends (dp + 5) 0 0 0 [some (.ref 76), some (.int x)] [] hSH I J (hRR lt tx) Q
  refine h_aload_n dX4_bends_0 rfl ?_
  refine h_bipush dX4_bends_1 cb_20 ?_
  refine h_cU1 dX4_bends_3 k4_137 oU_X4_runs_X1 rfl rfl ?_
  refine c_runs4 (j := j) h2 (by omega) ?_
  refine h_aload_n dX4_bends_6 rfl ?_
  refine h_iload_n dX4_bends_7 rfl ?_
  refine h_cP1 dX4_bends_8 k4_141 oP_X4_X8_bends rfl rfl rfl ?_
  refine t4_X8_bends (j := j + 1) (ap_n (by decide) (by decide) h0) (ap_n (by decide) (by decide) h1) (ap_c (by decide) rfl h2) (by omega) ?_
  rw [ap_aq [20] [11, 50, 10] [20, 11, 50, 10] 1 rfl rfl]
  refine h_bipush dX4_bends_11 cb_7 ?_
  refine h_iadd dX4_bends_13 ?_
  refine h_ireturn dX4_bends_14 rfl ?_
  exact hQ
theorem t4_X8_leans {l : Launch} {dp : Nat} {n a x : Int32} {j : Nat} {I : hI} {J : hJ} {lt tx : Option Nat} {Q : hQ} (h0 : I 76 0 = n) (h1 : I 76 1 = a) (h2 : I 76 2 = nI j) (hj : j + 1 ≤ 30) (hP : ∀ v, a = n → Q (some (.int v)) hSH (upI (ap I 77 76 2 j [12]) 76 3 (nI 1)) J (hRR lt tx)) (hQ : ¬ a = n → Q (some (.int (x / (a - n)))) hSH (ap I 77 76 2 j [12]) J (hRR lt tx))  : HC l mX8_leans (dp + 1) 0 0 [.ref 76, .int x] hSH I J (hRR lt tx) Q := by
  refine HC.of (by decide +kernel) rfl (Nat.le_of_ble_eq_true rfl) ?_
  show HV l mX8_leans (dp + 1) 0 0 0 [some (.ref 76), some (.int x), none] [] hSH I J (hRR lt tx) Q
  refine h_aload_n dX8_leans_0 rfl ?_
  refine h_bipush dX8_leans_1 cb_12 ?_
  refine h_cU1 dX8_leans_3 k4_86 oU_X8_runs_X1 rfl rfl ?_
  refine c_runs4 (j := j) h2 (by omega) ?_
  refine h_aload_n dX8_leans_6 rfl ?_
  refine h_getI dX8_leans_7 f_X8_13_1 rfl (ap_n (by decide) (by decide) h1) ?_
  refine h_aload_n dX8_leans_10 rfl ?_
  refine h_getI dX8_leans_11 f_X8_21_1 rfl (ap_n (by decide) (by decide) h0) ?_
  refine h_isub dX8_leans_14 ?_
  refine h_istore_n dX8_leans_15 (Nat.le_of_ble_eq_true rfl) ?_
  refine h_iload_n dX8_leans_16 rfl ?_
  refine h_ifne (tgt := 27) dX8_leans_17 rfl (fun c_17 => ?_) (fun c_17 => ?_)
  · refine h_iload_n dX8_leans_27 rfl ?_
    refine h_iload_n dX8_leans_28 rfl ?_
    refine h_idiv dX8_leans_29 c_17 ?_
    refine h_ireturn dX8_leans_30 rfl ?_
    exact hQ (fun z => c_17 (by rw [z]; exact Int32.sub_self n))
  · refine h_aload_n dX8_leans_20 rfl ?_
    refine h_iconst dX8_leans_21 ci_1 ?_
    refine h_putZ dX8_leans_22 f_X8_24_1 p_X8_1_3 (fun h => by cases h) rfl (by decide) ?_
    refine h_iconst dX8_leans_25 ci_0 ?_
    refine h_ireturn dX8_leans_26 rfl ?_
    exact hP _ (sub_eq0 c_17)
theorem oP_X1_X4_tells : hOkP mX8_tells 1 "FarHeights$Far" ⟨"FarHeights$Morning", "tells", "(I)I"⟩ := ⟨oX8_tells, k4_178, k4_185, k2_42, Or.inr k2_4, rfl, rfl, by decide +kernel⟩
theorem oU_X8_bends_X1 : hOkU mX4_bends 1 1 ⟨"FarHeights$Sight", "bends", "(I)I"⟩ "FarHeights$Sight" := ⟨oX4_bends, k4_135, ⟨by decide +kernel, by decide +kernel, by decide +kernel⟩, k7_106, Or.inl k4_147, _, _, _, rfl, k7_111⟩
theorem t4_X8_tells {l : Launch} {dp : Nat} {n a x : Int32} {j : Nat} {I : hI} {J : hJ} {lt tx : Option Nat} {Q : hQ} (h0 : I 76 0 = n) (h1 : I 76 1 = a) (h2 : I 76 2 = nI j) (hj : j + 5 ≤ 30) (hQ : Q (some (.int ((((x + a) ^^^ nI 3) * nI 2 + nI 7) ^^^ n))) hSH (ap I 77 76 2 j [13, 20, 11, 50, 10]) J (hRR lt tx))  : HC l mX8_tells (dp + 6) 0 0 [.ref 76, .int x] hSH I J (hRR lt tx) Q := by
  refine HC.of (by decide +kernel) rfl (Nat.le_of_ble_eq_true rfl) ?_
  show HV l mX8_tells (dp + 6) 0 0 0 [some (.ref 76), some (.int x)] [] hSH I J (hRR lt tx) Q
  refine h_aload_n dX8_tells_0 rfl ?_
  refine h_bipush dX8_tells_1 cb_13 ?_
  refine h_cU1 dX8_tells_3 k4_86 oU_X8_runs_X1 rfl rfl ?_
  refine c_runs4 (j := j) h2 (by omega) ?_
  refine h_aload_n dX8_tells_6 rfl ?_
  refine h_iload_n dX8_tells_7 rfl ?_
  refine h_cU1 dX8_tells_8 k4_180 oU_X8_bends_X1 rfl rfl ?_
  refine t4_X4_bends (j := j + 1) (ap_n (by decide) (by decide) h0) (ap_n (by decide) (by decide) h1) (ap_c (by decide) rfl h2) (by omega) ?_
  rw [ap_aq [13] [20, 11, 50, 10] [13, 20, 11, 50, 10] 1 rfl rfl]
  refine h_aload_n dX8_tells_11 rfl ?_
  refine h_getI dX8_tells_12 f_X8_21_1 rfl (ap_n (by decide) (by decide) h0) ?_
  refine h_ixor dX8_tells_15 ?_
  refine h_ireturn dX8_tells_16 rfl ?_
  exact hQ
theorem oU_X1_leans_X1 : hOkU mX8_leans 1 1 ⟨"FarHeights$Far", "leans", "(I)I"⟩ "FarHeights$Sight" := ⟨oX8_leans, k4_165, ⟨by decide +kernel, by decide +kernel, by decide +kernel⟩, k4_188, Or.inl k4_189, _, _, _, rfl, k4_190⟩
theorem t4_X1_tells {l : Launch} {dp : Nat} {n a x : Int32} {j : Nat} {I : hI} {J : hJ} {lt tx : Option Nat} {Q : hQ} (h0 : I 76 0 = n) (h1 : I 76 1 = a) (h2 : I 76 2 = nI j) (hj : j + 7 ≤ 30) (hP : ∀ v, a = n → Q (some (.int v)) hSH (upI (ap I 77 76 2 j [51, 13, 20, 11, 50, 10, 12]) 76 3 (nI 1)) J (hRR lt tx)) (hQ : ¬ a = n → Q (some (.int (((((x + a) ^^^ nI 3) * nI 2 + nI 7) ^^^ n) + n / (a - n)))) hSH (ap I 77 76 2 j [51, 13, 20, 11, 50, 10, 12]) J (hRR lt tx))  : HC l mX1_tells (dp + 7) 0 0 [.ref 76, .int x] hSH I J (hRR lt tx) Q := by
  refine HC.of (by decide +kernel) rfl (Nat.le_of_ble_eq_true rfl) ?_
  show HV l mX1_tells (dp + 7) 0 0 0 [some (.ref 76), some (.int x)] [] hSH I J (hRR lt tx) Q
  refine h_aload_n dX1_tells_0 rfl ?_
  refine h_bipush dX1_tells_1 cb_51 ?_
  refine h_cU1 dX1_tells_3 k4_99 oU_X1_runs_X1 rfl rfl ?_
  refine c_runs4 (j := j) h2 (by omega) ?_
  refine h_aload_n dX1_tells_6 rfl ?_
  refine h_iload_n dX1_tells_7 rfl ?_
  refine h_cP1 dX1_tells_8 k4_184 oP_X1_X4_tells rfl rfl rfl ?_
  refine t4_X8_tells (j := j + 1) (ap_n (by decide) (by decide) h0) (ap_n (by decide) (by decide) h1) (ap_c (by decide) rfl h2) (by omega) ?_
  rw [ap_aq [51] [13, 20, 11, 50, 10] [51, 13, 20, 11, 50, 10] 1 rfl rfl]
  refine h_aload_n dX1_tells_11 rfl ?_
  refine h_aload_n dX1_tells_12 rfl ?_
  refine h_getI dX1_tells_13 f_X1_20_1 rfl (ap_n (by decide) (by decide) h0) ?_
  refine h_cU1 dX1_tells_16 k4_187 oU_X1_leans_X1 rfl rfl ?_
  refine t4_X8_leans (j := j + 6) (ap_n (by decide) (by decide) h0) (ap_n (by decide) (by decide) h1) (ap_c (by decide) rfl h2) (by omega) (fun v0 hz => ?_) (fun hz => ?_)
  · rw [ap_aq [51, 13, 20, 11, 50, 10] [12] [51, 13, 20, 11, 50, 10, 12] 6 rfl rfl]
    refine h_iadd dX1_tells_19 ?_
    refine h_ireturn dX1_tells_20 rfl ?_
    exact hP _ hz
  · rw [ap_aq [51, 13, 20, 11, 50, 10] [12] [51, 13, 20, 11, 50, 10, 12] 6 rfl rfl]
    refine h_iadd dX1_tells_19 ?_
    refine h_ireturn dX1_tells_20 rfl ?_
    exact hQ hz
theorem oU_X2_runs_X2 : hOkU mX9_runs 1 2 ⟨"FarHeights$Hidden", "runs", "(I)V"⟩ "FarHeights$Thing" := ⟨oX9_runs, k4_94, ⟨by decide +kernel, by decide +kernel, by decide +kernel⟩, k4_109, Or.inl k4_88, _, _, _, rfl, k4_110⟩
theorem oP_X2_X6_sees : hOkP mX6_sees 1 "FarHeights$Hidden" ⟨"FarHeights$Noon", "sees", "(I)I"⟩ := ⟨oX6_sees, k4_112, k7_99, k2_54, Or.inl rfl, rfl, rfl, by decide +kernel⟩
theorem oU_X6_runs_X2 : hOkU mX9_runs 1 2 ⟨"FarHeights$Noon", "runs", "(I)V"⟩ "FarHeights$Thing" := ⟨oX9_runs, k4_94, ⟨by decide +kernel, by decide +kernel, by decide +kernel⟩, k4_115, Or.inl k4_88, _, _, _, rfl, k4_116⟩
theorem oU_X8_runs_X2 : hOkU mX9_runs 1 2 ⟨"FarHeights$Sight", "runs", "(I)V"⟩ "FarHeights$Thing" := ⟨oX9_runs, k4_94, ⟨by decide +kernel, by decide +kernel, by decide +kernel⟩, k4_87, Or.inl k4_88, _, _, _, rfl, k4_91⟩
theorem t5_X8_sees {l : Launch} {dp : Nat} {n a x : Int32} {j : Nat} {I : hI} {J : hJ} {lt tx : Option Nat} {Q : hQ} (h0 : I 78 0 = n) (h1 : I 78 1 = a) (h2 : I 78 2 = nI j) (hj : j + 1 ≤ 30) (hQ : Q (some (.int (x + a))) hSH (ap I 79 78 2 j [10]) J (hRR lt tx))  : HC l mX8_sees (dp + 1) 0 0 [.ref 78, .int x] hSH I J (hRR lt tx) Q := by
  refine HC.of (by decide +kernel) rfl (Nat.le_of_ble_eq_true rfl) ?_
  show HV l mX8_sees (dp + 1) 0 0 0 [some (.ref 78), some (.int x)] [] hSH I J (hRR lt tx) Q
  refine h_aload_n dX8_sees_0 rfl ?_
  refine h_bipush dX8_sees_1 cb_10 ?_
  refine h_cU1 dX8_sees_3 k4_86 oU_X8_runs_X2 rfl rfl ?_
  refine c_runs5 (j := j) h2 (by omega) ?_
  refine h_iload_n dX8_sees_6 rfl ?_
  refine h_aload_n dX8_sees_7 rfl ?_
  refine h_getI dX8_sees_8 f_X8_13_2 rfl (ap_n (by decide) (by decide) h1) ?_
  refine h_iadd dX8_sees_11 ?_
  refine h_ireturn dX8_sees_12 rfl ?_
  exact hQ
theorem t5_X6_sees {l : Launch} {dp : Nat} {n a x : Int32} {j : Nat} {I : hI} {J : hJ} {lt tx : Option Nat} {Q : hQ} (h0 : I 78 0 = n) (h1 : I 78 1 = a) (h2 : I 78 2 = nI j) (hj : j + 2 ≤ 30) (hQ : Q (some (.int (x + a - n))) hSH (ap I 79 78 2 j [30, 10]) J (hRR lt tx))  : HC l mX6_sees (dp + 2) 0 0 [.ref 78, .int x] hSH I J (hRR lt tx) Q := by
  refine HC.of (by decide +kernel) rfl (Nat.le_of_ble_eq_true rfl) ?_
  show HV l mX6_sees (dp + 2) 0 0 0 [some (.ref 78), some (.int x)] [] hSH I J (hRR lt tx) Q
  refine h_aload_n dX6_sees_0 rfl ?_
  refine h_bipush dX6_sees_1 cb_30 ?_
  refine h_cU1 dX6_sees_3 k4_114 oU_X6_runs_X2 rfl rfl ?_
  refine c_runs5 (j := j) h2 (by omega) ?_
  refine h_aload_n dX6_sees_6 rfl ?_
  refine h_iload_n dX6_sees_7 rfl ?_
  refine h_cP1 dX6_sees_8 k4_118 oP_X6_X8_sees rfl rfl rfl ?_
  refine t5_X8_sees (j := j + 1) (ap_n (by decide) (by decide) h0) (ap_n (by decide) (by decide) h1) (ap_c (by decide) rfl h2) (by omega) ?_
  rw [ap_aq [30] [10] [30, 10] 1 rfl rfl]
  refine h_aload_n dX6_sees_11 rfl ?_
  refine h_getI dX6_sees_12 f_X6_17_2 rfl (ap_n (by decide) (by decide) h0) ?_
  refine h_isub dX6_sees_15 ?_
  refine h_ireturn dX6_sees_16 rfl ?_
  exact hQ
theorem t5_X2_sees {l : Launch} {dp : Nat} {n a x : Int32} {j : Nat} {I : hI} {J : hJ} {lt tx : Option Nat} {Q : hQ} (h0 : I 78 0 = n) (h1 : I 78 1 = a) (h2 : I 78 2 = nI j) (hj : j + 3 ≤ 30) (hQ : Q (some (.int (nI 0 - (x + a - n)))) hSH (ap I 79 78 2 j [60, 30, 10]) J (hRR lt tx))  : HC l mX2_sees (dp + 3) 0 0 [.ref 78, .int x] hSH I J (hRR lt tx) Q := by
  refine HC.of (by decide +kernel) rfl (Nat.le_of_ble_eq_true rfl) ?_
  show HV l mX2_sees (dp + 3) 0 0 0 [some (.ref 78), some (.int x)] [] hSH I J (hRR lt tx) Q
  refine h_aload_n dX2_sees_0 rfl ?_
  refine h_bipush dX2_sees_1 cb_60 ?_
  refine h_cU1 dX2_sees_3 k4_108 oU_X2_runs_X2 rfl rfl ?_
  refine c_runs5 (j := j) h2 (by omega) ?_
  refine h_iconst dX2_sees_6 ci_0 ?_
  refine h_aload_n dX2_sees_7 rfl ?_
  refine h_iload_n dX2_sees_8 rfl ?_
  refine h_cP1 dX2_sees_9 k4_111 oP_X2_X6_sees rfl rfl rfl ?_
  refine t5_X6_sees (j := j + 1) (ap_n (by decide) (by decide) h0) (ap_n (by decide) (by decide) h1) (ap_c (by decide) rfl h2) (by omega) ?_
  rw [ap_aq [60] [30, 10] [60, 30, 10] 1 rfl rfl]
  refine h_isub dX2_sees_12 ?_
  refine h_ireturn dX2_sees_13 rfl ?_
  exact hQ
theorem oP_X2_X6_bends : hOkP mX8_bends 1 "FarHeights$Hidden" ⟨"FarHeights$Noon", "bends", "(I)I"⟩ := ⟨oX8_bends, k4_131, k4_146, k2_54, Or.inr k2_18, rfl, rfl, by decide +kernel⟩
theorem oU_X8_sees_X2 : hOkU mX2_sees 1 2 ⟨"FarHeights$Sight", "sees", "(I)I"⟩ "FarHeights$Sight" := ⟨oX2_sees, k4_106, ⟨by decide +kernel, by decide +kernel, by decide +kernel⟩, k7_100, Or.inl k4_104, _, _, _, rfl, k7_103⟩
theorem t5_X8_bends {l : Launch} {dp : Nat} {n a x : Int32} {j : Nat} {I : hI} {J : hJ} {lt tx : Option Nat} {Q : hQ} (h0 : I 78 0 = n) (h1 : I 78 1 = a) (h2 : I 78 2 = nI j) (hj : j + 4 ≤ 30) (hQ : Q (some (.int ((nI 0 - (x + a - n)) * nI 2))) hSH (ap I 79 78 2 j [11, 60, 30, 10]) J (hRR lt tx))  : HC l mX8_bends (dp + 4) 0 0 [.ref 78, .int x] hSH I J (hRR lt tx) Q := by
  refine HC.of (by decide +kernel) rfl (Nat.le_of_ble_eq_true rfl) ?_
  show HV l mX8_bends (dp + 4) 0 0 0 [some (.ref 78), some (.int x)] [] hSH I J (hRR lt tx) Q
  refine h_aload_n dX8_bends_0 rfl ?_
  refine h_bipush dX8_bends_1 cb_11 ?_
  refine h_cU1 dX8_bends_3 k4_86 oU_X8_runs_X2 rfl rfl ?_
  refine c_runs5 (j := j) h2 (by omega) ?_
  refine h_aload_n dX8_bends_6 rfl ?_
  refine h_iload_n dX8_bends_7 rfl ?_
  refine h_cU1 dX8_bends_8 k4_133 oU_X8_sees_X2 rfl rfl ?_
  refine t5_X2_sees (j := j + 1) (ap_n (by decide) (by decide) h0) (ap_n (by decide) (by decide) h1) (ap_c (by decide) rfl h2) (by omega) ?_
  rw [ap_aq [11] [60, 30, 10] [11, 60, 30, 10] 1 rfl rfl]
  refine h_iconst dX8_bends_11 ci_2 ?_
  refine h_imul dX8_bends_12 ?_
  refine h_ireturn dX8_bends_13 rfl ?_
  exact hQ
theorem t5_X2_bends {l : Launch} {dp : Nat} {n a x : Int32} {j : Nat} {I : hI} {J : hJ} {lt tx : Option Nat} {Q : hQ} (h0 : I 78 0 = n) (h1 : I 78 1 = a) (h2 : I 78 2 = nI j) (hj : j + 8 ≤ 30) (hQ : Q (some (.int ((nI 0 - (x + a - n)) * nI 2 + (nI 0 - (n + a - n))))) hSH (ap I 79 78 2 j [61, 11, 60, 30, 10, 60, 30, 10]) J (hRR lt tx))  : HC l mX2_bends (dp + 5) 0 0 [.ref 78, .int x] hSH I J (hRR lt tx) Q := by
  refine HC.of (by decide +kernel) rfl (Nat.le_of_ble_eq_true rfl) ?_
  show HV l mX2_bends (dp + 5) 0 0 0 [some (.ref 78), some (.int x)] [] hSH I J (hRR lt tx) Q
  refine h_aload_n dX2_bends_0 rfl ?_
  refine h_bipush dX2_bends_1 cb_61 ?_
  refine h_cU1 dX2_bends_3 k4_108 oU_X2_runs_X2 rfl rfl ?_
  refine c_runs5 (j := j) h2 (by omega) ?_
  refine h_aload_n dX2_bends_6 rfl ?_
  refine h_iload_n dX2_bends_7 rfl ?_
  refine h_cP1 dX2_bends_8 k4_145 oP_X2_X6_bends rfl rfl rfl ?_
  refine t5_X8_bends (j := j + 1) (ap_n (by decide) (by decide) h0) (ap_n (by decide) (by decide) h1) (ap_c (by decide) rfl h2) (by omega) ?_
  rw [ap_aq [61] [11, 60, 30, 10] [61, 11, 60, 30, 10] 1 rfl rfl]
  refine h_aload_n dX2_bends_11 rfl ?_
  refine h_aload_n dX2_bends_12 rfl ?_
  refine h_getI dX2_bends_13 f_X2_20_2 rfl (ap_n (by decide) (by decide) h0) ?_
  refine h_cV1 dX2_bends_16 k4_148 oVX2_sees rfl rfl ?_
  refine t5_X2_sees (j := j + 5) (ap_n (by decide) (by decide) h0) (ap_n (by decide) (by decide) h1) (ap_c (by decide) rfl h2) (by omega) ?_
  rw [ap_aq [61, 11, 60, 30, 10] [60, 30, 10] [61, 11, 60, 30, 10, 60, 30, 10] 5 rfl rfl]
  refine h_iadd dX2_bends_19 ?_
  refine h_ireturn dX2_bends_20 rfl ?_
  exact hQ
theorem t5_X8_leans {l : Launch} {dp : Nat} {n a x : Int32} {j : Nat} {I : hI} {J : hJ} {lt tx : Option Nat} {Q : hQ} (h0 : I 78 0 = n) (h1 : I 78 1 = a) (h2 : I 78 2 = nI j) (hj : j + 1 ≤ 30) (hP : ∀ v, a = n → Q (some (.int v)) hSH (upI (ap I 79 78 2 j [12]) 78 3 (nI 1)) J (hRR lt tx)) (hQ : ¬ a = n → Q (some (.int (x / (a - n)))) hSH (ap I 79 78 2 j [12]) J (hRR lt tx))  : HC l mX8_leans (dp + 1) 0 0 [.ref 78, .int x] hSH I J (hRR lt tx) Q := by
  refine HC.of (by decide +kernel) rfl (Nat.le_of_ble_eq_true rfl) ?_
  show HV l mX8_leans (dp + 1) 0 0 0 [some (.ref 78), some (.int x), none] [] hSH I J (hRR lt tx) Q
  refine h_aload_n dX8_leans_0 rfl ?_
  refine h_bipush dX8_leans_1 cb_12 ?_
  refine h_cU1 dX8_leans_3 k4_86 oU_X8_runs_X2 rfl rfl ?_
  refine c_runs5 (j := j) h2 (by omega) ?_
  refine h_aload_n dX8_leans_6 rfl ?_
  refine h_getI dX8_leans_7 f_X8_13_2 rfl (ap_n (by decide) (by decide) h1) ?_
  refine h_aload_n dX8_leans_10 rfl ?_
  refine h_getI dX8_leans_11 f_X8_21_2 rfl (ap_n (by decide) (by decide) h0) ?_
  refine h_isub dX8_leans_14 ?_
  refine h_istore_n dX8_leans_15 (Nat.le_of_ble_eq_true rfl) ?_
  refine h_iload_n dX8_leans_16 rfl ?_
  refine h_ifne (tgt := 27) dX8_leans_17 rfl (fun c_17 => ?_) (fun c_17 => ?_)
  · refine h_iload_n dX8_leans_27 rfl ?_
    refine h_iload_n dX8_leans_28 rfl ?_
    refine h_idiv dX8_leans_29 c_17 ?_
    refine h_ireturn dX8_leans_30 rfl ?_
    exact hQ (fun z => c_17 (by rw [z]; exact Int32.sub_self n))
  · refine h_aload_n dX8_leans_20 rfl ?_
    refine h_iconst dX8_leans_21 ci_1 ?_
    refine h_putZ dX8_leans_22 f_X8_24_2 p_X8_2_3 (fun h => by cases h) rfl (by decide) ?_
    refine h_iconst dX8_leans_25 ci_0 ?_
    refine h_ireturn dX8_leans_26 rfl ?_
    exact hP _ (sub_eq0 c_17)
theorem oU_X8_bends_X2 : hOkU mX2_bends 1 2 ⟨"FarHeights$Sight", "bends", "(I)I"⟩ "FarHeights$Sight" := ⟨oX2_bends, k4_143, ⟨by decide +kernel, by decide +kernel, by decide +kernel⟩, k7_106, Or.inl k4_147, _, _, _, rfl, k7_112⟩
theorem t5_X8_tells {l : Launch} {dp : Nat} {n a x : Int32} {j : Nat} {I : hI} {J : hJ} {lt tx : Option Nat} {Q : hQ} (h0 : I 78 0 = n) (h1 : I 78 1 = a) (h2 : I 78 2 = nI j) (hj : j + 9 ≤ 30) (hQ : Q (some (.int (((nI 0 - (x + a - n)) * nI 2 + (nI 0 - (n + a - n))) ^^^ n))) hSH (ap I 79 78 2 j [13, 61, 11, 60, 30, 10, 60, 30, 10]) J (hRR lt tx))  : HC l mX8_tells (dp + 6) 0 0 [.ref 78, .int x] hSH I J (hRR lt tx) Q := by
  refine HC.of (by decide +kernel) rfl (Nat.le_of_ble_eq_true rfl) ?_
  show HV l mX8_tells (dp + 6) 0 0 0 [some (.ref 78), some (.int x)] [] hSH I J (hRR lt tx) Q
  refine h_aload_n dX8_tells_0 rfl ?_
  refine h_bipush dX8_tells_1 cb_13 ?_
  refine h_cU1 dX8_tells_3 k4_86 oU_X8_runs_X2 rfl rfl ?_
  refine c_runs5 (j := j) h2 (by omega) ?_
  refine h_aload_n dX8_tells_6 rfl ?_
  refine h_iload_n dX8_tells_7 rfl ?_
  refine h_cU1 dX8_tells_8 k4_180 oU_X8_bends_X2 rfl rfl ?_
  refine t5_X2_bends (j := j + 1) (ap_n (by decide) (by decide) h0) (ap_n (by decide) (by decide) h1) (ap_c (by decide) rfl h2) (by omega) ?_
  rw [ap_aq [13] [61, 11, 60, 30, 10, 60, 30, 10] [13, 61, 11, 60, 30, 10, 60, 30, 10] 1 rfl rfl]
  refine h_aload_n dX8_tells_11 rfl ?_
  refine h_getI dX8_tells_12 f_X8_21_2 rfl (ap_n (by decide) (by decide) h0) ?_
  refine h_ixor dX8_tells_15 ?_
  refine h_ireturn dX8_tells_16 rfl ?_
  exact hQ
theorem oU_X7_runs_X7 : hOkU mX9_runs 1 7 ⟨"FarHeights$Peak", "runs", "(I)V"⟩ "FarHeights$Thing" := ⟨oX9_runs, k4_94, ⟨by decide +kernel, by decide +kernel, by decide +kernel⟩, k4_125, Or.inl k4_88, _, _, _, rfl, k4_126⟩
theorem t6_X7_sees {l : Launch} {dp : Nat} {n a x : Int32} {j : Nat} {I : hI} {J : hJ} {lt tx : Option Nat} {Q : hQ} (h0 : I 80 0 = n) (h1 : I 80 1 = a) (h2 : I 80 2 = nI j) (hj : j + 1 ≤ 30) (hQ : Q (some (.int (x * a))) hSH (ap I 81 80 2 j [70]) J (hRR lt tx))  : HC l mX7_sees (dp + 1) 0 0 [.ref 80, .int x] hSH I J (hRR lt tx) Q := by
  refine HC.of (by decide +kernel) rfl (Nat.le_of_ble_eq_true rfl) ?_
  show HV l mX7_sees (dp + 1) 0 0 0 [some (.ref 80), some (.int x)] [] hSH I J (hRR lt tx) Q
  refine h_aload_n dX7_sees_0 rfl ?_
  refine h_bipush dX7_sees_1 cb_70 ?_
  refine h_cU1 dX7_sees_3 k4_124 oU_X7_runs_X7 rfl rfl ?_
  refine c_runs6 (j := j) h2 (by omega) ?_
  refine h_iload_n dX7_sees_6 rfl ?_
  refine h_aload_n dX7_sees_7 rfl ?_
  refine h_getI dX7_sees_8 f_X7_13_7 rfl (ap_n (by decide) (by decide) h1) ?_
  refine h_imul dX7_sees_11 ?_
  refine h_ireturn dX7_sees_12 rfl ?_
  exact hQ
theorem t6_X7_bends {l : Launch} {dp : Nat} {n a x : Int32} {j : Nat} {I : hI} {J : hJ} {lt tx : Option Nat} {Q : hQ} (h0 : I 80 0 = n) (h1 : I 80 1 = a) (h2 : I 80 2 = nI j) (hj : j + 2 ≤ 30) (hQ : Q (some (.int ((x * a) - n))) hSH (ap I 81 80 2 j [71, 70]) J (hRR lt tx))  : HC l mX7_bends (dp + 2) 0 0 [.ref 80, .int x] hSH I J (hRR lt tx) Q := by
  refine HC.of (by decide +kernel) rfl (Nat.le_of_ble_eq_true rfl) ?_
  show HV l mX7_bends (dp + 2) 0 0 0 [some (.ref 80), some (.int x)] [] hSH I J (hRR lt tx) Q
  refine h_aload_n dX7_bends_0 rfl ?_
  refine h_bipush dX7_bends_1 cb_71 ?_
  refine h_cU1 dX7_bends_3 k4_124 oU_X7_runs_X7 rfl rfl ?_
  refine c_runs6 (j := j) h2 (by omega) ?_
  refine h_aload_n dX7_bends_6 rfl ?_
  refine h_iload_n dX7_bends_7 rfl ?_
  refine h_cV1 dX7_bends_8 k4_154 oVX7_sees rfl rfl ?_
  refine t6_X7_sees (j := j + 1) (ap_n (by decide) (by decide) h0) (ap_n (by decide) (by decide) h1) (ap_c (by decide) rfl h2) (by omega) ?_
  rw [ap_aq [71] [70] [71, 70] 1 rfl rfl]
  refine h_aload_n dX7_bends_11 rfl ?_
  refine h_getI dX7_bends_12 f_X7_21_7 rfl (ap_n (by decide) (by decide) h0) ?_
  refine h_isub dX7_bends_15 ?_
  refine h_ireturn dX7_bends_16 rfl ?_
  exact hQ
theorem t6_X7_leans {l : Launch} {dp : Nat} {n a x : Int32} {j : Nat} {I : hI} {J : hJ} {lt tx : Option Nat} {Q : hQ} (h0 : I 80 0 = n) (h1 : I 80 1 = a) (h2 : I 80 2 = nI j) (hj : j + 1 ≤ 30) (hQ : Q (some (.int (x ||| a))) hSH (ap I 81 80 2 j [72]) J (hRR lt tx))  : HC l mX7_leans (dp + 1) 0 0 [.ref 80, .int x] hSH I J (hRR lt tx) Q := by
  refine HC.of (by decide +kernel) rfl (Nat.le_of_ble_eq_true rfl) ?_
  show HV l mX7_leans (dp + 1) 0 0 0 [some (.ref 80), some (.int x)] [] hSH I J (hRR lt tx) Q
  refine h_aload_n dX7_leans_0 rfl ?_
  refine h_bipush dX7_leans_1 cb_72 ?_
  refine h_cU1 dX7_leans_3 k4_124 oU_X7_runs_X7 rfl rfl ?_
  refine c_runs6 (j := j) h2 (by omega) ?_
  refine h_iload_n dX7_leans_6 rfl ?_
  refine h_aload_n dX7_leans_7 rfl ?_
  refine h_getI dX7_leans_8 f_X7_13_7 rfl (ap_n (by decide) (by decide) h1) ?_
  refine h_ior dX7_leans_11 ?_
  refine h_ireturn dX7_leans_12 rfl ?_
  exact hQ
theorem t6_X7_tells {l : Launch} {dp : Nat} {n a x : Int32} {j : Nat} {I : hI} {J : hJ} {lt tx : Option Nat} {Q : hQ} (h0 : I 80 0 = n) (h1 : I 80 1 = a) (h2 : I 80 2 = nI j) (hj : j + 4 ≤ 30) (hQ : Q (some (.int (((x * a) - n) + (n ||| a)))) hSH (ap I 81 80 2 j [73, 71, 70, 72]) J (hRR lt tx))  : HC l mX7_tells (dp + 3) 0 0 [.ref 80, .int x] hSH I J (hRR lt tx) Q := by
  refine HC.of (by decide +kernel) rfl (Nat.le_of_ble_eq_true rfl) ?_
  show HV l mX7_tells (dp + 3) 0 0 0 [some (.ref 80), some (.int x)] [] hSH I J (hRR lt tx) Q
  refine h_aload_n dX7_tells_0 rfl ?_
  refine h_bipush dX7_tells_1 cb_73 ?_
  refine h_cU1 dX7_tells_3 k4_124 oU_X7_runs_X7 rfl rfl ?_
  refine c_runs6 (j := j) h2 (by omega) ?_
  refine h_aload_n dX7_tells_6 rfl ?_
  refine h_iload_n dX7_tells_7 rfl ?_
  refine h_cV1 dX7_tells_8 k4_197 oVX7_bends rfl rfl ?_
  refine t6_X7_bends (j := j + 1) (ap_n (by decide) (by decide) h0) (ap_n (by decide) (by decide) h1) (ap_c (by decide) rfl h2) (by omega) ?_
  rw [ap_aq [73] [71, 70] [73, 71, 70] 1 rfl rfl]
  refine h_aload_n dX7_tells_11 rfl ?_
  refine h_aload_n dX7_tells_12 rfl ?_
  refine h_getI dX7_tells_13 f_X7_21_7 rfl (ap_n (by decide) (by decide) h0) ?_
  refine h_cV1 dX7_tells_16 k4_198 oVX7_leans rfl rfl ?_
  refine t6_X7_leans (j := j + 3) (ap_n (by decide) (by decide) h0) (ap_n (by decide) (by decide) h1) (ap_c (by decide) rfl h2) (by omega) ?_
  rw [ap_aq [73, 71, 70] [72] [73, 71, 70, 72] 3 rfl rfl]
  refine h_iadd dX7_tells_19 ?_
  refine h_ireturn dX7_tells_20 rfl ?_
  exact hQ
