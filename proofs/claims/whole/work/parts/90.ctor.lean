def hsp (n : Nat) : hS := hSH.take n
section MKC
variable {l : Launch} {M : hM} {d k n pc : Nat} {ls : hL} {st : List Value} {sh sh' : hS} {I : hI} {J : hJ} {R : hR} {Q : hQ}
theorem h_newC {idx c N a : Nat} (hd : decode M.2.1 pc = .ok (.new idx, 3)) (hc : hCl M.1.cls idx c N) (hL : sh.length = a) (hs : sh ++ [(c + 5, 0)] = sh') (h : HV l M d k n (pc + 3) ls (.ref a :: st) sh' (clI I a) (clJ J a) (clR R a) Q) : HV l M d (k + 1) (n + N) pc ls st sh I J R Q := by
  subst hL
  subst hs
  exact h_new hd hc h
theorem h_naC_int {x : Int32} {N a : Nat} (hd : decode M.2.1 pc = .ok (.newarray .int, 2)) (hw : hW (.arrayClass .int)) (hx : x = nI N) (hN : Nat.ble N 100000 = true) (hL : sh.length = a) (hs : sh ++ [(0, N)] = sh') (h : HV l M d k n (pc + 2) ls (.ref a :: st) sh' (clI I a) (clJ J a) (clR R a) Q) : HV l M d (k + 1) (n + N) pc ls (.int x :: st) sh I J R Q := by
  subst hL
  subst hs
  exact h_newa_int hd hw hx hN h
theorem h_naC_byte {x : Int32} {N a : Nat} (hd : decode M.2.1 pc = .ok (.newarray .byte, 2)) (hw : hW (.arrayClass .byte)) (hx : x = nI N) (hN : Nat.ble N 100000 = true) (hL : sh.length = a) (hs : sh ++ [(1, N)] = sh') (h : HV l M d k n (pc + 2) ls (.ref a :: st) sh' (clI I a) (clJ J a) (clR R a) Q) : HV l M d (k + 1) (n + N) pc ls (.int x :: st) sh I J R Q := by
  subst hL
  subst hs
  exact h_newa_byte hd hw hx hN h
theorem h_naC_long {x : Int32} {N a : Nat} (hd : decode M.2.1 pc = .ok (.newarray .long, 2)) (hw : hW (.arrayClass .long)) (hx : x = nI N) (hN : Nat.ble N 100000 = true) (hL : sh.length = a) (hs : sh ++ [(2, N)] = sh') (h : HV l M d k n (pc + 2) ls (.ref a :: st) sh' (clI I a) (clJ J a) (clR R a) Q) : HV l M d (k + 1) (n + N) pc ls (.int x :: st) sh I J R Q := by
  subst hL
  subst hs
  exact h_newa_long hd hw hx hN h
theorem h_naC_bool {x : Int32} {N a : Nat} (hd : decode M.2.1 pc = .ok (.newarray .boolean, 2)) (hw : hW (.arrayClass .boolean)) (hx : x = nI N) (hN : Nat.ble N 100000 = true) (hL : sh.length = a) (hs : sh ++ [(3, N)] = sh') (h : HV l M d k n (pc + 2) ls (.ref a :: st) sh' (clI I a) (clJ J a) (clR R a) Q) : HV l M d (k + 1) (n + N) pc ls (.int x :: st) sh I J R Q := by
  subst hL
  subst hs
  exact h_newa_bool hd hw hx hN h
theorem h_anC {x : Int32} {idx N a : Nat} (hd : decode M.2.1 pc = .ok (.anewarray idx, 3)) (hw : hW (.classLink M.1.cls idx "FarHeights$Thing")) (hx : x = nI N) (hN : Nat.ble N 100000 = true) (hL : sh.length = a) (hs : sh ++ [(4, N)] = sh') (h : HV l M d k n (pc + 3) ls (.ref a :: st) sh' (clI I a) (clJ J a) (clR R a) Q) : HV l M d (k + 1) (n + N) pc ls (.int x :: st) sh I J R Q := by
  subst hL
  subst hs
  exact h_anewa hd hw hx hN h
theorem h_aastC {a N y c z j : Nat} {i : Int32} {C : String} {T : u_T} {N' : Nat} (hd : decode M.2.1 pc = .ok (.aastore, 1)) (hs : sh[a]? = some (4, N)) (hy : sh[y]? = some (c + 5, z)) (hc : vwCl[c]? = some (C, T, N')) (hw : hW (.castable C "FarHeights$Thing")) (hi : vp_in i N) (hj : i.toNatClampNeg = j) (h : HV l M d k n (pc + 1) ls st sh I J (upR R a j (some y)) Q) : HV l M d k n pc ls (.ref y :: .int i :: .ref a :: st) sh I J R Q := by
  subst hj
  exact h_aast hd hs hy hc hw hi h
end MKC
def qI_X5_init_2 (I : hI) : hI := (clI (clI (clI (clI (clI (clI (clI (clI (upI (clI (upI I 2 0 (nI 0)) 3) 2 2 (nI 0)) 4) 5) 6) 7) 8) 9) 10) 11)
def qJ_X5_init_2 (J : hJ) : hJ := (clJ (clJ (clJ (clJ (clJ (clJ (clJ (clJ (clJ J 3) 4) 5) 6) 7) 8) 9) 10) 11)
def qR_X5_init_2 (R : hR) : hR := (upR (clR (upR (clR (upR (clR (upR (clR (upR (clR (upR (clR (upR (clR (upR (clR (upR (clR R 3) 2 1 (some 3)) 4) 2 3 (some 4)) 5) 2 4 (some 5)) 6) 2 5 (some 6)) 7) 2 6 (some 7)) 8) 2 7 (some 8)) 9) 2 8 (some 9)) 10) 2 9 (some 10)) 11) 2 10 (some 11))
theorem n_X5_init_2 {l : Launch} {dp : Nat} {I : hI} {J : hJ} {R : hR} {Q : hQ} (hQ : Q none (hsp 12) (qI_X5_init_2 I) (qJ_X5_init_2 J) (qR_X5_init_2 R)) : HC l mX5_init (dp + 1) 9 78 [.ref 2] (hsp 3) I J R Q := by
  refine HC.of (by decide +kernel) rfl (Nat.le_of_ble_eq_true rfl) ?_
  show HV l mX5_init (dp + 1) 9 78 0 [some (.ref 2)] [] (hsp 3) I J R Q
  refine h_aload_n dX5_init_0 rfl ?_
  refine h_oinit dX5_init_1 k1_35 k1_22 k1_23 (Nat.le_of_ble_eq_true rfl) ?_
  refine h_aload_n dX5_init_4 rfl ?_
  refine h_iconst dX5_init_5 ci_0 ?_
  refine h_putI dX5_init_6 f_X5_9_5 p_X5_5_0 (fun h => by cases h) rfl ?_
  refine h_aload_n dX5_init_9 rfl ?_
  refine h_bipush dX5_init_10 cb_6 ?_
  refine h_naC_int (k := 8) (n := 72) (N := 6) (a := 3) (sh' := hsp 4) dX5_init_12 k1_81 rfl rfl rfl rfl ?_
  refine h_putR dX5_init_14 f_X5_15_5 p_X5_5_1 (fun _ => rfl) rfl ?_
  refine h_aload_n dX5_init_17 rfl ?_
  refine h_iconst dX5_init_18 ci_0 ?_
  refine h_putI dX5_init_19 f_X5_19_5 p_X5_5_2 (fun h => by cases h) rfl ?_
  refine h_aload_n dX5_init_22 rfl ?_
  refine h_bipush dX5_init_23 cb_12 ?_
  refine h_naC_int (k := 7) (n := 60) (N := 12) (a := 4) (sh' := hsp 5) dX5_init_25 k1_81 rfl rfl rfl rfl ?_
  refine h_putR dX5_init_27 f_X5_22_5 p_X5_5_3 (fun _ => rfl) rfl ?_
  refine h_aload_n dX5_init_30 rfl ?_
  refine h_bipush dX5_init_31 cb_12 ?_
  refine h_naC_int (k := 6) (n := 48) (N := 12) (a := 5) (sh' := hsp 6) dX5_init_33 k1_81 rfl rfl rfl rfl ?_
  refine h_putR dX5_init_35 f_X5_25_5 p_X5_5_4 (fun _ => rfl) rfl ?_
  refine h_aload_n dX5_init_38 rfl ?_
  refine h_bipush dX5_init_39 cb_12 ?_
  refine h_naC_int (k := 5) (n := 36) (N := 12) (a := 6) (sh' := hsp 7) dX5_init_41 k1_81 rfl rfl rfl rfl ?_
  refine h_putR dX5_init_43 f_X5_28_5 p_X5_5_5 (fun _ => rfl) rfl ?_
  refine h_aload_n dX5_init_46 rfl ?_
  refine h_bipush dX5_init_47 cb_12 ?_
  refine h_naC_int (k := 4) (n := 24) (N := 12) (a := 7) (sh' := hsp 8) dX5_init_49 k1_81 rfl rfl rfl rfl ?_
  refine h_putR dX5_init_51 f_X5_31_5 p_X5_5_6 (fun _ => rfl) rfl ?_
  refine h_aload_n dX5_init_54 rfl ?_
  refine h_bipush dX5_init_55 cb_6 ?_
  refine h_naC_int (k := 3) (n := 18) (N := 6) (a := 8) (sh' := hsp 9) dX5_init_57 k1_81 rfl rfl rfl rfl ?_
  refine h_putR dX5_init_59 f_X5_34_5 p_X5_5_7 (fun _ => rfl) rfl ?_
  refine h_aload_n dX5_init_62 rfl ?_
  refine h_bipush dX5_init_63 cb_6 ?_
  refine h_naC_int (k := 2) (n := 12) (N := 6) (a := 9) (sh' := hsp 10) dX5_init_65 k1_81 rfl rfl rfl rfl ?_
  refine h_putR dX5_init_67 f_X5_37_5 p_X5_5_8 (fun _ => rfl) rfl ?_
  refine h_aload_n dX5_init_70 rfl ?_
  refine h_bipush dX5_init_71 cb_6 ?_
  refine h_naC_int (k := 1) (n := 6) (N := 6) (a := 10) (sh' := hsp 11) dX5_init_73 k1_81 rfl rfl rfl rfl ?_
  refine h_putR dX5_init_75 f_X5_40_5 p_X5_5_9 (fun _ => rfl) rfl ?_
  refine h_aload_n dX5_init_78 rfl ?_
  refine h_bipush dX5_init_79 cb_6 ?_
  refine h_naC_int (k := 0) (n := 0) (N := 6) (a := 11) (sh' := hsp 12) dX5_init_81 k1_81 rfl rfl rfl rfl ?_
  refine h_putR dX5_init_83 f_X5_43_5 p_X5_5_10 (fun _ => rfl) rfl ?_
  refine h_return dX5_init_86 rfl ?_
  exact hQ
def qI_X3_init_12 (I : hI) : hI := (upI (upI (upI (upI (upI (upI (clI (clI (clI (upI (clI (clI (upI I 12 0 (nI 0)) 13) 14) 12 3 (nI 0)) 15) 16) 17) 12 8 (nI 0)) 12 9 (nI 0)) 12 10 (nI 0)) 12 11 (-1)) 12 12 (nI 0)) 12 13 (-1))
def qJ_X3_init_12 (J : hJ) : hJ := (clJ (clJ (clJ (clJ (clJ J 13) 14) 15) 16) 17)
def qR_X3_init_12 (R : hR) : hR := (upR (upR (clR (upR (clR (upR (clR (upR (clR (upR (clR R 13) 12 1 (some 13)) 14) 12 2 (some 14)) 15) 12 4 (some 15)) 16) 12 5 (some 16)) 17) 12 6 (some 17)) 12 7 none)
theorem n_X3_init_12 {l : Launch} {dp : Nat} {I : hI} {J : hJ} {R : hR} {Q : hQ} (hQ : Q none (hsp 18) (qI_X3_init_12 I) (qJ_X3_init_12 J) (qR_X3_init_12 R)) : HC l mX3_init (dp + 1) 5 316 [.ref 12] (hsp 13) I J R Q := by
  refine HC.of (by decide +kernel) rfl (Nat.le_of_ble_eq_true rfl) ?_
  show HV l mX3_init (dp + 1) 5 316 0 [some (.ref 12)] [] (hsp 13) I J R Q
  refine h_aload_n dX3_init_0 rfl ?_
  refine h_oinit dX3_init_1 k1_87 k1_22 k1_23 (Nat.le_of_ble_eq_true rfl) ?_
  refine h_aload_n dX3_init_4 rfl ?_
  refine h_iconst dX3_init_5 ci_0 ?_
  refine h_putI dX3_init_6 f_X3_9_3 p_X3_3_0 (fun h => by cases h) rfl ?_
  refine h_aload_n dX3_init_9 rfl ?_
  refine h_bipush dX3_init_10 cb_8 ?_
  refine h_naC_int (k := 4) (n := 308) (N := 8) (a := 13) (sh' := hsp 14) dX3_init_12 k1_81 rfl rfl rfl rfl ?_
  refine h_putR dX3_init_14 f_X3_15_3 p_X3_3_1 (fun _ => rfl) rfl ?_
  refine h_aload_n dX3_init_17 rfl ?_
  refine h_bipush dX3_init_18 cb_8 ?_
  refine h_naC_int (k := 3) (n := 300) (N := 8) (a := 14) (sh' := hsp 15) dX3_init_20 k1_81 rfl rfl rfl rfl ?_
  refine h_putR dX3_init_22 f_X3_19_3 p_X3_3_2 (fun _ => rfl) rfl ?_
  refine h_aload_n dX3_init_25 rfl ?_
  refine h_iconst dX3_init_26 ci_0 ?_
  refine h_putI dX3_init_27 f_X3_22_3 p_X3_3_3 (fun h => by cases h) rfl ?_
  refine h_aload_n dX3_init_30 rfl ?_
  refine h_bipush dX3_init_31 cb_100 ?_
  refine h_naC_int (k := 2) (n := 200) (N := 100) (a := 15) (sh' := hsp 16) dX3_init_33 k1_81 rfl rfl rfl rfl ?_
  refine h_putR dX3_init_35 f_X3_25_3 p_X3_3_4 (fun _ => rfl) rfl ?_
  refine h_aload_n dX3_init_38 rfl ?_
  refine h_bipush dX3_init_39 cb_100 ?_
  refine h_naC_int (k := 1) (n := 100) (N := 100) (a := 16) (sh' := hsp 17) dX3_init_41 k1_81 rfl rfl rfl rfl ?_
  refine h_putR dX3_init_43 f_X3_28_3 p_X3_3_5 (fun _ => rfl) rfl ?_
  refine h_aload_n dX3_init_46 rfl ?_
  refine h_bipush dX3_init_47 cb_100 ?_
  refine h_naC_int (k := 0) (n := 0) (N := 100) (a := 17) (sh' := hsp 18) dX3_init_49 k1_81 rfl rfl rfl rfl ?_
  refine h_putR dX3_init_51 f_X3_31_3 p_X3_3_6 (fun _ => rfl) rfl ?_
  refine h_aload_n dX3_init_54 rfl ?_
  refine h_null dX3_init_55 ?_
  refine h_putN dX3_init_56 f_X3_34_3 p_X3_3_7 (fun h => by cases h) rfl ?_
  refine h_aload_n dX3_init_59 rfl ?_
  refine h_iconst dX3_init_60 ci_0 ?_
  refine h_putI dX3_init_61 f_X3_38_3 p_X3_3_8 (fun h => by cases h) rfl ?_
  refine h_aload_n dX3_init_64 rfl ?_
  refine h_iconst dX3_init_65 ci_0 ?_
  refine h_putI dX3_init_66 f_X3_41_3 p_X3_3_9 (fun h => by cases h) rfl ?_
  refine h_aload_n dX3_init_69 rfl ?_
  refine h_iconst dX3_init_70 ci_0 ?_
  refine h_putI dX3_init_71 f_X3_44_3 p_X3_3_10 (fun h => by cases h) rfl ?_
  refine h_aload_n dX3_init_74 rfl ?_
  refine h_iconst dX3_init_75 ci_m1 ?_
  refine h_putI dX3_init_76 f_X3_47_3 p_X3_3_11 (fun h => by cases h) rfl ?_
  refine h_aload_n dX3_init_79 rfl ?_
  refine h_iconst dX3_init_80 ci_0 ?_
  refine h_putI dX3_init_81 f_X3_50_3 p_X3_3_12 (fun h => by cases h) rfl ?_
  refine h_aload_n dX3_init_84 rfl ?_
  refine h_iconst dX3_init_85 ci_m1 ?_
  refine h_putI dX3_init_86 f_X3_53_3 p_X3_3_13 (fun h => by cases h) rfl ?_
  refine h_return dX3_init_89 rfl ?_
  exact hQ
def qI_X10_init_1 (I : hI) : hI := (clI (clI (clI (upI (clI (clI (clI (clI (clI (upI (upI (clI (clI (upI (qI_X3_init_12 (clI (qI_X5_init_2 (clI I 2)) 12)) 1 2 (nI 0)) 18) 19) 1 5 (nI 0)) 1 6 (nI 0)) 20) 21) 22) 23) 24) 1 12 (nI 0)) 25) 26) 27)
def qJ_X10_init_1 (J : hJ) : hJ := (clJ (clJ (clJ (clJ (clJ (clJ (clJ (clJ (clJ (clJ (qJ_X3_init_12 (clJ (qJ_X5_init_2 (clJ J 2)) 12)) 18) 19) 20) 21) 22) 23) 24) 25) 26) 27)
def qR_X10_init_1 (R : hR) : hR := (upR (clR (upR (clR (upR (clR (upR (clR (upR (clR (upR (clR (upR (clR (upR (clR (upR (clR (upR (clR (upR (qR_X3_init_12 (clR (upR (qR_X5_init_2 (clR R 2)) 1 0 (some 2)) 12)) 1 1 (some 12)) 18) 1 3 (some 18)) 19) 1 4 (some 19)) 20) 1 7 (some 20)) 21) 1 8 (some 21)) 22) 1 9 (some 22)) 23) 1 10 (some 23)) 24) 1 11 (some 24)) 25) 1 13 (some 25)) 26) 1 14 (some 26)) 27) 1 15 (some 27))
theorem n_X10_init_1 {l : Launch} {dp : Nat} {I : hI} {J : hJ} {R : hR} {Q : hQ} (hQ : Q none (hsp 28) (qI_X10_init_1 I) (qJ_X10_init_1 J) (qR_X10_init_1 R)) : HC l mX10_init (dp + 2) 26 579 [.ref 1] (hsp 2) I J R Q := by
  refine HC.of (by decide +kernel) rfl (Nat.le_of_ble_eq_true rfl) ?_
  show HV l mX10_init (dp + 2) 26 579 0 [some (.ref 1)] [] (hsp 2) I J R Q
  refine h_aload_n dX10_init_0 rfl ?_
  refine h_oinit dX10_init_1 k1_29 k1_22 k1_23 (Nat.le_of_ble_eq_true rfl) ?_
  refine h_aload_n dX10_init_4 rfl ?_
  refine h_newC (k := 25) (n := 568) (N := 11) (a := 2) (sh' := hsp 3) dX10_init_5 cl_X10_9 rfl rfl ?_
  refine h_dup dX10_init_8 rfl ?_
  refine h_callIN (k := 16) (n := 490) (k' := 9) (n' := 78) (As := []) dX10_init_9 k1_32 oIX5_init rfl rfl (Nat.le_of_ble_eq_true rfl) ?_
  refine n_X5_init_2 ?_
  refine h_putR dX10_init_12 f_X10_12_8 p_X10_8_0 (fun _ => rfl) rfl ?_
  refine h_aload_n dX10_init_15 rfl ?_
  refine h_newC (k := 15) (n := 476) (N := 14) (a := 12) (sh' := hsp 13) dX10_init_16 cl_X10_18 rfl rfl ?_
  refine h_dup dX10_init_19 rfl ?_
  refine h_callIN (k := 10) (n := 160) (k' := 5) (n' := 316) (As := []) dX10_init_20 k1_84 oIX3_init rfl rfl (Nat.le_of_ble_eq_true rfl) ?_
  refine n_X3_init_12 ?_
  refine h_putR dX10_init_23 f_X10_21_8 p_X10_8_1 (fun _ => rfl) rfl ?_
  refine h_aload_n dX10_init_26 rfl ?_
  refine h_iconst dX10_init_27 ci_0 ?_
  refine h_putI dX10_init_28 f_X10_25_8 p_X10_8_2 (fun h => by cases h) rfl ?_
  refine h_aload_n dX10_init_31 rfl ?_
  refine h_bipush dX10_init_32 cb_8 ?_
  refine h_naC_int (k := 9) (n := 152) (N := 8) (a := 18) (sh' := hsp 19) dX10_init_34 k1_81 rfl rfl rfl rfl ?_
  refine h_putR dX10_init_36 f_X10_29_8 p_X10_8_3 (fun _ => rfl) rfl ?_
  refine h_aload_n dX10_init_39 rfl ?_
  refine h_bipush dX10_init_40 cb_8 ?_
  refine h_naC_int (k := 8) (n := 144) (N := 8) (a := 19) (sh' := hsp 20) dX10_init_42 k1_81 rfl rfl rfl rfl ?_
  refine h_putR dX10_init_44 f_X10_33_8 p_X10_8_4 (fun _ => rfl) rfl ?_
  refine h_aload_n dX10_init_47 rfl ?_
  refine h_iconst dX10_init_48 ci_0 ?_
  refine h_putI dX10_init_49 f_X10_36_8 p_X10_8_5 (fun h => by cases h) rfl ?_
  refine h_aload_n dX10_init_52 rfl ?_
  refine h_iconst dX10_init_53 ci_0 ?_
  refine h_putI dX10_init_54 f_X10_39_8 p_X10_8_6 (fun h => by cases h) rfl ?_
  refine h_aload_n dX10_init_57 rfl ?_
  refine h_bipush dX10_init_58 cb_24 ?_
  refine h_naC_int (k := 7) (n := 120) (N := 24) (a := 20) (sh' := hsp 21) dX10_init_60 k1_81 rfl rfl rfl rfl ?_
  refine h_putR dX10_init_62 f_X10_42_8 p_X10_8_7 (fun _ => rfl) rfl ?_
  refine h_aload_n dX10_init_65 rfl ?_
  refine h_bipush dX10_init_66 cb_24 ?_
  refine h_naC_int (k := 6) (n := 96) (N := 24) (a := 21) (sh' := hsp 22) dX10_init_68 k1_81 rfl rfl rfl rfl ?_
  refine h_putR dX10_init_70 f_X10_45_8 p_X10_8_8 (fun _ => rfl) rfl ?_
  refine h_aload_n dX10_init_73 rfl ?_
  refine h_bipush dX10_init_74 cb_24 ?_
  refine h_naC_int (k := 5) (n := 72) (N := 24) (a := 22) (sh' := hsp 23) dX10_init_76 k1_81 rfl rfl rfl rfl ?_
  refine h_putR dX10_init_78 f_X10_48_8 p_X10_8_9 (fun _ => rfl) rfl ?_
  refine h_aload_n dX10_init_81 rfl ?_
  refine h_bipush dX10_init_82 cb_24 ?_
  refine h_naC_int (k := 4) (n := 48) (N := 24) (a := 23) (sh' := hsp 24) dX10_init_84 k1_81 rfl rfl rfl rfl ?_
  refine h_putR dX10_init_86 f_X10_51_8 p_X10_8_10 (fun _ => rfl) rfl ?_
  refine h_aload_n dX10_init_89 rfl ?_
  refine h_bipush dX10_init_90 cb_24 ?_
  refine h_naC_int (k := 3) (n := 24) (N := 24) (a := 24) (sh' := hsp 25) dX10_init_92 k1_81 rfl rfl rfl rfl ?_
  refine h_putR dX10_init_94 f_X10_54_8 p_X10_8_11 (fun _ => rfl) rfl ?_
  refine h_aload_n dX10_init_97 rfl ?_
  refine h_iconst dX10_init_98 ci_0 ?_
  refine h_putI dX10_init_99 f_X10_57_8 p_X10_8_12 (fun h => by cases h) rfl ?_
  refine h_aload_n dX10_init_102 rfl ?_
  refine h_bipush dX10_init_103 cb_8 ?_
  refine h_naC_int (k := 2) (n := 16) (N := 8) (a := 25) (sh' := hsp 26) dX10_init_105 k1_81 rfl rfl rfl rfl ?_
  refine h_putR dX10_init_107 f_X10_60_8 p_X10_8_13 (fun _ => rfl) rfl ?_
  refine h_aload_n dX10_init_110 rfl ?_
  refine h_bipush dX10_init_111 cb_8 ?_
  refine h_naC_int (k := 1) (n := 8) (N := 8) (a := 26) (sh' := hsp 27) dX10_init_113 k1_81 rfl rfl rfl rfl ?_
  refine h_putR dX10_init_115 f_X10_63_8 p_X10_8_14 (fun _ => rfl) rfl ?_
  refine h_aload_n dX10_init_118 rfl ?_
  refine h_bipush dX10_init_119 cb_8 ?_
  refine h_naC_int (k := 0) (n := 0) (N := 8) (a := 27) (sh' := hsp 28) dX10_init_121 k1_81 rfl rfl rfl rfl ?_
  refine h_putR dX10_init_123 f_X10_66_8 p_X10_8_15 (fun _ => rfl) rfl ?_
  refine h_return dX10_init_126 rfl ?_
  exact hQ
def qI_X5_init_29 (I : hI) : hI := (clI (clI (clI (clI (clI (clI (clI (clI (upI (clI (upI I 29 0 (nI 0)) 30) 29 2 (nI 0)) 31) 32) 33) 34) 35) 36) 37) 38)
def qJ_X5_init_29 (J : hJ) : hJ := (clJ (clJ (clJ (clJ (clJ (clJ (clJ (clJ (clJ J 30) 31) 32) 33) 34) 35) 36) 37) 38)
def qR_X5_init_29 (R : hR) : hR := (upR (clR (upR (clR (upR (clR (upR (clR (upR (clR (upR (clR (upR (clR (upR (clR (upR (clR R 30) 29 1 (some 30)) 31) 29 3 (some 31)) 32) 29 4 (some 32)) 33) 29 5 (some 33)) 34) 29 6 (some 34)) 35) 29 7 (some 35)) 36) 29 8 (some 36)) 37) 29 9 (some 37)) 38) 29 10 (some 38))
theorem n_X5_init_29 {l : Launch} {dp : Nat} {I : hI} {J : hJ} {R : hR} {Q : hQ} (hQ : Q none (hsp 39) (qI_X5_init_29 I) (qJ_X5_init_29 J) (qR_X5_init_29 R)) : HC l mX5_init (dp + 1) 9 78 [.ref 29] (hsp 30) I J R Q := by
  refine HC.of (by decide +kernel) rfl (Nat.le_of_ble_eq_true rfl) ?_
  show HV l mX5_init (dp + 1) 9 78 0 [some (.ref 29)] [] (hsp 30) I J R Q
  refine h_aload_n dX5_init_0 rfl ?_
  refine h_oinit dX5_init_1 k1_35 k1_22 k1_23 (Nat.le_of_ble_eq_true rfl) ?_
  refine h_aload_n dX5_init_4 rfl ?_
  refine h_iconst dX5_init_5 ci_0 ?_
  refine h_putI dX5_init_6 f_X5_9_5 p_X5_5_0 (fun h => by cases h) rfl ?_
  refine h_aload_n dX5_init_9 rfl ?_
  refine h_bipush dX5_init_10 cb_6 ?_
  refine h_naC_int (k := 8) (n := 72) (N := 6) (a := 30) (sh' := hsp 31) dX5_init_12 k1_81 rfl rfl rfl rfl ?_
  refine h_putR dX5_init_14 f_X5_15_5 p_X5_5_1 (fun _ => rfl) rfl ?_
  refine h_aload_n dX5_init_17 rfl ?_
  refine h_iconst dX5_init_18 ci_0 ?_
  refine h_putI dX5_init_19 f_X5_19_5 p_X5_5_2 (fun h => by cases h) rfl ?_
  refine h_aload_n dX5_init_22 rfl ?_
  refine h_bipush dX5_init_23 cb_12 ?_
  refine h_naC_int (k := 7) (n := 60) (N := 12) (a := 31) (sh' := hsp 32) dX5_init_25 k1_81 rfl rfl rfl rfl ?_
  refine h_putR dX5_init_27 f_X5_22_5 p_X5_5_3 (fun _ => rfl) rfl ?_
  refine h_aload_n dX5_init_30 rfl ?_
  refine h_bipush dX5_init_31 cb_12 ?_
  refine h_naC_int (k := 6) (n := 48) (N := 12) (a := 32) (sh' := hsp 33) dX5_init_33 k1_81 rfl rfl rfl rfl ?_
  refine h_putR dX5_init_35 f_X5_25_5 p_X5_5_4 (fun _ => rfl) rfl ?_
  refine h_aload_n dX5_init_38 rfl ?_
  refine h_bipush dX5_init_39 cb_12 ?_
  refine h_naC_int (k := 5) (n := 36) (N := 12) (a := 33) (sh' := hsp 34) dX5_init_41 k1_81 rfl rfl rfl rfl ?_
  refine h_putR dX5_init_43 f_X5_28_5 p_X5_5_5 (fun _ => rfl) rfl ?_
  refine h_aload_n dX5_init_46 rfl ?_
  refine h_bipush dX5_init_47 cb_12 ?_
  refine h_naC_int (k := 4) (n := 24) (N := 12) (a := 34) (sh' := hsp 35) dX5_init_49 k1_81 rfl rfl rfl rfl ?_
  refine h_putR dX5_init_51 f_X5_31_5 p_X5_5_6 (fun _ => rfl) rfl ?_
  refine h_aload_n dX5_init_54 rfl ?_
  refine h_bipush dX5_init_55 cb_6 ?_
  refine h_naC_int (k := 3) (n := 18) (N := 6) (a := 35) (sh' := hsp 36) dX5_init_57 k1_81 rfl rfl rfl rfl ?_
  refine h_putR dX5_init_59 f_X5_34_5 p_X5_5_7 (fun _ => rfl) rfl ?_
  refine h_aload_n dX5_init_62 rfl ?_
  refine h_bipush dX5_init_63 cb_6 ?_
  refine h_naC_int (k := 2) (n := 12) (N := 6) (a := 36) (sh' := hsp 37) dX5_init_65 k1_81 rfl rfl rfl rfl ?_
  refine h_putR dX5_init_67 f_X5_37_5 p_X5_5_8 (fun _ => rfl) rfl ?_
  refine h_aload_n dX5_init_70 rfl ?_
  refine h_bipush dX5_init_71 cb_6 ?_
  refine h_naC_int (k := 1) (n := 6) (N := 6) (a := 37) (sh' := hsp 38) dX5_init_73 k1_81 rfl rfl rfl rfl ?_
  refine h_putR dX5_init_75 f_X5_40_5 p_X5_5_9 (fun _ => rfl) rfl ?_
  refine h_aload_n dX5_init_78 rfl ?_
  refine h_bipush dX5_init_79 cb_6 ?_
  refine h_naC_int (k := 0) (n := 0) (N := 6) (a := 38) (sh' := hsp 39) dX5_init_81 k1_81 rfl rfl rfl rfl ?_
  refine h_putR dX5_init_83 f_X5_43_5 p_X5_5_10 (fun _ => rfl) rfl ?_
  refine h_return dX5_init_86 rfl ?_
  exact hQ
def qI_X3_init_39 (I : hI) : hI := (upI (upI (upI (upI (upI (upI (clI (clI (clI (upI (clI (clI (upI I 39 0 (nI 0)) 40) 41) 39 3 (nI 0)) 42) 43) 44) 39 8 (nI 0)) 39 9 (nI 0)) 39 10 (nI 0)) 39 11 (-1)) 39 12 (nI 0)) 39 13 (-1))
def qJ_X3_init_39 (J : hJ) : hJ := (clJ (clJ (clJ (clJ (clJ J 40) 41) 42) 43) 44)
def qR_X3_init_39 (R : hR) : hR := (upR (upR (clR (upR (clR (upR (clR (upR (clR (upR (clR R 40) 39 1 (some 40)) 41) 39 2 (some 41)) 42) 39 4 (some 42)) 43) 39 5 (some 43)) 44) 39 6 (some 44)) 39 7 none)
theorem n_X3_init_39 {l : Launch} {dp : Nat} {I : hI} {J : hJ} {R : hR} {Q : hQ} (hQ : Q none (hsp 45) (qI_X3_init_39 I) (qJ_X3_init_39 J) (qR_X3_init_39 R)) : HC l mX3_init (dp + 1) 5 316 [.ref 39] (hsp 40) I J R Q := by
  refine HC.of (by decide +kernel) rfl (Nat.le_of_ble_eq_true rfl) ?_
  show HV l mX3_init (dp + 1) 5 316 0 [some (.ref 39)] [] (hsp 40) I J R Q
  refine h_aload_n dX3_init_0 rfl ?_
  refine h_oinit dX3_init_1 k1_87 k1_22 k1_23 (Nat.le_of_ble_eq_true rfl) ?_
  refine h_aload_n dX3_init_4 rfl ?_
  refine h_iconst dX3_init_5 ci_0 ?_
  refine h_putI dX3_init_6 f_X3_9_3 p_X3_3_0 (fun h => by cases h) rfl ?_
  refine h_aload_n dX3_init_9 rfl ?_
  refine h_bipush dX3_init_10 cb_8 ?_
  refine h_naC_int (k := 4) (n := 308) (N := 8) (a := 40) (sh' := hsp 41) dX3_init_12 k1_81 rfl rfl rfl rfl ?_
  refine h_putR dX3_init_14 f_X3_15_3 p_X3_3_1 (fun _ => rfl) rfl ?_
  refine h_aload_n dX3_init_17 rfl ?_
  refine h_bipush dX3_init_18 cb_8 ?_
  refine h_naC_int (k := 3) (n := 300) (N := 8) (a := 41) (sh' := hsp 42) dX3_init_20 k1_81 rfl rfl rfl rfl ?_
  refine h_putR dX3_init_22 f_X3_19_3 p_X3_3_2 (fun _ => rfl) rfl ?_
  refine h_aload_n dX3_init_25 rfl ?_
  refine h_iconst dX3_init_26 ci_0 ?_
  refine h_putI dX3_init_27 f_X3_22_3 p_X3_3_3 (fun h => by cases h) rfl ?_
  refine h_aload_n dX3_init_30 rfl ?_
  refine h_bipush dX3_init_31 cb_100 ?_
  refine h_naC_int (k := 2) (n := 200) (N := 100) (a := 42) (sh' := hsp 43) dX3_init_33 k1_81 rfl rfl rfl rfl ?_
  refine h_putR dX3_init_35 f_X3_25_3 p_X3_3_4 (fun _ => rfl) rfl ?_
  refine h_aload_n dX3_init_38 rfl ?_
  refine h_bipush dX3_init_39 cb_100 ?_
  refine h_naC_int (k := 1) (n := 100) (N := 100) (a := 43) (sh' := hsp 44) dX3_init_41 k1_81 rfl rfl rfl rfl ?_
  refine h_putR dX3_init_43 f_X3_28_3 p_X3_3_5 (fun _ => rfl) rfl ?_
  refine h_aload_n dX3_init_46 rfl ?_
  refine h_bipush dX3_init_47 cb_100 ?_
  refine h_naC_int (k := 0) (n := 0) (N := 100) (a := 44) (sh' := hsp 45) dX3_init_49 k1_81 rfl rfl rfl rfl ?_
  refine h_putR dX3_init_51 f_X3_31_3 p_X3_3_6 (fun _ => rfl) rfl ?_
  refine h_aload_n dX3_init_54 rfl ?_
  refine h_null dX3_init_55 ?_
  refine h_putN dX3_init_56 f_X3_34_3 p_X3_3_7 (fun h => by cases h) rfl ?_
  refine h_aload_n dX3_init_59 rfl ?_
  refine h_iconst dX3_init_60 ci_0 ?_
  refine h_putI dX3_init_61 f_X3_38_3 p_X3_3_8 (fun h => by cases h) rfl ?_
  refine h_aload_n dX3_init_64 rfl ?_
  refine h_iconst dX3_init_65 ci_0 ?_
  refine h_putI dX3_init_66 f_X3_41_3 p_X3_3_9 (fun h => by cases h) rfl ?_
  refine h_aload_n dX3_init_69 rfl ?_
  refine h_iconst dX3_init_70 ci_0 ?_
  refine h_putI dX3_init_71 f_X3_44_3 p_X3_3_10 (fun h => by cases h) rfl ?_
  refine h_aload_n dX3_init_74 rfl ?_
  refine h_iconst dX3_init_75 ci_m1 ?_
  refine h_putI dX3_init_76 f_X3_47_3 p_X3_3_11 (fun h => by cases h) rfl ?_
  refine h_aload_n dX3_init_79 rfl ?_
  refine h_iconst dX3_init_80 ci_0 ?_
  refine h_putI dX3_init_81 f_X3_50_3 p_X3_3_12 (fun h => by cases h) rfl ?_
  refine h_aload_n dX3_init_84 rfl ?_
  refine h_iconst dX3_init_85 ci_m1 ?_
  refine h_putI dX3_init_86 f_X3_53_3 p_X3_3_13 (fun h => by cases h) rfl ?_
  refine h_return dX3_init_89 rfl ?_
  exact hQ
def qI_X10_init_28 (I : hI) : hI := (clI (clI (clI (upI (clI (clI (clI (clI (clI (upI (upI (clI (clI (upI (qI_X3_init_39 (clI (qI_X5_init_29 (clI I 29)) 39)) 28 2 (nI 0)) 45) 46) 28 5 (nI 0)) 28 6 (nI 0)) 47) 48) 49) 50) 51) 28 12 (nI 0)) 52) 53) 54)
def qJ_X10_init_28 (J : hJ) : hJ := (clJ (clJ (clJ (clJ (clJ (clJ (clJ (clJ (clJ (clJ (qJ_X3_init_39 (clJ (qJ_X5_init_29 (clJ J 29)) 39)) 45) 46) 47) 48) 49) 50) 51) 52) 53) 54)
def qR_X10_init_28 (R : hR) : hR := (upR (clR (upR (clR (upR (clR (upR (clR (upR (clR (upR (clR (upR (clR (upR (clR (upR (clR (upR (clR (upR (qR_X3_init_39 (clR (upR (qR_X5_init_29 (clR R 29)) 28 0 (some 29)) 39)) 28 1 (some 39)) 45) 28 3 (some 45)) 46) 28 4 (some 46)) 47) 28 7 (some 47)) 48) 28 8 (some 48)) 49) 28 9 (some 49)) 50) 28 10 (some 50)) 51) 28 11 (some 51)) 52) 28 13 (some 52)) 53) 28 14 (some 53)) 54) 28 15 (some 54))
theorem n_X10_init_28 {l : Launch} {dp : Nat} {I : hI} {J : hJ} {R : hR} {Q : hQ} (hQ : Q none (hsp 55) (qI_X10_init_28 I) (qJ_X10_init_28 J) (qR_X10_init_28 R)) : HC l mX10_init (dp + 2) 26 579 [.ref 28] (hsp 29) I J R Q := by
  refine HC.of (by decide +kernel) rfl (Nat.le_of_ble_eq_true rfl) ?_
  show HV l mX10_init (dp + 2) 26 579 0 [some (.ref 28)] [] (hsp 29) I J R Q
  refine h_aload_n dX10_init_0 rfl ?_
  refine h_oinit dX10_init_1 k1_29 k1_22 k1_23 (Nat.le_of_ble_eq_true rfl) ?_
  refine h_aload_n dX10_init_4 rfl ?_
  refine h_newC (k := 25) (n := 568) (N := 11) (a := 29) (sh' := hsp 30) dX10_init_5 cl_X10_9 rfl rfl ?_
  refine h_dup dX10_init_8 rfl ?_
  refine h_callIN (k := 16) (n := 490) (k' := 9) (n' := 78) (As := []) dX10_init_9 k1_32 oIX5_init rfl rfl (Nat.le_of_ble_eq_true rfl) ?_
  refine n_X5_init_29 ?_
  refine h_putR dX10_init_12 f_X10_12_8 p_X10_8_0 (fun _ => rfl) rfl ?_
  refine h_aload_n dX10_init_15 rfl ?_
  refine h_newC (k := 15) (n := 476) (N := 14) (a := 39) (sh' := hsp 40) dX10_init_16 cl_X10_18 rfl rfl ?_
  refine h_dup dX10_init_19 rfl ?_
  refine h_callIN (k := 10) (n := 160) (k' := 5) (n' := 316) (As := []) dX10_init_20 k1_84 oIX3_init rfl rfl (Nat.le_of_ble_eq_true rfl) ?_
  refine n_X3_init_39 ?_
  refine h_putR dX10_init_23 f_X10_21_8 p_X10_8_1 (fun _ => rfl) rfl ?_
  refine h_aload_n dX10_init_26 rfl ?_
  refine h_iconst dX10_init_27 ci_0 ?_
  refine h_putI dX10_init_28 f_X10_25_8 p_X10_8_2 (fun h => by cases h) rfl ?_
  refine h_aload_n dX10_init_31 rfl ?_
  refine h_bipush dX10_init_32 cb_8 ?_
  refine h_naC_int (k := 9) (n := 152) (N := 8) (a := 45) (sh' := hsp 46) dX10_init_34 k1_81 rfl rfl rfl rfl ?_
  refine h_putR dX10_init_36 f_X10_29_8 p_X10_8_3 (fun _ => rfl) rfl ?_
  refine h_aload_n dX10_init_39 rfl ?_
  refine h_bipush dX10_init_40 cb_8 ?_
  refine h_naC_int (k := 8) (n := 144) (N := 8) (a := 46) (sh' := hsp 47) dX10_init_42 k1_81 rfl rfl rfl rfl ?_
  refine h_putR dX10_init_44 f_X10_33_8 p_X10_8_4 (fun _ => rfl) rfl ?_
  refine h_aload_n dX10_init_47 rfl ?_
  refine h_iconst dX10_init_48 ci_0 ?_
  refine h_putI dX10_init_49 f_X10_36_8 p_X10_8_5 (fun h => by cases h) rfl ?_
  refine h_aload_n dX10_init_52 rfl ?_
  refine h_iconst dX10_init_53 ci_0 ?_
  refine h_putI dX10_init_54 f_X10_39_8 p_X10_8_6 (fun h => by cases h) rfl ?_
  refine h_aload_n dX10_init_57 rfl ?_
  refine h_bipush dX10_init_58 cb_24 ?_
  refine h_naC_int (k := 7) (n := 120) (N := 24) (a := 47) (sh' := hsp 48) dX10_init_60 k1_81 rfl rfl rfl rfl ?_
  refine h_putR dX10_init_62 f_X10_42_8 p_X10_8_7 (fun _ => rfl) rfl ?_
  refine h_aload_n dX10_init_65 rfl ?_
  refine h_bipush dX10_init_66 cb_24 ?_
  refine h_naC_int (k := 6) (n := 96) (N := 24) (a := 48) (sh' := hsp 49) dX10_init_68 k1_81 rfl rfl rfl rfl ?_
  refine h_putR dX10_init_70 f_X10_45_8 p_X10_8_8 (fun _ => rfl) rfl ?_
  refine h_aload_n dX10_init_73 rfl ?_
  refine h_bipush dX10_init_74 cb_24 ?_
  refine h_naC_int (k := 5) (n := 72) (N := 24) (a := 49) (sh' := hsp 50) dX10_init_76 k1_81 rfl rfl rfl rfl ?_
  refine h_putR dX10_init_78 f_X10_48_8 p_X10_8_9 (fun _ => rfl) rfl ?_
  refine h_aload_n dX10_init_81 rfl ?_
  refine h_bipush dX10_init_82 cb_24 ?_
  refine h_naC_int (k := 4) (n := 48) (N := 24) (a := 50) (sh' := hsp 51) dX10_init_84 k1_81 rfl rfl rfl rfl ?_
  refine h_putR dX10_init_86 f_X10_51_8 p_X10_8_10 (fun _ => rfl) rfl ?_
  refine h_aload_n dX10_init_89 rfl ?_
  refine h_bipush dX10_init_90 cb_24 ?_
  refine h_naC_int (k := 3) (n := 24) (N := 24) (a := 51) (sh' := hsp 52) dX10_init_92 k1_81 rfl rfl rfl rfl ?_
  refine h_putR dX10_init_94 f_X10_54_8 p_X10_8_11 (fun _ => rfl) rfl ?_
  refine h_aload_n dX10_init_97 rfl ?_
  refine h_iconst dX10_init_98 ci_0 ?_
  refine h_putI dX10_init_99 f_X10_57_8 p_X10_8_12 (fun h => by cases h) rfl ?_
  refine h_aload_n dX10_init_102 rfl ?_
  refine h_bipush dX10_init_103 cb_8 ?_
  refine h_naC_int (k := 2) (n := 16) (N := 8) (a := 52) (sh' := hsp 53) dX10_init_105 k1_81 rfl rfl rfl rfl ?_
  refine h_putR dX10_init_107 f_X10_60_8 p_X10_8_13 (fun _ => rfl) rfl ?_
  refine h_aload_n dX10_init_110 rfl ?_
  refine h_bipush dX10_init_111 cb_8 ?_
  refine h_naC_int (k := 1) (n := 8) (N := 8) (a := 53) (sh' := hsp 54) dX10_init_113 k1_81 rfl rfl rfl rfl ?_
  refine h_putR dX10_init_115 f_X10_63_8 p_X10_8_14 (fun _ => rfl) rfl ?_
  refine h_aload_n dX10_init_118 rfl ?_
  refine h_bipush dX10_init_119 cb_8 ?_
  refine h_naC_int (k := 0) (n := 0) (N := 8) (a := 54) (sh' := hsp 55) dX10_init_121 k1_81 rfl rfl rfl rfl ?_
  refine h_putR dX10_init_123 f_X10_66_8 p_X10_8_15 (fun _ => rfl) rfl ?_
  refine h_return dX10_init_126 rfl ?_
  exact hQ
def qI_X3_init_55 (I : hI) : hI := (upI (upI (upI (upI (upI (upI (clI (clI (clI (upI (clI (clI (upI I 55 0 (nI 0)) 56) 57) 55 3 (nI 0)) 58) 59) 60) 55 8 (nI 0)) 55 9 (nI 0)) 55 10 (nI 0)) 55 11 (-1)) 55 12 (nI 0)) 55 13 (-1))
def qJ_X3_init_55 (J : hJ) : hJ := (clJ (clJ (clJ (clJ (clJ J 56) 57) 58) 59) 60)
def qR_X3_init_55 (R : hR) : hR := (upR (upR (clR (upR (clR (upR (clR (upR (clR (upR (clR R 56) 55 1 (some 56)) 57) 55 2 (some 57)) 58) 55 4 (some 58)) 59) 55 5 (some 59)) 60) 55 6 (some 60)) 55 7 none)
theorem n_X3_init_55 {l : Launch} {dp : Nat} {I : hI} {J : hJ} {R : hR} {Q : hQ} (hQ : Q none (hsp 61) (qI_X3_init_55 I) (qJ_X3_init_55 J) (qR_X3_init_55 R)) : HC l mX3_init (dp + 1) 5 316 [.ref 55] (hsp 56) I J R Q := by
  refine HC.of (by decide +kernel) rfl (Nat.le_of_ble_eq_true rfl) ?_
  show HV l mX3_init (dp + 1) 5 316 0 [some (.ref 55)] [] (hsp 56) I J R Q
  refine h_aload_n dX3_init_0 rfl ?_
  refine h_oinit dX3_init_1 k1_87 k1_22 k1_23 (Nat.le_of_ble_eq_true rfl) ?_
  refine h_aload_n dX3_init_4 rfl ?_
  refine h_iconst dX3_init_5 ci_0 ?_
  refine h_putI dX3_init_6 f_X3_9_3 p_X3_3_0 (fun h => by cases h) rfl ?_
  refine h_aload_n dX3_init_9 rfl ?_
  refine h_bipush dX3_init_10 cb_8 ?_
  refine h_naC_int (k := 4) (n := 308) (N := 8) (a := 56) (sh' := hsp 57) dX3_init_12 k1_81 rfl rfl rfl rfl ?_
  refine h_putR dX3_init_14 f_X3_15_3 p_X3_3_1 (fun _ => rfl) rfl ?_
  refine h_aload_n dX3_init_17 rfl ?_
  refine h_bipush dX3_init_18 cb_8 ?_
  refine h_naC_int (k := 3) (n := 300) (N := 8) (a := 57) (sh' := hsp 58) dX3_init_20 k1_81 rfl rfl rfl rfl ?_
  refine h_putR dX3_init_22 f_X3_19_3 p_X3_3_2 (fun _ => rfl) rfl ?_
  refine h_aload_n dX3_init_25 rfl ?_
  refine h_iconst dX3_init_26 ci_0 ?_
  refine h_putI dX3_init_27 f_X3_22_3 p_X3_3_3 (fun h => by cases h) rfl ?_
  refine h_aload_n dX3_init_30 rfl ?_
  refine h_bipush dX3_init_31 cb_100 ?_
  refine h_naC_int (k := 2) (n := 200) (N := 100) (a := 58) (sh' := hsp 59) dX3_init_33 k1_81 rfl rfl rfl rfl ?_
  refine h_putR dX3_init_35 f_X3_25_3 p_X3_3_4 (fun _ => rfl) rfl ?_
  refine h_aload_n dX3_init_38 rfl ?_
  refine h_bipush dX3_init_39 cb_100 ?_
  refine h_naC_int (k := 1) (n := 100) (N := 100) (a := 59) (sh' := hsp 60) dX3_init_41 k1_81 rfl rfl rfl rfl ?_
  refine h_putR dX3_init_43 f_X3_28_3 p_X3_3_5 (fun _ => rfl) rfl ?_
  refine h_aload_n dX3_init_46 rfl ?_
  refine h_bipush dX3_init_47 cb_100 ?_
  refine h_naC_int (k := 0) (n := 0) (N := 100) (a := 60) (sh' := hsp 61) dX3_init_49 k1_81 rfl rfl rfl rfl ?_
  refine h_putR dX3_init_51 f_X3_31_3 p_X3_3_6 (fun _ => rfl) rfl ?_
  refine h_aload_n dX3_init_54 rfl ?_
  refine h_null dX3_init_55 ?_
  refine h_putN dX3_init_56 f_X3_34_3 p_X3_3_7 (fun h => by cases h) rfl ?_
  refine h_aload_n dX3_init_59 rfl ?_
  refine h_iconst dX3_init_60 ci_0 ?_
  refine h_putI dX3_init_61 f_X3_38_3 p_X3_3_8 (fun h => by cases h) rfl ?_
  refine h_aload_n dX3_init_64 rfl ?_
  refine h_iconst dX3_init_65 ci_0 ?_
  refine h_putI dX3_init_66 f_X3_41_3 p_X3_3_9 (fun h => by cases h) rfl ?_
  refine h_aload_n dX3_init_69 rfl ?_
  refine h_iconst dX3_init_70 ci_0 ?_
  refine h_putI dX3_init_71 f_X3_44_3 p_X3_3_10 (fun h => by cases h) rfl ?_
  refine h_aload_n dX3_init_74 rfl ?_
  refine h_iconst dX3_init_75 ci_m1 ?_
  refine h_putI dX3_init_76 f_X3_47_3 p_X3_3_11 (fun h => by cases h) rfl ?_
  refine h_aload_n dX3_init_79 rfl ?_
  refine h_iconst dX3_init_80 ci_0 ?_
  refine h_putI dX3_init_81 f_X3_50_3 p_X3_3_12 (fun h => by cases h) rfl ?_
  refine h_aload_n dX3_init_84 rfl ?_
  refine h_iconst dX3_init_85 ci_m1 ?_
  refine h_putI dX3_init_86 f_X3_53_3 p_X3_3_13 (fun h => by cases h) rfl ?_
  refine h_return dX3_init_89 rfl ?_
  exact hQ
def qI_X9_init_70 (I : hI) : hI := (clI (upI (upI (upI (upI I 70 0 (nI 0)) 70 1 (nI 0)) 70 2 (nI 0)) 70 3 (nI 0)) 71)
def qJ_X9_init_70 (J : hJ) : hJ := (clJ J 71)
def qR_X9_init_70 (R : hR) : hR := (upR (clR R 71) 70 4 (some 71))
theorem n_X9_init_70 {l : Launch} {dp : Nat} {I : hI} {J : hJ} {R : hR} {Q : hQ} (hQ : Q none (hsp 72) (qI_X9_init_70 I) (qJ_X9_init_70 J) (qR_X9_init_70 R)) : HC l mX9_init (dp + 1) 1 30 [.ref 70] (hsp 71) I J R Q := by
  refine HC.of (by decide +kernel) rfl (Nat.le_of_ble_eq_true rfl) ?_
  show HV l mX9_init (dp + 1) 1 30 0 [some (.ref 70)] [] (hsp 71) I J R Q
  refine h_aload_n dX9_init_0 rfl ?_
  refine h_oinit dX9_init_1 k1_210 k1_22 k1_23 (Nat.le_of_ble_eq_true rfl) ?_
  refine h_aload_n dX9_init_4 rfl ?_
  refine h_iconst dX9_init_5 ci_0 ?_
  refine h_putI dX9_init_6 f_X9_9_4 p_X9_4_0 (fun h => by cases h) rfl ?_
  refine h_aload_n dX9_init_9 rfl ?_
  refine h_iconst dX9_init_10 ci_0 ?_
  refine h_putI dX9_init_11 f_X9_15_4 p_X9_4_1 (fun h => by cases h) rfl ?_
  refine h_aload_n dX9_init_14 rfl ?_
  refine h_iconst dX9_init_15 ci_0 ?_
  refine h_putI dX9_init_16 f_X9_18_4 p_X9_4_2 (fun h => by cases h) rfl ?_
  refine h_aload_n dX9_init_19 rfl ?_
  refine h_iconst dX9_init_20 ci_0 ?_
  refine h_putZ dX9_init_21 f_X9_21_4 p_X9_4_3 (fun h => by cases h) rfl (by decide) ?_
  refine h_aload_n dX9_init_24 rfl ?_
  refine h_bipush dX9_init_25 cb_30 ?_
  refine h_naC_int (k := 0) (n := 0) (N := 30) (a := 71) (sh' := hsp 72) dX9_init_27 k1_81 rfl rfl rfl rfl ?_
  refine h_putR dX9_init_29 f_X9_25_4 p_X9_4_4 (fun _ => rfl) rfl ?_
  refine h_return dX9_init_32 rfl ?_
  exact hQ
def qI_X8_init_70 (I : hI) : hI := (qI_X9_init_70 I)
def qJ_X8_init_70 (J : hJ) : hJ := (qJ_X9_init_70 J)
def qR_X8_init_70 (R : hR) : hR := (qR_X9_init_70 R)
theorem n_X8_init_70 {l : Launch} {dp : Nat} {I : hI} {J : hJ} {R : hR} {Q : hQ} (hQ : Q none (hsp 72) (qI_X8_init_70 I) (qJ_X8_init_70 J) (qR_X8_init_70 R)) : HC l mX8_init (dp + 2) 1 30 [.ref 70] (hsp 71) I J R Q := by
  refine HC.of (by decide +kernel) rfl (Nat.le_of_ble_eq_true rfl) ?_
  show HV l mX8_init (dp + 2) 1 30 0 [some (.ref 70)] [] (hsp 71) I J R Q
  refine h_aload_n dX8_init_0 rfl ?_
  refine h_callIN (k := 0) (n := 0) (k' := 1) (n' := 30) (As := []) dX8_init_1 k1_207 oIX9_init rfl rfl (Nat.le_of_ble_eq_true rfl) ?_
  refine n_X9_init_70 ?_
  refine h_return dX8_init_4 rfl ?_
  exact hQ
def qI_X4_init_70 (I : hI) : hI := (qI_X8_init_70 I)
def qJ_X4_init_70 (J : hJ) : hJ := (qJ_X8_init_70 J)
def qR_X4_init_70 (R : hR) : hR := (qR_X8_init_70 R)
theorem n_X4_init_70 {l : Launch} {dp : Nat} {I : hI} {J : hJ} {R : hR} {Q : hQ} (hQ : Q none (hsp 72) (qI_X4_init_70 I) (qJ_X4_init_70 J) (qR_X4_init_70 R)) : HC l mX4_init (dp + 3) 1 30 [.ref 70] (hsp 71) I J R Q := by
  refine HC.of (by decide +kernel) rfl (Nat.le_of_ble_eq_true rfl) ?_
  show HV l mX4_init (dp + 3) 1 30 0 [some (.ref 70)] [] (hsp 71) I J R Q
  refine h_aload_n dX4_init_0 rfl ?_
  refine h_callIN (k := 0) (n := 0) (k' := 1) (n' := 30) (As := []) dX4_init_1 k1_204 oIX8_init rfl rfl (Nat.le_of_ble_eq_true rfl) ?_
  refine n_X8_init_70 ?_
  refine h_return dX4_init_4 rfl ?_
  exact hQ
def qI_X9_init_72 (I : hI) : hI := (clI (upI (upI (upI (upI I 72 0 (nI 0)) 72 1 (nI 0)) 72 2 (nI 0)) 72 3 (nI 0)) 73)
def qJ_X9_init_72 (J : hJ) : hJ := (clJ J 73)
def qR_X9_init_72 (R : hR) : hR := (upR (clR R 73) 72 4 (some 73))
theorem n_X9_init_72 {l : Launch} {dp : Nat} {I : hI} {J : hJ} {R : hR} {Q : hQ} (hQ : Q none (hsp 74) (qI_X9_init_72 I) (qJ_X9_init_72 J) (qR_X9_init_72 R)) : HC l mX9_init (dp + 1) 1 30 [.ref 72] (hsp 73) I J R Q := by
  refine HC.of (by decide +kernel) rfl (Nat.le_of_ble_eq_true rfl) ?_
  show HV l mX9_init (dp + 1) 1 30 0 [some (.ref 72)] [] (hsp 73) I J R Q
  refine h_aload_n dX9_init_0 rfl ?_
  refine h_oinit dX9_init_1 k1_210 k1_22 k1_23 (Nat.le_of_ble_eq_true rfl) ?_
  refine h_aload_n dX9_init_4 rfl ?_
  refine h_iconst dX9_init_5 ci_0 ?_
  refine h_putI dX9_init_6 f_X9_9_6 p_X9_6_0 (fun h => by cases h) rfl ?_
  refine h_aload_n dX9_init_9 rfl ?_
  refine h_iconst dX9_init_10 ci_0 ?_
  refine h_putI dX9_init_11 f_X9_15_6 p_X9_6_1 (fun h => by cases h) rfl ?_
  refine h_aload_n dX9_init_14 rfl ?_
  refine h_iconst dX9_init_15 ci_0 ?_
  refine h_putI dX9_init_16 f_X9_18_6 p_X9_6_2 (fun h => by cases h) rfl ?_
  refine h_aload_n dX9_init_19 rfl ?_
  refine h_iconst dX9_init_20 ci_0 ?_
  refine h_putZ dX9_init_21 f_X9_21_6 p_X9_6_3 (fun h => by cases h) rfl (by decide) ?_
  refine h_aload_n dX9_init_24 rfl ?_
  refine h_bipush dX9_init_25 cb_30 ?_
  refine h_naC_int (k := 0) (n := 0) (N := 30) (a := 73) (sh' := hsp 74) dX9_init_27 k1_81 rfl rfl rfl rfl ?_
  refine h_putR dX9_init_29 f_X9_25_6 p_X9_6_4 (fun _ => rfl) rfl ?_
  refine h_return dX9_init_32 rfl ?_
  exact hQ
def qI_X8_init_72 (I : hI) : hI := (qI_X9_init_72 I)
def qJ_X8_init_72 (J : hJ) : hJ := (qJ_X9_init_72 J)
def qR_X8_init_72 (R : hR) : hR := (qR_X9_init_72 R)
theorem n_X8_init_72 {l : Launch} {dp : Nat} {I : hI} {J : hJ} {R : hR} {Q : hQ} (hQ : Q none (hsp 74) (qI_X8_init_72 I) (qJ_X8_init_72 J) (qR_X8_init_72 R)) : HC l mX8_init (dp + 2) 1 30 [.ref 72] (hsp 73) I J R Q := by
  refine HC.of (by decide +kernel) rfl (Nat.le_of_ble_eq_true rfl) ?_
  show HV l mX8_init (dp + 2) 1 30 0 [some (.ref 72)] [] (hsp 73) I J R Q
  refine h_aload_n dX8_init_0 rfl ?_
  refine h_callIN (k := 0) (n := 0) (k' := 1) (n' := 30) (As := []) dX8_init_1 k1_207 oIX9_init rfl rfl (Nat.le_of_ble_eq_true rfl) ?_
  refine n_X9_init_72 ?_
  refine h_return dX8_init_4 rfl ?_
  exact hQ
def qI_X6_init_72 (I : hI) : hI := (qI_X8_init_72 I)
def qJ_X6_init_72 (J : hJ) : hJ := (qJ_X8_init_72 J)
def qR_X6_init_72 (R : hR) : hR := (qR_X8_init_72 R)
theorem n_X6_init_72 {l : Launch} {dp : Nat} {I : hI} {J : hJ} {R : hR} {Q : hQ} (hQ : Q none (hsp 74) (qI_X6_init_72 I) (qJ_X6_init_72 J) (qR_X6_init_72 R)) : HC l mX6_init (dp + 3) 1 30 [.ref 72] (hsp 73) I J R Q := by
  refine HC.of (by decide +kernel) rfl (Nat.le_of_ble_eq_true rfl) ?_
  show HV l mX6_init (dp + 3) 1 30 0 [some (.ref 72)] [] (hsp 73) I J R Q
  refine h_aload_n dX6_init_0 rfl ?_
  refine h_callIN (k := 0) (n := 0) (k' := 1) (n' := 30) (As := []) dX6_init_1 k2_40 oIX8_init rfl rfl (Nat.le_of_ble_eq_true rfl) ?_
  refine n_X8_init_72 ?_
  refine h_return dX6_init_4 rfl ?_
  exact hQ
def qI_X9_init_74 (I : hI) : hI := (clI (upI (upI (upI (upI I 74 0 (nI 0)) 74 1 (nI 0)) 74 2 (nI 0)) 74 3 (nI 0)) 75)
def qJ_X9_init_74 (J : hJ) : hJ := (clJ J 75)
def qR_X9_init_74 (R : hR) : hR := (upR (clR R 75) 74 4 (some 75))
theorem n_X9_init_74 {l : Launch} {dp : Nat} {I : hI} {J : hJ} {R : hR} {Q : hQ} (hQ : Q none (hsp 76) (qI_X9_init_74 I) (qJ_X9_init_74 J) (qR_X9_init_74 R)) : HC l mX9_init (dp + 1) 1 30 [.ref 74] (hsp 75) I J R Q := by
  refine HC.of (by decide +kernel) rfl (Nat.le_of_ble_eq_true rfl) ?_
  show HV l mX9_init (dp + 1) 1 30 0 [some (.ref 74)] [] (hsp 75) I J R Q
  refine h_aload_n dX9_init_0 rfl ?_
  refine h_oinit dX9_init_1 k1_210 k1_22 k1_23 (Nat.le_of_ble_eq_true rfl) ?_
  refine h_aload_n dX9_init_4 rfl ?_
  refine h_iconst dX9_init_5 ci_0 ?_
  refine h_putI dX9_init_6 f_X9_9_0 p_X9_0_0 (fun h => by cases h) rfl ?_
  refine h_aload_n dX9_init_9 rfl ?_
  refine h_iconst dX9_init_10 ci_0 ?_
  refine h_putI dX9_init_11 f_X9_15_0 p_X9_0_1 (fun h => by cases h) rfl ?_
  refine h_aload_n dX9_init_14 rfl ?_
  refine h_iconst dX9_init_15 ci_0 ?_
  refine h_putI dX9_init_16 f_X9_18_0 p_X9_0_2 (fun h => by cases h) rfl ?_
  refine h_aload_n dX9_init_19 rfl ?_
  refine h_iconst dX9_init_20 ci_0 ?_
  refine h_putZ dX9_init_21 f_X9_21_0 p_X9_0_3 (fun h => by cases h) rfl (by decide) ?_
  refine h_aload_n dX9_init_24 rfl ?_
  refine h_bipush dX9_init_25 cb_30 ?_
  refine h_naC_int (k := 0) (n := 0) (N := 30) (a := 75) (sh' := hsp 76) dX9_init_27 k1_81 rfl rfl rfl rfl ?_
  refine h_putR dX9_init_29 f_X9_25_0 p_X9_0_4 (fun _ => rfl) rfl ?_
  refine h_return dX9_init_32 rfl ?_
  exact hQ
def qI_X8_init_74 (I : hI) : hI := (qI_X9_init_74 I)
def qJ_X8_init_74 (J : hJ) : hJ := (qJ_X9_init_74 J)
def qR_X8_init_74 (R : hR) : hR := (qR_X9_init_74 R)
theorem n_X8_init_74 {l : Launch} {dp : Nat} {I : hI} {J : hJ} {R : hR} {Q : hQ} (hQ : Q none (hsp 76) (qI_X8_init_74 I) (qJ_X8_init_74 J) (qR_X8_init_74 R)) : HC l mX8_init (dp + 2) 1 30 [.ref 74] (hsp 75) I J R Q := by
  refine HC.of (by decide +kernel) rfl (Nat.le_of_ble_eq_true rfl) ?_
  show HV l mX8_init (dp + 2) 1 30 0 [some (.ref 74)] [] (hsp 75) I J R Q
  refine h_aload_n dX8_init_0 rfl ?_
  refine h_callIN (k := 0) (n := 0) (k' := 1) (n' := 30) (As := []) dX8_init_1 k1_207 oIX9_init rfl rfl (Nat.le_of_ble_eq_true rfl) ?_
  refine n_X9_init_74 ?_
  refine h_return dX8_init_4 rfl ?_
  exact hQ
def qI_X0_init_74 (I : hI) : hI := (qI_X8_init_74 I)
def qJ_X0_init_74 (J : hJ) : hJ := (qJ_X8_init_74 J)
def qR_X0_init_74 (R : hR) : hR := (qR_X8_init_74 R)
theorem n_X0_init_74 {l : Launch} {dp : Nat} {I : hI} {J : hJ} {R : hR} {Q : hQ} (hQ : Q none (hsp 76) (qI_X0_init_74 I) (qJ_X0_init_74 J) (qR_X0_init_74 R)) : HC l mX0_init (dp + 3) 1 30 [.ref 74] (hsp 75) I J R Q := by
  refine HC.of (by decide +kernel) rfl (Nat.le_of_ble_eq_true rfl) ?_
  show HV l mX0_init (dp + 3) 1 30 0 [some (.ref 74)] [] (hsp 75) I J R Q
  refine h_aload_n dX0_init_0 rfl ?_
  refine h_callIN (k := 0) (n := 0) (k' := 1) (n' := 30) (As := []) dX0_init_1 k2_52 oIX8_init rfl rfl (Nat.le_of_ble_eq_true rfl) ?_
  refine n_X8_init_74 ?_
  refine h_return dX0_init_4 rfl ?_
  exact hQ
def qI_X9_init_76 (I : hI) : hI := (clI (upI (upI (upI (upI I 76 0 (nI 0)) 76 1 (nI 0)) 76 2 (nI 0)) 76 3 (nI 0)) 77)
def qJ_X9_init_76 (J : hJ) : hJ := (clJ J 77)
def qR_X9_init_76 (R : hR) : hR := (upR (clR R 77) 76 4 (some 77))
theorem n_X9_init_76 {l : Launch} {dp : Nat} {I : hI} {J : hJ} {R : hR} {Q : hQ} (hQ : Q none (hsp 78) (qI_X9_init_76 I) (qJ_X9_init_76 J) (qR_X9_init_76 R)) : HC l mX9_init (dp + 1) 1 30 [.ref 76] (hsp 77) I J R Q := by
  refine HC.of (by decide +kernel) rfl (Nat.le_of_ble_eq_true rfl) ?_
  show HV l mX9_init (dp + 1) 1 30 0 [some (.ref 76)] [] (hsp 77) I J R Q
  refine h_aload_n dX9_init_0 rfl ?_
  refine h_oinit dX9_init_1 k1_210 k1_22 k1_23 (Nat.le_of_ble_eq_true rfl) ?_
  refine h_aload_n dX9_init_4 rfl ?_
  refine h_iconst dX9_init_5 ci_0 ?_
  refine h_putI dX9_init_6 f_X9_9_1 p_X9_1_0 (fun h => by cases h) rfl ?_
  refine h_aload_n dX9_init_9 rfl ?_
  refine h_iconst dX9_init_10 ci_0 ?_
  refine h_putI dX9_init_11 f_X9_15_1 p_X9_1_1 (fun h => by cases h) rfl ?_
  refine h_aload_n dX9_init_14 rfl ?_
  refine h_iconst dX9_init_15 ci_0 ?_
  refine h_putI dX9_init_16 f_X9_18_1 p_X9_1_2 (fun h => by cases h) rfl ?_
  refine h_aload_n dX9_init_19 rfl ?_
  refine h_iconst dX9_init_20 ci_0 ?_
  refine h_putZ dX9_init_21 f_X9_21_1 p_X9_1_3 (fun h => by cases h) rfl (by decide) ?_
  refine h_aload_n dX9_init_24 rfl ?_
  refine h_bipush dX9_init_25 cb_30 ?_
  refine h_naC_int (k := 0) (n := 0) (N := 30) (a := 77) (sh' := hsp 78) dX9_init_27 k1_81 rfl rfl rfl rfl ?_
  refine h_putR dX9_init_29 f_X9_25_1 p_X9_1_4 (fun _ => rfl) rfl ?_
  refine h_return dX9_init_32 rfl ?_
  exact hQ
def qI_X8_init_76 (I : hI) : hI := (qI_X9_init_76 I)
def qJ_X8_init_76 (J : hJ) : hJ := (qJ_X9_init_76 J)
def qR_X8_init_76 (R : hR) : hR := (qR_X9_init_76 R)
theorem n_X8_init_76 {l : Launch} {dp : Nat} {I : hI} {J : hJ} {R : hR} {Q : hQ} (hQ : Q none (hsp 78) (qI_X8_init_76 I) (qJ_X8_init_76 J) (qR_X8_init_76 R)) : HC l mX8_init (dp + 2) 1 30 [.ref 76] (hsp 77) I J R Q := by
  refine HC.of (by decide +kernel) rfl (Nat.le_of_ble_eq_true rfl) ?_
  show HV l mX8_init (dp + 2) 1 30 0 [some (.ref 76)] [] (hsp 77) I J R Q
  refine h_aload_n dX8_init_0 rfl ?_
  refine h_callIN (k := 0) (n := 0) (k' := 1) (n' := 30) (As := []) dX8_init_1 k1_207 oIX9_init rfl rfl (Nat.le_of_ble_eq_true rfl) ?_
  refine n_X9_init_76 ?_
  refine h_return dX8_init_4 rfl ?_
  exact hQ
def qI_X4_init_76 (I : hI) : hI := (qI_X8_init_76 I)
def qJ_X4_init_76 (J : hJ) : hJ := (qJ_X8_init_76 J)
def qR_X4_init_76 (R : hR) : hR := (qR_X8_init_76 R)
theorem n_X4_init_76 {l : Launch} {dp : Nat} {I : hI} {J : hJ} {R : hR} {Q : hQ} (hQ : Q none (hsp 78) (qI_X4_init_76 I) (qJ_X4_init_76 J) (qR_X4_init_76 R)) : HC l mX4_init (dp + 3) 1 30 [.ref 76] (hsp 77) I J R Q := by
  refine HC.of (by decide +kernel) rfl (Nat.le_of_ble_eq_true rfl) ?_
  show HV l mX4_init (dp + 3) 1 30 0 [some (.ref 76)] [] (hsp 77) I J R Q
  refine h_aload_n dX4_init_0 rfl ?_
  refine h_callIN (k := 0) (n := 0) (k' := 1) (n' := 30) (As := []) dX4_init_1 k1_204 oIX8_init rfl rfl (Nat.le_of_ble_eq_true rfl) ?_
  refine n_X8_init_76 ?_
  refine h_return dX4_init_4 rfl ?_
  exact hQ
def qI_X1_init_76 (I : hI) : hI := (qI_X4_init_76 I)
def qJ_X1_init_76 (J : hJ) : hJ := (qJ_X4_init_76 J)
def qR_X1_init_76 (R : hR) : hR := (qR_X4_init_76 R)
theorem n_X1_init_76 {l : Launch} {dp : Nat} {I : hI} {J : hJ} {R : hR} {Q : hQ} (hQ : Q none (hsp 78) (qI_X1_init_76 I) (qJ_X1_init_76 J) (qR_X1_init_76 R)) : HC l mX1_init (dp + 4) 1 30 [.ref 76] (hsp 77) I J R Q := by
  refine HC.of (by decide +kernel) rfl (Nat.le_of_ble_eq_true rfl) ?_
  show HV l mX1_init (dp + 4) 1 30 0 [some (.ref 76)] [] (hsp 77) I J R Q
  refine h_aload_n dX1_init_0 rfl ?_
  refine h_callIN (k := 0) (n := 0) (k' := 1) (n' := 30) (As := []) dX1_init_1 k2_64 oIX4_init rfl rfl (Nat.le_of_ble_eq_true rfl) ?_
  refine n_X4_init_76 ?_
  refine h_return dX1_init_4 rfl ?_
  exact hQ
def qI_X9_init_78 (I : hI) : hI := (clI (upI (upI (upI (upI I 78 0 (nI 0)) 78 1 (nI 0)) 78 2 (nI 0)) 78 3 (nI 0)) 79)
def qJ_X9_init_78 (J : hJ) : hJ := (clJ J 79)
def qR_X9_init_78 (R : hR) : hR := (upR (clR R 79) 78 4 (some 79))
theorem n_X9_init_78 {l : Launch} {dp : Nat} {I : hI} {J : hJ} {R : hR} {Q : hQ} (hQ : Q none (hsp 80) (qI_X9_init_78 I) (qJ_X9_init_78 J) (qR_X9_init_78 R)) : HC l mX9_init (dp + 1) 1 30 [.ref 78] (hsp 79) I J R Q := by
  refine HC.of (by decide +kernel) rfl (Nat.le_of_ble_eq_true rfl) ?_
  show HV l mX9_init (dp + 1) 1 30 0 [some (.ref 78)] [] (hsp 79) I J R Q
  refine h_aload_n dX9_init_0 rfl ?_
  refine h_oinit dX9_init_1 k1_210 k1_22 k1_23 (Nat.le_of_ble_eq_true rfl) ?_
  refine h_aload_n dX9_init_4 rfl ?_
  refine h_iconst dX9_init_5 ci_0 ?_
  refine h_putI dX9_init_6 f_X9_9_2 p_X9_2_0 (fun h => by cases h) rfl ?_
  refine h_aload_n dX9_init_9 rfl ?_
  refine h_iconst dX9_init_10 ci_0 ?_
  refine h_putI dX9_init_11 f_X9_15_2 p_X9_2_1 (fun h => by cases h) rfl ?_
  refine h_aload_n dX9_init_14 rfl ?_
  refine h_iconst dX9_init_15 ci_0 ?_
  refine h_putI dX9_init_16 f_X9_18_2 p_X9_2_2 (fun h => by cases h) rfl ?_
  refine h_aload_n dX9_init_19 rfl ?_
  refine h_iconst dX9_init_20 ci_0 ?_
  refine h_putZ dX9_init_21 f_X9_21_2 p_X9_2_3 (fun h => by cases h) rfl (by decide) ?_
  refine h_aload_n dX9_init_24 rfl ?_
  refine h_bipush dX9_init_25 cb_30 ?_
  refine h_naC_int (k := 0) (n := 0) (N := 30) (a := 79) (sh' := hsp 80) dX9_init_27 k1_81 rfl rfl rfl rfl ?_
  refine h_putR dX9_init_29 f_X9_25_2 p_X9_2_4 (fun _ => rfl) rfl ?_
  refine h_return dX9_init_32 rfl ?_
  exact hQ
def qI_X8_init_78 (I : hI) : hI := (qI_X9_init_78 I)
def qJ_X8_init_78 (J : hJ) : hJ := (qJ_X9_init_78 J)
def qR_X8_init_78 (R : hR) : hR := (qR_X9_init_78 R)
theorem n_X8_init_78 {l : Launch} {dp : Nat} {I : hI} {J : hJ} {R : hR} {Q : hQ} (hQ : Q none (hsp 80) (qI_X8_init_78 I) (qJ_X8_init_78 J) (qR_X8_init_78 R)) : HC l mX8_init (dp + 2) 1 30 [.ref 78] (hsp 79) I J R Q := by
  refine HC.of (by decide +kernel) rfl (Nat.le_of_ble_eq_true rfl) ?_
  show HV l mX8_init (dp + 2) 1 30 0 [some (.ref 78)] [] (hsp 79) I J R Q
  refine h_aload_n dX8_init_0 rfl ?_
  refine h_callIN (k := 0) (n := 0) (k' := 1) (n' := 30) (As := []) dX8_init_1 k1_207 oIX9_init rfl rfl (Nat.le_of_ble_eq_true rfl) ?_
  refine n_X9_init_78 ?_
  refine h_return dX8_init_4 rfl ?_
  exact hQ
def qI_X6_init_78 (I : hI) : hI := (qI_X8_init_78 I)
def qJ_X6_init_78 (J : hJ) : hJ := (qJ_X8_init_78 J)
def qR_X6_init_78 (R : hR) : hR := (qR_X8_init_78 R)
theorem n_X6_init_78 {l : Launch} {dp : Nat} {I : hI} {J : hJ} {R : hR} {Q : hQ} (hQ : Q none (hsp 80) (qI_X6_init_78 I) (qJ_X6_init_78 J) (qR_X6_init_78 R)) : HC l mX6_init (dp + 3) 1 30 [.ref 78] (hsp 79) I J R Q := by
  refine HC.of (by decide +kernel) rfl (Nat.le_of_ble_eq_true rfl) ?_
  show HV l mX6_init (dp + 3) 1 30 0 [some (.ref 78)] [] (hsp 79) I J R Q
  refine h_aload_n dX6_init_0 rfl ?_
  refine h_callIN (k := 0) (n := 0) (k' := 1) (n' := 30) (As := []) dX6_init_1 k2_40 oIX8_init rfl rfl (Nat.le_of_ble_eq_true rfl) ?_
  refine n_X8_init_78 ?_
  refine h_return dX6_init_4 rfl ?_
  exact hQ
def qI_X2_init_78 (I : hI) : hI := (qI_X6_init_78 I)
def qJ_X2_init_78 (J : hJ) : hJ := (qJ_X6_init_78 J)
def qR_X2_init_78 (R : hR) : hR := (qR_X6_init_78 R)
theorem n_X2_init_78 {l : Launch} {dp : Nat} {I : hI} {J : hJ} {R : hR} {Q : hQ} (hQ : Q none (hsp 80) (qI_X2_init_78 I) (qJ_X2_init_78 J) (qR_X2_init_78 R)) : HC l mX2_init (dp + 4) 1 30 [.ref 78] (hsp 79) I J R Q := by
  refine HC.of (by decide +kernel) rfl (Nat.le_of_ble_eq_true rfl) ?_
  show HV l mX2_init (dp + 4) 1 30 0 [some (.ref 78)] [] (hsp 79) I J R Q
  refine h_aload_n dX2_init_0 rfl ?_
  refine h_callIN (k := 0) (n := 0) (k' := 1) (n' := 30) (As := []) dX2_init_1 k2_76 oIX6_init rfl rfl (Nat.le_of_ble_eq_true rfl) ?_
  refine n_X6_init_78 ?_
  refine h_return dX2_init_4 rfl ?_
  exact hQ
def qI_X9_init_80 (I : hI) : hI := (clI (upI (upI (upI (upI I 80 0 (nI 0)) 80 1 (nI 0)) 80 2 (nI 0)) 80 3 (nI 0)) 81)
def qJ_X9_init_80 (J : hJ) : hJ := (clJ J 81)
def qR_X9_init_80 (R : hR) : hR := (upR (clR R 81) 80 4 (some 81))
theorem n_X9_init_80 {l : Launch} {dp : Nat} {I : hI} {J : hJ} {R : hR} {Q : hQ} (hQ : Q none (hsp 82) (qI_X9_init_80 I) (qJ_X9_init_80 J) (qR_X9_init_80 R)) : HC l mX9_init (dp + 1) 1 30 [.ref 80] (hsp 81) I J R Q := by
  refine HC.of (by decide +kernel) rfl (Nat.le_of_ble_eq_true rfl) ?_
  show HV l mX9_init (dp + 1) 1 30 0 [some (.ref 80)] [] (hsp 81) I J R Q
  refine h_aload_n dX9_init_0 rfl ?_
  refine h_oinit dX9_init_1 k1_210 k1_22 k1_23 (Nat.le_of_ble_eq_true rfl) ?_
  refine h_aload_n dX9_init_4 rfl ?_
  refine h_iconst dX9_init_5 ci_0 ?_
  refine h_putI dX9_init_6 f_X9_9_7 p_X9_7_0 (fun h => by cases h) rfl ?_
  refine h_aload_n dX9_init_9 rfl ?_
  refine h_iconst dX9_init_10 ci_0 ?_
  refine h_putI dX9_init_11 f_X9_15_7 p_X9_7_1 (fun h => by cases h) rfl ?_
  refine h_aload_n dX9_init_14 rfl ?_
  refine h_iconst dX9_init_15 ci_0 ?_
  refine h_putI dX9_init_16 f_X9_18_7 p_X9_7_2 (fun h => by cases h) rfl ?_
  refine h_aload_n dX9_init_19 rfl ?_
  refine h_iconst dX9_init_20 ci_0 ?_
  refine h_putZ dX9_init_21 f_X9_21_7 p_X9_7_3 (fun h => by cases h) rfl (by decide) ?_
  refine h_aload_n dX9_init_24 rfl ?_
  refine h_bipush dX9_init_25 cb_30 ?_
  refine h_naC_int (k := 0) (n := 0) (N := 30) (a := 81) (sh' := hsp 82) dX9_init_27 k1_81 rfl rfl rfl rfl ?_
  refine h_putR dX9_init_29 f_X9_25_7 p_X9_7_4 (fun _ => rfl) rfl ?_
  refine h_return dX9_init_32 rfl ?_
  exact hQ
def qI_X7_init_80 (I : hI) : hI := (qI_X9_init_80 I)
def qJ_X7_init_80 (J : hJ) : hJ := (qJ_X9_init_80 J)
def qR_X7_init_80 (R : hR) : hR := (qR_X9_init_80 R)
theorem n_X7_init_80 {l : Launch} {dp : Nat} {I : hI} {J : hJ} {R : hR} {Q : hQ} (hQ : Q none (hsp 82) (qI_X7_init_80 I) (qJ_X7_init_80 J) (qR_X7_init_80 R)) : HC l mX7_init (dp + 2) 1 30 [.ref 80] (hsp 81) I J R Q := by
  refine HC.of (by decide +kernel) rfl (Nat.le_of_ble_eq_true rfl) ?_
  show HV l mX7_init (dp + 2) 1 30 0 [some (.ref 80)] [] (hsp 81) I J R Q
  refine h_aload_n dX7_init_0 rfl ?_
  refine h_callIN (k := 0) (n := 0) (k' := 1) (n' := 30) (As := []) dX7_init_1 k2_88 oIX9_init rfl rfl (Nat.le_of_ble_eq_true rfl) ?_
  refine n_X9_init_80 ?_
  refine h_return dX7_init_4 rfl ?_
  exact hQ
def qI_X11_init_0 (I : hI) : hI := (qI_X7_init_80 (clI (qI_X2_init_78 (clI (qI_X1_init_76 (clI (qI_X0_init_74 (clI (qI_X6_init_72 (clI (qI_X4_init_70 (clI (upI (upI (upI (upI (upI (upI (upI (upI (clI (clI (clI (clI (clI (clI (clI (upI (clI (upI (clI (qI_X3_init_55 (clI (upI (qI_X10_init_28 (clI (qI_X10_init_1 (clI I 1)) 28)) 0 4 (nI 0)) 55)) 61) 0 7 (nI 0)) 62) 0 9 (nI 0)) 63) 64) 65) 66) 67) 68) 69) 63 0 (-1)) 63 1 (-1)) 63 2 (-1)) 63 3 (-1)) 66 0 (nI 3)) 66 1 (nI 3)) 66 2 (nI 3)) 66 3 (nI 3)) 70)) 72)) 74)) 76)) 78)) 80))
def qJ_X11_init_0 (J : hJ) : hJ := (qJ_X7_init_80 (clJ (qJ_X2_init_78 (clJ (qJ_X1_init_76 (clJ (qJ_X0_init_74 (clJ (qJ_X6_init_72 (clJ (qJ_X4_init_70 (clJ (clJ (clJ (clJ (clJ (clJ (clJ (clJ (clJ (clJ (qJ_X3_init_55 (clJ (qJ_X10_init_28 (clJ (qJ_X10_init_1 (clJ J 1)) 28)) 55)) 61) 62) 63) 64) 65) 66) 67) 68) 69) 70)) 72)) 74)) 76)) 78)) 80))
def qR_X11_init_0 (R : hR) : hR := (upR (qR_X7_init_80 (clR (upR (qR_X2_init_78 (clR (upR (qR_X1_init_76 (clR (upR (qR_X0_init_74 (clR (upR (qR_X6_init_72 (clR (upR (qR_X4_init_70 (clR (upR (upR (clR (upR (clR (upR (clR (upR (clR (upR (clR (upR (clR (upR (clR (upR (clR (upR (clR (upR (qR_X3_init_55 (clR (upR (qR_X10_init_28 (clR (upR (upR (upR (qR_X10_init_1 (clR R 1)) 0 0 (some 1)) 0 1 (some 2)) 0 2 (some 12)) 28)) 0 3 (some 28)) 55)) 0 5 (some 55)) 61) 0 6 (some 61)) 62) 0 8 (some 62)) 63) 0 10 (some 63)) 64) 0 11 (some 64)) 65) 0 12 (some 65)) 66) 0 13 (some 66)) 67) 0 14 (some 67)) 68) 0 15 (some 68)) 69) 0 16 (some 69)) 0 17 none) 70)) 69 1 (some 70)) 72)) 69 2 (some 72)) 74)) 69 3 (some 74)) 76)) 69 4 (some 76)) 78)) 69 5 (some 78)) 80)) 69 6 (some 80))
theorem n_X11_init_0 {l : Launch} {dp : Nat} {I : hI} {J : hJ} {R : hR} {Q : hQ} (hQ : Q none (hsp 82) (qI_X11_init_0 I) (qJ_X11_init_0 J) (qR_X11_init_0 R)) : HC l mX11_init (dp + 5) 81 2135 [.ref 0] (hsp 1) I J R Q := by
  refine HC.of (by decide +kernel) rfl (Nat.le_of_ble_eq_true rfl) ?_
  show HV l mX11_init (dp + 5) 81 2135 0 [some (.ref 0), none] [] (hsp 1) I J R Q
  refine h_aload_n dX11_init_0 rfl ?_
  refine h_oinit dX11_init_1 k1_21 k1_22 k1_23 (Nat.le_of_ble_eq_true rfl) ?_
  refine h_aload_n dX11_init_4 rfl ?_
  refine h_newC (k := 80) (n := 2119) (N := 16) (a := 1) (sh' := hsp 2) dX11_init_5 cl_X11_7 rfl rfl ?_
  refine h_dup dX11_init_8 rfl ?_
  refine h_callIN (k := 54) (n := 1540) (k' := 26) (n' := 579) (As := []) dX11_init_9 k1_26 oIX10_init rfl rfl (Nat.le_of_ble_eq_true rfl) ?_
  refine n_X10_init_1 ?_
  refine h_putR dX11_init_12 f_X11_10_9 p_X11_9_0 (fun _ => rfl) rfl ?_
  refine h_aload_n dX11_init_15 rfl ?_
  refine h_aload_n dX11_init_16 rfl ?_
  refine h_getR (x := 1) dX11_init_17 f_X11_10_9 rfl rfl ?_
  refine h_getR (x := 2) dX11_init_20 f_X11_16_8 rfl rfl ?_
  refine h_putR dX11_init_23 f_X11_20_9 p_X11_9_1 (fun _ => rfl) rfl ?_
  refine h_aload_n dX11_init_26 rfl ?_
  refine h_aload_n dX11_init_27 rfl ?_
  refine h_getR (x := 1) dX11_init_28 f_X11_10_9 rfl rfl ?_
  refine h_getR (x := 12) dX11_init_31 f_X11_21_8 rfl rfl ?_
  refine h_putR dX11_init_34 f_X11_25_9 p_X11_9_2 (fun _ => rfl) rfl ?_
  refine h_aload_n dX11_init_37 rfl ?_
  refine h_newC (k := 53) (n := 1524) (N := 16) (a := 28) (sh' := hsp 29) dX11_init_38 cl_X11_7 rfl rfl ?_
  refine h_dup dX11_init_41 rfl ?_
  refine h_callIN (k := 27) (n := 945) (k' := 26) (n' := 579) (As := []) dX11_init_42 k1_26 oIX10_init rfl rfl (Nat.le_of_ble_eq_true rfl) ?_
  refine n_X10_init_28 ?_
  refine h_putR dX11_init_45 f_X11_26_9 p_X11_9_3 (fun _ => rfl) rfl ?_
  refine h_aload_n dX11_init_48 rfl ?_
  refine h_iconst dX11_init_49 ci_0 ?_
  refine h_putZ dX11_init_50 f_X11_29_9 p_X11_9_4 (fun h => by cases h) rfl (by decide) ?_
  refine h_aload_n dX11_init_53 rfl ?_
  refine h_newC (k := 26) (n := 931) (N := 14) (a := 55) (sh' := hsp 56) dX11_init_54 cl_X11_33 rfl rfl ?_
  refine h_dup dX11_init_57 rfl ?_
  refine h_callIN (k := 21) (n := 615) (k' := 5) (n' := 316) (As := []) dX11_init_58 k1_196 oIX3_init rfl rfl (Nat.le_of_ble_eq_true rfl) ?_
  refine n_X3_init_55 ?_
  refine h_putR dX11_init_61 f_X11_36_9 p_X11_9_5 (fun _ => rfl) rfl ?_
  refine h_aload_n dX11_init_64 rfl ?_
  refine h_sipush dX11_init_65 cs_200 ?_
  refine h_naC_byte (k := 20) (n := 415) (N := 200) (a := 61) (sh' := hsp 62) dX11_init_68 k2_33 rfl rfl rfl rfl ?_
  refine h_putR dX11_init_70 f_X11_39_9 p_X11_9_6 (fun _ => rfl) rfl ?_
  refine h_aload_n dX11_init_73 rfl ?_
  refine h_iconst dX11_init_74 ci_0 ?_
  refine h_putI dX11_init_75 f_X11_43_9 p_X11_9_7 (fun h => by cases h) rfl ?_
  refine h_aload_n dX11_init_78 rfl ?_
  refine h_bipush dX11_init_79 cb_18 ?_
  refine h_naC_int (k := 19) (n := 397) (N := 18) (a := 62) (sh' := hsp 63) dX11_init_81 k1_81 rfl rfl rfl rfl ?_
  refine h_putR dX11_init_83 f_X11_47_9 p_X11_9_8 (fun _ => rfl) rfl ?_
  refine h_aload_n dX11_init_86 rfl ?_
  refine h_iconst dX11_init_87 ci_0 ?_
  refine h_putI dX11_init_88 f_X11_51_9 p_X11_9_9 (fun h => by cases h) rfl ?_
  refine h_aload_n dX11_init_91 rfl ?_
  refine h_iconst dX11_init_92 ci_4 ?_
  refine h_naC_int (k := 18) (n := 393) (N := 4) (a := 63) (sh' := hsp 64) dX11_init_93 k1_81 rfl rfl rfl rfl ?_
  refine h_putR dX11_init_95 f_X11_54_9 p_X11_9_10 (fun _ => rfl) rfl ?_
  refine h_aload_n dX11_init_98 rfl ?_
  refine h_iconst dX11_init_99 ci_4 ?_
  refine h_naC_int (k := 17) (n := 389) (N := 4) (a := 64) (sh' := hsp 65) dX11_init_100 k1_81 rfl rfl rfl rfl ?_
  refine h_putR dX11_init_102 f_X11_57_9 p_X11_9_11 (fun _ => rfl) rfl ?_
  refine h_aload_n dX11_init_105 rfl ?_
  refine h_sipush dX11_init_106 cs_160 ?_
  refine h_naC_long (k := 16) (n := 229) (N := 160) (a := 65) (sh' := hsp 66) dX11_init_109 k2_34 rfl rfl rfl rfl ?_
  refine h_putR dX11_init_111 f_X11_60_9 p_X11_9_12 (fun _ => rfl) rfl ?_
  refine h_aload_n dX11_init_114 rfl ?_
  refine h_iconst dX11_init_115 ci_4 ?_
  refine h_naC_int (k := 15) (n := 225) (N := 4) (a := 66) (sh' := hsp 67) dX11_init_116 k1_81 rfl rfl rfl rfl ?_
  refine h_putR dX11_init_118 f_X11_64_9 p_X11_9_13 (fun _ => rfl) rfl ?_
  refine h_aload_n dX11_init_121 rfl ?_
  refine h_iconst dX11_init_122 ci_4 ?_
  refine h_naC_int (k := 14) (n := 221) (N := 4) (a := 67) (sh' := hsp 68) dX11_init_123 k1_81 rfl rfl rfl rfl ?_
  refine h_putR dX11_init_125 f_X11_67_9 p_X11_9_14 (fun _ => rfl) rfl ?_
  refine h_aload_n dX11_init_128 rfl ?_
  refine h_iconst dX11_init_129 ci_4 ?_
  refine h_naC_int (k := 13) (n := 217) (N := 4) (a := 68) (sh' := hsp 69) dX11_init_130 k1_81 rfl rfl rfl rfl ?_
  refine h_putR dX11_init_132 f_X11_70_9 p_X11_9_15 (fun _ => rfl) rfl ?_
  refine h_aload_n dX11_init_135 rfl ?_
  refine h_bipush dX11_init_136 cb_7 ?_
  refine h_anC (k := 12) (n := 210) (N := 7) (a := 69) (sh' := hsp 70) dX11_init_138 k1_197 rfl rfl rfl rfl ?_
  refine h_putR dX11_init_141 f_X11_75_9 p_X11_9_16 (fun _ => rfl) rfl ?_
  refine h_aload_n dX11_init_144 rfl ?_
  refine h_null dX11_init_145 ?_
  refine h_putN dX11_init_146 f_X11_79_9 p_X11_9_17 (fun h => by cases h) rfl ?_
  refine h_iconst dX11_init_149 ci_0 ?_
  refine h_istore_n dX11_init_150 (Nat.le_of_ble_eq_true rfl) ?_
  refine h_iload_n dX11_init_151 rfl ?_
  refine h_iconst dX11_init_152 ci_4 ?_
  refine h_icmpge (tgt := 169) dX11_init_153 rfl (fun c => absurd c (by decide)) (fun _ => ?_)
  refine h_aload_n dX11_init_156 rfl ?_
  refine h_getR (x := 63) dX11_init_157 f_X11_54_9 rfl rfl ?_
  refine h_iload_n dX11_init_160 rfl ?_
  refine h_iconst dX11_init_161 ci_m1 ?_
  refine h_iastN (j := 0) dX11_init_162 rfl rfl (by decide) rfl ?_
  refine h_iinc (v := nI 1) dX11_init_163 rfl (nI_1 0) (Nat.le_of_ble_eq_true rfl) ?_
  refine h_goto (tgt := 151) dX11_init_166 rfl ?_
  refine h_iload_n dX11_init_151 rfl ?_
  refine h_iconst dX11_init_152 ci_4 ?_
  refine h_icmpge (tgt := 169) dX11_init_153 rfl (fun c => absurd c (by decide)) (fun _ => ?_)
  refine h_aload_n dX11_init_156 rfl ?_
  refine h_getR (x := 63) dX11_init_157 f_X11_54_9 rfl rfl ?_
  refine h_iload_n dX11_init_160 rfl ?_
  refine h_iconst dX11_init_161 ci_m1 ?_
  refine h_iastN (j := 1) dX11_init_162 rfl rfl (by decide) rfl ?_
  refine h_iinc (v := nI 2) dX11_init_163 rfl (nI_1 1) (Nat.le_of_ble_eq_true rfl) ?_
  refine h_goto (tgt := 151) dX11_init_166 rfl ?_
  refine h_iload_n dX11_init_151 rfl ?_
  refine h_iconst dX11_init_152 ci_4 ?_
  refine h_icmpge (tgt := 169) dX11_init_153 rfl (fun c => absurd c (by decide)) (fun _ => ?_)
  refine h_aload_n dX11_init_156 rfl ?_
  refine h_getR (x := 63) dX11_init_157 f_X11_54_9 rfl rfl ?_
  refine h_iload_n dX11_init_160 rfl ?_
  refine h_iconst dX11_init_161 ci_m1 ?_
  refine h_iastN (j := 2) dX11_init_162 rfl rfl (by decide) rfl ?_
  refine h_iinc (v := nI 3) dX11_init_163 rfl (nI_1 2) (Nat.le_of_ble_eq_true rfl) ?_
  refine h_goto (tgt := 151) dX11_init_166 rfl ?_
  refine h_iload_n dX11_init_151 rfl ?_
  refine h_iconst dX11_init_152 ci_4 ?_
  refine h_icmpge (tgt := 169) dX11_init_153 rfl (fun c => absurd c (by decide)) (fun _ => ?_)
  refine h_aload_n dX11_init_156 rfl ?_
  refine h_getR (x := 63) dX11_init_157 f_X11_54_9 rfl rfl ?_
  refine h_iload_n dX11_init_160 rfl ?_
  refine h_iconst dX11_init_161 ci_m1 ?_
  refine h_iastN (j := 3) dX11_init_162 rfl rfl (by decide) rfl ?_
  refine h_iinc (v := nI 4) dX11_init_163 rfl (nI_1 3) (Nat.le_of_ble_eq_true rfl) ?_
  refine h_goto (tgt := 151) dX11_init_166 rfl ?_
  refine h_iload_n dX11_init_151 rfl ?_
  refine h_iconst dX11_init_152 ci_4 ?_
  refine h_icmpge (tgt := 169) dX11_init_153 rfl (fun _ => ?_) (fun c => absurd (by decide) c)
  refine h_iconst dX11_init_169 ci_0 ?_
  refine h_istore_n dX11_init_170 (Nat.le_of_ble_eq_true rfl) ?_
  refine h_iload_n dX11_init_171 rfl ?_
  refine h_iconst dX11_init_172 ci_4 ?_
  refine h_icmpge (tgt := 189) dX11_init_173 rfl (fun c => absurd c (by decide)) (fun _ => ?_)
  refine h_aload_n dX11_init_176 rfl ?_
  refine h_getR (x := 66) dX11_init_177 f_X11_64_9 rfl rfl ?_
  refine h_iload_n dX11_init_180 rfl ?_
  refine h_iconst dX11_init_181 ci_3 ?_
  refine h_iastN (j := 0) dX11_init_182 rfl rfl (by decide) rfl ?_
  refine h_iinc (v := nI 1) dX11_init_183 rfl (nI_1 0) (Nat.le_of_ble_eq_true rfl) ?_
  refine h_goto (tgt := 171) dX11_init_186 rfl ?_
  refine h_iload_n dX11_init_171 rfl ?_
  refine h_iconst dX11_init_172 ci_4 ?_
  refine h_icmpge (tgt := 189) dX11_init_173 rfl (fun c => absurd c (by decide)) (fun _ => ?_)
  refine h_aload_n dX11_init_176 rfl ?_
  refine h_getR (x := 66) dX11_init_177 f_X11_64_9 rfl rfl ?_
  refine h_iload_n dX11_init_180 rfl ?_
  refine h_iconst dX11_init_181 ci_3 ?_
  refine h_iastN (j := 1) dX11_init_182 rfl rfl (by decide) rfl ?_
  refine h_iinc (v := nI 2) dX11_init_183 rfl (nI_1 1) (Nat.le_of_ble_eq_true rfl) ?_
  refine h_goto (tgt := 171) dX11_init_186 rfl ?_
  refine h_iload_n dX11_init_171 rfl ?_
  refine h_iconst dX11_init_172 ci_4 ?_
  refine h_icmpge (tgt := 189) dX11_init_173 rfl (fun c => absurd c (by decide)) (fun _ => ?_)
  refine h_aload_n dX11_init_176 rfl ?_
  refine h_getR (x := 66) dX11_init_177 f_X11_64_9 rfl rfl ?_
  refine h_iload_n dX11_init_180 rfl ?_
  refine h_iconst dX11_init_181 ci_3 ?_
  refine h_iastN (j := 2) dX11_init_182 rfl rfl (by decide) rfl ?_
  refine h_iinc (v := nI 3) dX11_init_183 rfl (nI_1 2) (Nat.le_of_ble_eq_true rfl) ?_
  refine h_goto (tgt := 171) dX11_init_186 rfl ?_
  refine h_iload_n dX11_init_171 rfl ?_
  refine h_iconst dX11_init_172 ci_4 ?_
  refine h_icmpge (tgt := 189) dX11_init_173 rfl (fun c => absurd c (by decide)) (fun _ => ?_)
  refine h_aload_n dX11_init_176 rfl ?_
  refine h_getR (x := 66) dX11_init_177 f_X11_64_9 rfl rfl ?_
  refine h_iload_n dX11_init_180 rfl ?_
  refine h_iconst dX11_init_181 ci_3 ?_
  refine h_iastN (j := 3) dX11_init_182 rfl rfl (by decide) rfl ?_
  refine h_iinc (v := nI 4) dX11_init_183 rfl (nI_1 3) (Nat.le_of_ble_eq_true rfl) ?_
  refine h_goto (tgt := 171) dX11_init_186 rfl ?_
  refine h_iload_n dX11_init_171 rfl ?_
  refine h_iconst dX11_init_172 ci_4 ?_
  refine h_icmpge (tgt := 189) dX11_init_173 rfl (fun _ => ?_) (fun c => absurd (by decide) c)
  refine h_aload_n dX11_init_189 rfl ?_
  refine h_getR (x := 69) dX11_init_190 f_X11_75_9 rfl rfl ?_
  refine h_iconst dX11_init_193 ci_1 ?_
  refine h_newC (k := 11) (n := 205) (N := 5) (a := 70) (sh' := hsp 71) dX11_init_194 cl_X11_83 rfl rfl ?_
  refine h_dup dX11_init_197 rfl ?_
  refine h_callIN (k := 10) (n := 175) (k' := 1) (n' := 30) (As := []) dX11_init_198 k1_201 oIX4_init rfl rfl (Nat.le_of_ble_eq_true rfl) ?_
  refine n_X4_init_70 ?_
  refine h_aastC (j := 1) dX11_init_201 rfl rfl rfl k7_115 (by unfold vp_in; decide) (by decide) ?_
  refine h_aload_n dX11_init_202 rfl ?_
  refine h_getR (x := 69) dX11_init_203 f_X11_75_9 rfl rfl ?_
  refine h_iconst dX11_init_206 ci_2 ?_
  refine h_newC (k := 9) (n := 170) (N := 5) (a := 72) (sh' := hsp 73) dX11_init_207 cl_X11_86 rfl rfl ?_
  refine h_dup dX11_init_210 rfl ?_
  refine h_callIN (k := 8) (n := 140) (k' := 1) (n' := 30) (As := []) dX11_init_211 k2_37 oIX6_init rfl rfl (Nat.le_of_ble_eq_true rfl) ?_
  refine n_X6_init_72 ?_
  refine h_aastC (j := 2) dX11_init_214 rfl rfl rfl k7_116 (by unfold vp_in; decide) (by decide) ?_
  refine h_aload_n dX11_init_215 rfl ?_
  refine h_getR (x := 69) dX11_init_216 f_X11_75_9 rfl rfl ?_
  refine h_iconst dX11_init_219 ci_3 ?_
  refine h_newC (k := 7) (n := 135) (N := 5) (a := 74) (sh' := hsp 75) dX11_init_220 cl_X11_89 rfl rfl ?_
  refine h_dup dX11_init_223 rfl ?_
  refine h_callIN (k := 6) (n := 105) (k' := 1) (n' := 30) (As := []) dX11_init_224 k2_49 oIX0_init rfl rfl (Nat.le_of_ble_eq_true rfl) ?_
  refine n_X0_init_74 ?_
  refine h_aastC (j := 3) dX11_init_227 rfl rfl rfl k7_117 (by unfold vp_in; decide) (by decide) ?_
  refine h_aload_n dX11_init_228 rfl ?_
  refine h_getR (x := 69) dX11_init_229 f_X11_75_9 rfl rfl ?_
  refine h_iconst dX11_init_232 ci_4 ?_
  refine h_newC (k := 5) (n := 100) (N := 5) (a := 76) (sh' := hsp 77) dX11_init_233 cl_X11_92 rfl rfl ?_
  refine h_dup dX11_init_236 rfl ?_
  refine h_callIN (k := 4) (n := 70) (k' := 1) (n' := 30) (As := []) dX11_init_237 k2_61 oIX1_init rfl rfl (Nat.le_of_ble_eq_true rfl) ?_
  refine n_X1_init_76 ?_
  refine h_aastC (j := 4) dX11_init_240 rfl rfl rfl k7_118 (by unfold vp_in; decide) (by decide) ?_
  refine h_aload_n dX11_init_241 rfl ?_
  refine h_getR (x := 69) dX11_init_242 f_X11_75_9 rfl rfl ?_
  refine h_iconst dX11_init_245 ci_5 ?_
  refine h_newC (k := 3) (n := 65) (N := 5) (a := 78) (sh' := hsp 79) dX11_init_246 cl_X11_95 rfl rfl ?_
  refine h_dup dX11_init_249 rfl ?_
  refine h_callIN (k := 2) (n := 35) (k' := 1) (n' := 30) (As := []) dX11_init_250 k2_73 oIX2_init rfl rfl (Nat.le_of_ble_eq_true rfl) ?_
  refine n_X2_init_78 ?_
  refine h_aastC (j := 5) dX11_init_253 rfl rfl rfl k7_119 (by unfold vp_in; decide) (by decide) ?_
  refine h_aload_n dX11_init_254 rfl ?_
  refine h_getR (x := 69) dX11_init_255 f_X11_75_9 rfl rfl ?_
  refine h_bipush dX11_init_258 cb_6 ?_
  refine h_newC (k := 1) (n := 30) (N := 5) (a := 80) (sh' := hsp 81) dX11_init_260 cl_X11_98 rfl rfl ?_
  refine h_dup dX11_init_263 rfl ?_
  refine h_callIN (k := 0) (n := 0) (k' := 1) (n' := 30) (As := []) dX11_init_264 k2_85 oIX7_init rfl rfl (Nat.le_of_ble_eq_true rfl) ?_
  refine n_X7_init_80 ?_
  refine h_aastC (j := 6) dX11_init_267 rfl rfl rfl k7_120 (by unfold vp_in; decide) (by decide) ?_
  refine h_return dX11_init_268 rfl ?_
  exact hQ
def qI_X12_init_82 (I : hI) : hI := (clI (clI (clI (clI (clI (upI (upI (upI (upI (clI (clI (clI (upI (upI (upI (upI (clI (clI (clI (clI (clI (clI (clI (clI (clI (clI (clI (clI (clI (clI (clI (clI (clI (clI (clI (clI (clI (clI I 83) 84) 85) 86) 87) 88) 89) 90) 91) 92) 93) 94) 95) 96) 97) 98) 99) 100) 101) 102) 103) 104) 104 0 (-1)) 104 1 (-1)) 104 2 (-1)) 104 3 (-1)) 105) 106) 107) 107 0 (-1)) 107 1 (-1)) 107 2 (-1)) 107 3 (-1)) 108) 109) 110) 111) 112)
def qJ_X12_init_82 (J : hJ) : hJ := (clJ (clJ (clJ (clJ (clJ (clJ (clJ (clJ (clJ (clJ (clJ (clJ (clJ (clJ (clJ (clJ (clJ (clJ (clJ (clJ (clJ (clJ (clJ (clJ (clJ (clJ (clJ (clJ (clJ (clJ J 83) 84) 85) 86) 87) 88) 89) 90) 91) 92) 93) 94) 95) 96) 97) 98) 99) 100) 101) 102) 103) 104) 105) 106) 107) 108) 109) 110) 111) 112)
def qR_X12_init_82 (R : hR) : hR := (upR (clR (upR (clR (upR (clR (upR (clR (upR (clR (upR (clR (upR (clR (upR (clR (upR (clR (upR (clR (upR (clR (upR (clR (upR (clR (upR (clR (upR (clR (upR (clR (upR (clR (upR (clR (upR (clR (upR (clR (upR (clR (upR (clR (upR (clR (upR (clR (upR (clR (upR (clR (upR (clR (upR (clR (upR (clR (upR (clR R 83) 82 1 (some 83)) 84) 82 3 (some 84)) 85) 82 5 (some 85)) 86) 82 8 (some 86)) 87) 82 10 (some 87)) 88) 82 11 (some 88)) 89) 82 12 (some 89)) 90) 82 13 (some 90)) 91) 82 14 (some 91)) 92) 82 15 (some 92)) 93) 82 18 (some 93)) 94) 82 19 (some 94)) 95) 82 20 (some 95)) 96) 82 21 (some 96)) 97) 82 28 (some 97)) 98) 82 29 (some 98)) 99) 82 30 (some 99)) 100) 82 31 (some 100)) 101) 82 34 (some 101)) 102) 82 35 (some 102)) 103) 82 36 (some 103)) 104) 82 38 (some 104)) 105) 82 39 (some 105)) 106) 82 40 (some 106)) 107) 82 41 (some 107)) 108) 82 42 (some 108)) 109) 82 43 (some 109)) 110) 82 47 (some 110)) 111) 82 51 (some 111)) 112) 82 53 (some 112))
theorem n_X12_init_82 {l : Launch} {dp : Nat} {I : hI} {J : hJ} {R : hR} {Q : hQ} (hQ : Q none (hsp 113) (qI_X12_init_82 I) (qJ_X12_init_82 J) (qR_X12_init_82 R)) : HC l mX12_init (dp + 1) 30 2090 [.ref 82] (hsp 83) I J R Q := by
  refine HC.of (by decide +kernel) rfl (Nat.le_of_ble_eq_true rfl) ?_
  show HV l mX12_init (dp + 1) 30 2090 0 [some (.ref 82)] [] (hsp 83) I J R Q
  refine h_aload_n dX12_init_0 rfl ?_
  refine h_oinit dX12_init_1 k5_3 k1_22 k1_23 (Nat.le_of_ble_eq_true rfl) ?_
  refine h_aload_n dX12_init_4 rfl ?_
  refine h_bipush dX12_init_5 cb_6 ?_
  refine h_naC_int (k := 29) (n := 2084) (N := 6) (a := 83) (sh' := hsp 84) dX12_init_7 k1_81 rfl rfl rfl rfl ?_
  refine h_putR dX12_init_9 f_X12_7_10 p_X12_10_1 (fun _ => rfl) rfl ?_
  refine h_aload_n dX12_init_12 rfl ?_
  refine h_bipush dX12_init_13 cb_48 ?_
  refine h_naC_int (k := 28) (n := 2036) (N := 48) (a := 84) (sh' := hsp 85) dX12_init_15 k1_81 rfl rfl rfl rfl ?_
  refine h_putR dX12_init_17 f_X12_13_10 p_X12_10_3 (fun _ => rfl) rfl ?_
  refine h_aload_n dX12_init_20 rfl ?_
  refine h_bipush dX12_init_21 cb_16 ?_
  refine h_naC_int (k := 27) (n := 2020) (N := 16) (a := 85) (sh' := hsp 86) dX12_init_23 k1_81 rfl rfl rfl rfl ?_
  refine h_putR dX12_init_25 f_X12_16_10 p_X12_10_5 (fun _ => rfl) rfl ?_
  refine h_aload_n dX12_init_28 rfl ?_
  refine h_sipush dX12_init_29 cs_168 ?_
  refine h_naC_int (k := 26) (n := 1852) (N := 168) (a := 86) (sh' := hsp 87) dX12_init_32 k1_81 rfl rfl rfl rfl ?_
  refine h_putR dX12_init_34 f_X12_19_10 p_X12_10_8 (fun _ => rfl) rfl ?_
  refine h_aload_n dX12_init_37 rfl ?_
  refine h_bipush dX12_init_38 cb_8 ?_
  refine h_naC_int (k := 25) (n := 1844) (N := 8) (a := 87) (sh' := hsp 88) dX12_init_40 k1_81 rfl rfl rfl rfl ?_
  refine h_putR dX12_init_42 f_X12_22_10 p_X12_10_10 (fun _ => rfl) rfl ?_
  refine h_aload_n dX12_init_45 rfl ?_
  refine h_bipush dX12_init_46 cb_8 ?_
  refine h_naC_int (k := 24) (n := 1836) (N := 8) (a := 88) (sh' := hsp 89) dX12_init_48 k1_81 rfl rfl rfl rfl ?_
  refine h_putR dX12_init_50 f_X12_25_10 p_X12_10_11 (fun _ => rfl) rfl ?_
  refine h_aload_n dX12_init_53 rfl ?_
  refine h_sipush dX12_init_54 cs_210 ?_
  refine h_naC_int (k := 23) (n := 1626) (N := 210) (a := 89) (sh' := hsp 90) dX12_init_57 k1_81 rfl rfl rfl rfl ?_
  refine h_putR dX12_init_59 f_X12_28_10 p_X12_10_12 (fun _ => rfl) rfl ?_
  refine h_aload_n dX12_init_62 rfl ?_
  refine h_bipush dX12_init_63 cb_6 ?_
  refine h_naC_int (k := 22) (n := 1620) (N := 6) (a := 90) (sh' := hsp 91) dX12_init_65 k1_81 rfl rfl rfl rfl ?_
  refine h_putR dX12_init_67 f_X12_31_10 p_X12_10_13 (fun _ => rfl) rfl ?_
  refine h_aload_n dX12_init_70 rfl ?_
  refine h_bipush dX12_init_71 cb_6 ?_
  refine h_naC_int (k := 21) (n := 1614) (N := 6) (a := 91) (sh' := hsp 92) dX12_init_73 k1_81 rfl rfl rfl rfl ?_
  refine h_putR dX12_init_75 f_X12_34_10 p_X12_10_14 (fun _ => rfl) rfl ?_
  refine h_aload_n dX12_init_78 rfl ?_
  refine h_bipush dX12_init_79 cb_6 ?_
  refine h_naC_int (k := 20) (n := 1608) (N := 6) (a := 92) (sh' := hsp 93) dX12_init_81 k1_81 rfl rfl rfl rfl ?_
  refine h_putR dX12_init_83 f_X12_37_10 p_X12_10_15 (fun _ => rfl) rfl ?_
  refine h_aload_n dX12_init_86 rfl ?_
  refine h_bipush dX12_init_87 cb_8 ?_
  refine h_naC_int (k := 19) (n := 1600) (N := 8) (a := 93) (sh' := hsp 94) dX12_init_89 k1_81 rfl rfl rfl rfl ?_
  refine h_putR dX12_init_91 f_X12_40_10 p_X12_10_18 (fun _ => rfl) rfl ?_
  refine h_aload_n dX12_init_94 rfl ?_
  refine h_bipush dX12_init_95 cb_8 ?_
  refine h_naC_int (k := 18) (n := 1592) (N := 8) (a := 94) (sh' := hsp 95) dX12_init_97 k1_81 rfl rfl rfl rfl ?_
  refine h_putR dX12_init_99 f_X12_43_10 p_X12_10_19 (fun _ => rfl) rfl ?_
  refine h_aload_n dX12_init_102 rfl ?_
  refine h_bipush dX12_init_103 cb_8 ?_
  refine h_naC_bool (k := 17) (n := 1584) (N := 8) (a := 95) (sh' := hsp 96) dX12_init_105 k5_167 rfl rfl rfl rfl ?_
  refine h_putR dX12_init_107 f_X12_46_10 p_X12_10_20 (fun _ => rfl) rfl ?_
  refine h_aload_n dX12_init_110 rfl ?_
  refine h_sipush dX12_init_111 cs_200 ?_
  refine h_naC_int (k := 16) (n := 1384) (N := 200) (a := 96) (sh' := hsp 97) dX12_init_114 k1_81 rfl rfl rfl rfl ?_
  refine h_putR dX12_init_116 f_X12_50_10 p_X12_10_21 (fun _ => rfl) rfl ?_
  refine h_aload_n dX12_init_119 rfl ?_
  refine h_sipush dX12_init_120 cs_210 ?_
  refine h_naC_int (k := 15) (n := 1174) (N := 210) (a := 97) (sh' := hsp 98) dX12_init_123 k1_81 rfl rfl rfl rfl ?_
  refine h_putR dX12_init_125 f_X12_53_10 p_X12_10_28 (fun _ => rfl) rfl ?_
  refine h_aload_n dX12_init_128 rfl ?_
  refine h_sipush dX12_init_129 cs_210 ?_
  refine h_naC_int (k := 14) (n := 964) (N := 210) (a := 98) (sh' := hsp 99) dX12_init_132 k1_81 rfl rfl rfl rfl ?_
  refine h_putR dX12_init_134 f_X12_56_10 p_X12_10_29 (fun _ => rfl) rfl ?_
  refine h_aload_n dX12_init_137 rfl ?_
  refine h_bipush dX12_init_138 cb_8 ?_
  refine h_naC_int (k := 13) (n := 956) (N := 8) (a := 99) (sh' := hsp 100) dX12_init_140 k1_81 rfl rfl rfl rfl ?_
  refine h_putR dX12_init_142 f_X12_59_10 p_X12_10_30 (fun _ => rfl) rfl ?_
  refine h_aload_n dX12_init_145 rfl ?_
  refine h_bipush dX12_init_146 cb_8 ?_
  refine h_naC_int (k := 12) (n := 948) (N := 8) (a := 100) (sh' := hsp 101) dX12_init_148 k1_81 rfl rfl rfl rfl ?_
  refine h_putR dX12_init_150 f_X12_62_10 p_X12_10_31 (fun _ => rfl) rfl ?_
  refine h_aload_n dX12_init_153 rfl ?_
  refine h_iconst dX12_init_154 ci_4 ?_
  refine h_naC_int (k := 11) (n := 944) (N := 4) (a := 101) (sh' := hsp 102) dX12_init_155 k1_81 rfl rfl rfl rfl ?_
  refine h_putR dX12_init_157 f_X12_65_10 p_X12_10_34 (fun _ => rfl) rfl ?_
  refine h_aload_n dX12_init_160 rfl ?_
  refine h_sipush dX12_init_161 cs_210 ?_
  refine h_naC_int (k := 10) (n := 734) (N := 210) (a := 102) (sh' := hsp 103) dX12_init_164 k1_81 rfl rfl rfl rfl ?_
  refine h_putR dX12_init_166 f_X12_68_10 p_X12_10_35 (fun _ => rfl) rfl ?_
  refine h_aload_n dX12_init_169 rfl ?_
  refine h_bipush dX12_init_170 cb_18 ?_
  refine h_naC_int (k := 9) (n := 716) (N := 18) (a := 103) (sh' := hsp 104) dX12_init_172 k1_81 rfl rfl rfl rfl ?_
  refine h_putR dX12_init_174 f_X12_71_10 p_X12_10_36 (fun _ => rfl) rfl ?_
  refine h_aload_n dX12_init_177 rfl ?_
  refine h_iconst dX12_init_178 ci_4 ?_
  refine h_naC_int (k := 8) (n := 712) (N := 4) (a := 104) (sh' := hsp 105) dX12_init_179 k1_81 rfl rfl rfl rfl ?_
  refine h_dup dX12_init_181 rfl ?_
  refine h_iconst dX12_init_182 ci_0 ?_
  refine h_iconst dX12_init_183 ci_m1 ?_
  refine h_iastN (j := 0) dX12_init_184 rfl rfl (by decide) rfl ?_
  refine h_dup dX12_init_185 rfl ?_
  refine h_iconst dX12_init_186 ci_1 ?_
  refine h_iconst dX12_init_187 ci_m1 ?_
  refine h_iastN (j := 1) dX12_init_188 rfl rfl (by decide) rfl ?_
  refine h_dup dX12_init_189 rfl ?_
  refine h_iconst dX12_init_190 ci_2 ?_
  refine h_iconst dX12_init_191 ci_m1 ?_
  refine h_iastN (j := 2) dX12_init_192 rfl rfl (by decide) rfl ?_
  refine h_dup dX12_init_193 rfl ?_
  refine h_iconst dX12_init_194 ci_3 ?_
  refine h_iconst dX12_init_195 ci_m1 ?_
  refine h_iastN (j := 3) dX12_init_196 rfl rfl (by decide) rfl ?_
  refine h_putR dX12_init_197 f_X12_74_10 p_X12_10_38 (fun _ => rfl) rfl ?_
  refine h_aload_n dX12_init_200 rfl ?_
  refine h_iconst dX12_init_201 ci_4 ?_
  refine h_naC_int (k := 7) (n := 708) (N := 4) (a := 105) (sh' := hsp 106) dX12_init_202 k1_81 rfl rfl rfl rfl ?_
  refine h_putR dX12_init_204 f_X12_77_10 p_X12_10_39 (fun _ => rfl) rfl ?_
  refine h_aload_n dX12_init_207 rfl ?_
  refine h_sipush dX12_init_208 cs_160 ?_
  refine h_naC_long (k := 6) (n := 548) (N := 160) (a := 106) (sh' := hsp 107) dX12_init_211 k2_34 rfl rfl rfl rfl ?_
  refine h_putR dX12_init_213 f_X12_80_10 p_X12_10_40 (fun _ => rfl) rfl ?_
  refine h_aload_n dX12_init_216 rfl ?_
  refine h_iconst dX12_init_217 ci_4 ?_
  refine h_naC_int (k := 5) (n := 544) (N := 4) (a := 107) (sh' := hsp 108) dX12_init_218 k1_81 rfl rfl rfl rfl ?_
  refine h_dup dX12_init_220 rfl ?_
  refine h_iconst dX12_init_221 ci_0 ?_
  refine h_iconst dX12_init_222 ci_m1 ?_
  refine h_iastN (j := 0) dX12_init_223 rfl rfl (by decide) rfl ?_
  refine h_dup dX12_init_224 rfl ?_
  refine h_iconst dX12_init_225 ci_1 ?_
  refine h_iconst dX12_init_226 ci_m1 ?_
  refine h_iastN (j := 1) dX12_init_227 rfl rfl (by decide) rfl ?_
  refine h_dup dX12_init_228 rfl ?_
  refine h_iconst dX12_init_229 ci_2 ?_
  refine h_iconst dX12_init_230 ci_m1 ?_
  refine h_iastN (j := 2) dX12_init_231 rfl rfl (by decide) rfl ?_
  refine h_dup dX12_init_232 rfl ?_
  refine h_iconst dX12_init_233 ci_3 ?_
  refine h_iconst dX12_init_234 ci_m1 ?_
  refine h_iastN (j := 3) dX12_init_235 rfl rfl (by decide) rfl ?_
  refine h_putR dX12_init_236 f_X12_84_10 p_X12_10_41 (fun _ => rfl) rfl ?_
  refine h_aload_n dX12_init_239 rfl ?_
  refine h_iconst dX12_init_240 ci_4 ?_
  refine h_naC_int (k := 4) (n := 540) (N := 4) (a := 108) (sh' := hsp 109) dX12_init_241 k1_81 rfl rfl rfl rfl ?_
  refine h_putR dX12_init_243 f_X12_87_10 p_X12_10_42 (fun _ => rfl) rfl ?_
  refine h_aload_n dX12_init_246 rfl ?_
  refine h_iconst dX12_init_247 ci_4 ?_
  refine h_naC_int (k := 3) (n := 536) (N := 4) (a := 109) (sh' := hsp 110) dX12_init_248 k1_81 rfl rfl rfl rfl ?_
  refine h_putR dX12_init_250 f_X12_90_10 p_X12_10_43 (fun _ => rfl) rfl ?_
  refine h_aload_n dX12_init_253 rfl ?_
  refine h_bipush dX12_init_254 cb_30 ?_
  refine h_naC_int (k := 2) (n := 506) (N := 30) (a := 110) (sh' := hsp 111) dX12_init_256 k1_81 rfl rfl rfl rfl ?_
  refine h_putR dX12_init_258 f_X12_93_10 p_X12_10_47 (fun _ => rfl) rfl ?_
  refine h_aload_n dX12_init_261 rfl ?_
  refine h_sipush dX12_init_262 cs_500 ?_
  refine h_naC_int (k := 1) (n := 6) (N := 500) (a := 111) (sh' := hsp 112) dX12_init_265 k1_81 rfl rfl rfl rfl ?_
  refine h_putR dX12_init_267 f_X12_96_10 p_X12_10_51 (fun _ => rfl) rfl ?_
  refine h_aload_n dX12_init_270 rfl ?_
  refine h_bipush dX12_init_271 cb_6 ?_
  refine h_naC_int (k := 0) (n := 0) (N := 6) (a := 112) (sh' := hsp 113) dX12_init_273 k1_81 rfl rfl rfl rfl ?_
  refine h_putR dX12_init_275 f_X12_99_10 p_X12_10_53 (fun _ => rfl) rfl ?_
  refine h_return dX12_init_278 rfl ?_
  exact hQ
