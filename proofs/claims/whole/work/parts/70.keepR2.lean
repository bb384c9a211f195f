section MVI
variable {I : hI} {a0 a1 sp dp n x : Nat}
theorem mv_a {a : Nat} (h1 : a ≠ a1) (h2 : a ≠ 82) : mvI I a0 a1 sp dp n x a = I a := by
  unfold mvI
  rw [upI_n _ _ _ h2, upA_n _ _ h1]
theorem mv_f {j : Nat} (h1 : (82 : Nat) ≠ a1) (h2 : j ≠ 52) : mvI I a0 a1 sp dp n x 82 j = I 82 j := by
  unfold mvI
  rw [upI_s, upd_n _ _ h2, upA_n _ _ h1]
theorem mv_x : mvI I a0 a1 sp dp n x 82 52 = nI x := by
  unfold mvI
  rw [upI_s, upd_s]
theorem mv_i {j : Nat} (h1 : a1 ≠ 82) (hj : j < n) : mvI I a0 a1 sp dp n x a1 (dp + j) = I a0 (sp + j) := by
  unfold mvI
  rw [upI_n _ _ _ h1, upA_s]
  unfold va_cpy
  rw [if_pos ⟨by omega, by omega⟩]
  congr 1
  omega
theorem mv_i0 {j : Nat} (h1 : a1 ≠ 82) (hj : j < n) : mvI I a0 a1 sp 0 n x a1 j = I a0 (sp + j) := by
  have e := mv_i (I := I) (a0 := a0) (sp := sp) (dp := 0) (x := x) h1 hj
  rw [Nat.zero_add] at e
  exact e
theorem mv_j {j : Nat} (h1 : a1 ≠ 82) (hj : j < n) : mvI I a0 a1 0 dp n x a1 (dp + j) = I a0 j := by
  have e := mv_i (I := I) (a0 := a0) (sp := 0) (dp := dp) (x := x) h1 hj
  rw [Nat.zero_add] at e
  exact e
theorem mv_o {j : Nat} (h1 : a1 ≠ 82) (hj : j < dp ∨ dp + n ≤ j) : mvI I a0 a1 sp dp n x a1 j = I a1 j := by
  unfold mvI
  rw [upI_n _ _ _ h1, upA_s]
  unfold va_cpy
  rw [if_neg (by omega)]
end MVI
theorem r_mv112_1 {l : Launch} {dp x : Nat} {I : hI} {J : hJ} {lt tx : Option Nat} {Q : hQ} (hx : I 82 52 = nI x) (hb : x + 6 ≤ 500) (hQ : ∀ I2, I2 = mvI I 112 111 0 x 6 (x + 6) → Q none hSH I2 J (hRR lt tx)) : HC l mX12_move dp 0 0 [.ref 82, .ref 112, .int (nI 6), .int (nI 1)] hSH I J (hRR lt tx) Q := r_move112_1 hx hb (hQ _ rfl)
theorem r_mv112_0 {l : Launch} {dp x : Nat} {I : hI} {J : hJ} {lt tx : Option Nat} {Q : hQ} (hx : I 82 52 = nI x) (hb : x + 6 ≤ 500) (hQ : ∀ I2, I2 = mvI I 111 112 x 0 6 (x + 6) → Q none hSH I2 J (hRR lt tx)) : HC l mX12_move dp 0 0 [.ref 82, .ref 112, .int (nI 6), .int (nI 0)] hSH I J (hRR lt tx) Q := r_move112_0 hx hb (hQ _ rfl)
theorem r_mv83_1 {l : Launch} {dp x : Nat} {I : hI} {J : hJ} {lt tx : Option Nat} {Q : hQ} (hx : I 82 52 = nI x) (hb : x + 6 ≤ 500) (hQ : ∀ I2, I2 = mvI I 83 111 0 x 6 (x + 6) → Q none hSH I2 J (hRR lt tx)) : HC l mX12_move dp 0 0 [.ref 82, .ref 83, .int (nI 6), .int (nI 1)] hSH I J (hRR lt tx) Q := r_move83_1 hx hb (hQ _ rfl)
theorem r_mv83_0 {l : Launch} {dp x : Nat} {I : hI} {J : hJ} {lt tx : Option Nat} {Q : hQ} (hx : I 82 52 = nI x) (hb : x + 6 ≤ 500) (hQ : ∀ I2, I2 = mvI I 111 83 x 0 6 (x + 6) → Q none hSH I2 J (hRR lt tx)) : HC l mX12_move dp 0 0 [.ref 82, .ref 83, .int (nI 6), .int (nI 0)] hSH I J (hRR lt tx) Q := r_move83_0 hx hb (hQ _ rfl)
theorem r_mv84_1 {l : Launch} {dp x : Nat} {I : hI} {J : hJ} {lt tx : Option Nat} {Q : hQ} (hx : I 82 52 = nI x) (hb : x + 48 ≤ 500) (hQ : ∀ I2, I2 = mvI I 84 111 0 x 48 (x + 48) → Q none hSH I2 J (hRR lt tx)) : HC l mX12_move dp 0 0 [.ref 82, .ref 84, .int (nI 48), .int (nI 1)] hSH I J (hRR lt tx) Q := r_move84_1 hx hb (hQ _ rfl)
theorem r_mv84_0 {l : Launch} {dp x : Nat} {I : hI} {J : hJ} {lt tx : Option Nat} {Q : hQ} (hx : I 82 52 = nI x) (hb : x + 48 ≤ 500) (hQ : ∀ I2, I2 = mvI I 111 84 x 0 48 (x + 48) → Q none hSH I2 J (hRR lt tx)) : HC l mX12_move dp 0 0 [.ref 82, .ref 84, .int (nI 48), .int (nI 0)] hSH I J (hRR lt tx) Q := r_move84_0 hx hb (hQ _ rfl)
theorem r_mv85_1 {l : Launch} {dp x : Nat} {I : hI} {J : hJ} {lt tx : Option Nat} {Q : hQ} (hx : I 82 52 = nI x) (hb : x + 16 ≤ 500) (hQ : ∀ I2, I2 = mvI I 85 111 0 x 16 (x + 16) → Q none hSH I2 J (hRR lt tx)) : HC l mX12_move dp 0 0 [.ref 82, .ref 85, .int (nI 16), .int (nI 1)] hSH I J (hRR lt tx) Q := r_move85_1 hx hb (hQ _ rfl)
theorem r_mv85_0 {l : Launch} {dp x : Nat} {I : hI} {J : hJ} {lt tx : Option Nat} {Q : hQ} (hx : I 82 52 = nI x) (hb : x + 16 ≤ 500) (hQ : ∀ I2, I2 = mvI I 111 85 x 0 16 (x + 16) → Q none hSH I2 J (hRR lt tx)) : HC l mX12_move dp 0 0 [.ref 82, .ref 85, .int (nI 16), .int (nI 0)] hSH I J (hRR lt tx) Q := r_move85_0 hx hb (hQ _ rfl)
theorem r_mv86_1 {l : Launch} {dp x : Nat} {I : hI} {J : hJ} {lt tx : Option Nat} {Q : hQ} (hx : I 82 52 = nI x) (hb : x + 168 ≤ 500) (hQ : ∀ I2, I2 = mvI I 86 111 0 x 168 (x + 168) → Q none hSH I2 J (hRR lt tx)) : HC l mX12_move dp 0 0 [.ref 82, .ref 86, .int (nI 168), .int (nI 1)] hSH I J (hRR lt tx) Q := r_move86_1 hx hb (hQ _ rfl)
theorem r_mv86_0 {l : Launch} {dp x : Nat} {I : hI} {J : hJ} {lt tx : Option Nat} {Q : hQ} (hx : I 82 52 = nI x) (hb : x + 168 ≤ 500) (hQ : ∀ I2, I2 = mvI I 111 86 x 0 168 (x + 168) → Q none hSH I2 J (hRR lt tx)) : HC l mX12_move dp 0 0 [.ref 82, .ref 86, .int (nI 168), .int (nI 0)] hSH I J (hRR lt tx) Q := r_move86_0 hx hb (hQ _ rfl)
theorem r_mv87_1 {l : Launch} {dp x : Nat} {I : hI} {J : hJ} {lt tx : Option Nat} {Q : hQ} (hx : I 82 52 = nI x) (hb : x + 8 ≤ 500) (hQ : ∀ I2, I2 = mvI I 87 111 0 x 8 (x + 8) → Q none hSH I2 J (hRR lt tx)) : HC l mX12_move dp 0 0 [.ref 82, .ref 87, .int (nI 8), .int (nI 1)] hSH I J (hRR lt tx) Q := r_move87_1 hx hb (hQ _ rfl)
theorem r_mv87_0 {l : Launch} {dp x : Nat} {I : hI} {J : hJ} {lt tx : Option Nat} {Q : hQ} (hx : I 82 52 = nI x) (hb : x + 8 ≤ 500) (hQ : ∀ I2, I2 = mvI I 111 87 x 0 8 (x + 8) → Q none hSH I2 J (hRR lt tx)) : HC l mX12_move dp 0 0 [.ref 82, .ref 87, .int (nI 8), .int (nI 0)] hSH I J (hRR lt tx) Q := r_move87_0 hx hb (hQ _ rfl)
theorem r_mv88_1 {l : Launch} {dp x : Nat} {I : hI} {J : hJ} {lt tx : Option Nat} {Q : hQ} (hx : I 82 52 = nI x) (hb : x + 8 ≤ 500) (hQ : ∀ I2, I2 = mvI I 88 111 0 x 8 (x + 8) → Q none hSH I2 J (hRR lt tx)) : HC l mX12_move dp 0 0 [.ref 82, .ref 88, .int (nI 8), .int (nI 1)] hSH I J (hRR lt tx) Q := r_move88_1 hx hb (hQ _ rfl)
theorem r_mv88_0 {l : Launch} {dp x : Nat} {I : hI} {J : hJ} {lt tx : Option Nat} {Q : hQ} (hx : I 82 52 = nI x) (hb : x + 8 ≤ 500) (hQ : ∀ I2, I2 = mvI I 111 88 x 0 8 (x + 8) → Q none hSH I2 J (hRR lt tx)) : HC l mX12_move dp 0 0 [.ref 82, .ref 88, .int (nI 8), .int (nI 0)] hSH I J (hRR lt tx) Q := r_move88_0 hx hb (hQ _ rfl)
theorem r_mv89_1 {l : Launch} {dp x : Nat} {I : hI} {J : hJ} {lt tx : Option Nat} {Q : hQ} (hx : I 82 52 = nI x) (hb : x + 210 ≤ 500) (hQ : ∀ I2, I2 = mvI I 89 111 0 x 210 (x + 210) → Q none hSH I2 J (hRR lt tx)) : HC l mX12_move dp 0 0 [.ref 82, .ref 89, .int (nI 210), .int (nI 1)] hSH I J (hRR lt tx) Q := r_move89_1 hx hb (hQ _ rfl)
theorem r_mv89_0 {l : Launch} {dp x : Nat} {I : hI} {J : hJ} {lt tx : Option Nat} {Q : hQ} (hx : I 82 52 = nI x) (hb : x + 210 ≤ 500) (hQ : ∀ I2, I2 = mvI I 111 89 x 0 210 (x + 210) → Q none hSH I2 J (hRR lt tx)) : HC l mX12_move dp 0 0 [.ref 82, .ref 89, .int (nI 210), .int (nI 0)] hSH I J (hRR lt tx) Q := r_move89_0 hx hb (hQ _ rfl)
theorem r_moveAll1 {l : Launch} {dp : Nat} {I : hI} {J : hJ} {lt tx : Option Nat} {Q : hQ} (hQ : ∀ I', (∀ a, a ≠ 111 → a ≠ 112 → a ≠ 82 → I' a = I a) → (∀ j, j ≠ 52 → I' 82 j = I 82 j) → I' 111 0 = I 82 0 → I' 111 1 = I 82 2 → I' 111 2 = I 82 4 → I' 111 3 = I 82 7 → I' 111 4 = I 82 9 → I' 111 5 = I 82 6 → (∀ j, j < 6 → I' 111 (6 + j) = I 83 j) → (∀ j, j < 48 → I' 111 (12 + j) = I 84 j) → (∀ j, j < 16 → I' 111 (60 + j) = I 85 j) → (∀ j, j < 168 → I' 111 (76 + j) = I 86 j) → (∀ j, j < 8 → I' 111 (244 + j) = I 87 j) → (∀ j, j < 8 → I' 111 (252 + j) = I 88 j) → (∀ j, j < 210 → I' 111 (260 + j) = I 89 j) → Q none hSH I' J (hRR lt tx))  : HC l mX12_moveAll (dp + 1) 0 0 [.ref 82, .int (nI 1)] hSH I J (hRR lt tx) Q := by
  refine HC.of (by decide +kernel) rfl (Nat.le_of_ble_eq_true rfl) ?_
  show HV l mX12_moveAll (dp + 1) 0 0 0 [some (.ref 82), some (.int (nI 1))] [] hSH I J (hRR lt tx) Q
  refine h_aload_n dX12_moveAll_0 rfl ?_
  refine h_iconst dX12_moveAll_1 ci_0 ?_
  refine h_putI dX12_moveAll_2 f_X12_404_10 p_X12_10_52 (fun h => by cases h) rfl ?_
  refine h_aload_n dX12_moveAll_5 rfl ?_
  refine h_getR dX12_moveAll_6 f_X12_99_10 rfl rfl ?_
  refine h_iconst dX12_moveAll_9 ci_0 ?_
  refine h_aload_n dX12_moveAll_10 rfl ?_
  refine h_getI dX12_moveAll_11 f_X12_102_10 rfl (show _ = I 82 0 from rfl) ?_
  refine h_iastN (j := 0) dX12_moveAll_14 rfl rfl (by omega) rfl ?_
  refine h_aload_n dX12_moveAll_15 rfl ?_
  refine h_getR dX12_moveAll_16 f_X12_99_10 rfl rfl ?_
  refine h_iconst dX12_moveAll_19 ci_1 ?_
  refine h_aload_n dX12_moveAll_20 rfl ?_
  refine h_getI dX12_moveAll_21 f_X12_120_10 rfl (show _ = I 82 2 from rfl) ?_
  refine h_iastN (j := 1) dX12_moveAll_24 rfl rfl (by omega) rfl ?_
  refine h_aload_n dX12_moveAll_25 rfl ?_
  refine h_getR dX12_moveAll_26 f_X12_99_10 rfl rfl ?_
  refine h_iconst dX12_moveAll_29 ci_2 ?_
  refine h_aload_n dX12_moveAll_30 rfl ?_
  refine h_getI dX12_moveAll_31 f_X12_110_10 rfl (show _ = I 82 4 from rfl) ?_
  refine h_iastN (j := 2) dX12_moveAll_34 rfl rfl (by omega) rfl ?_
  refine h_aload_n dX12_moveAll_35 rfl ?_
  refine h_getR dX12_moveAll_36 f_X12_99_10 rfl rfl ?_
  refine h_iconst dX12_moveAll_39 ci_3 ?_
  refine h_aload_n dX12_moveAll_40 rfl ?_
  refine h_getI dX12_moveAll_41 f_X12_113_10 rfl (show _ = I 82 7 from rfl) ?_
  refine h_iastN (j := 3) dX12_moveAll_44 rfl rfl (by omega) rfl ?_
  refine h_aload_n dX12_moveAll_45 rfl ?_
  refine h_getR dX12_moveAll_46 f_X12_99_10 rfl rfl ?_
  refine h_iconst dX12_moveAll_49 ci_4 ?_
  refine h_aload_n dX12_moveAll_50 rfl ?_
  refine h_getI dX12_moveAll_51 f_X12_328_10 rfl (show _ = I 82 9 from rfl) ?_
  refine h_iastN (j := 4) dX12_moveAll_54 rfl rfl (by omega) rfl ?_
  refine h_aload_n dX12_moveAll_55 rfl ?_
  refine h_getR dX12_moveAll_56 f_X12_99_10 rfl rfl ?_
  refine h_iconst dX12_moveAll_59 ci_5 ?_
  refine h_aload_n dX12_moveAll_60 rfl ?_
  refine h_getI dX12_moveAll_61 f_X12_142_10 rfl (show _ = I 82 6 from rfl) ?_
  refine h_iastN (j := 5) dX12_moveAll_64 rfl rfl (by omega) rfl ?_
  refine h_aload_n dX12_moveAll_65 rfl ?_
  refine h_aload_n dX12_moveAll_66 rfl ?_
  refine h_getR dX12_moveAll_67 f_X12_99_10 rfl rfl ?_
  refine h_bipush dX12_moveAll_70 cb_6 ?_
  refine h_iload_n dX12_moveAll_72 rfl ?_
  refine h_cV3 dX12_moveAll_73 k7_88 oVX12_move rfl rfl ?_
  refine r_mv112_1 (x := 0) rfl (by omega) (fun I2 hM1 => ?_)
  refine h_aload_n dX12_moveAll_76 rfl ?_
  refine h_aload_n dX12_moveAll_77 rfl ?_
  refine h_getR dX12_moveAll_78 f_X12_7_10 rfl rfl ?_
  refine h_bipush dX12_moveAll_81 cb_6 ?_
  refine h_iload_n dX12_moveAll_83 rfl ?_
  refine h_cV3 dX12_moveAll_84 k7_88 oVX12_move rfl rfl ?_
  refine r_mv83_1 (x := 6) (by rw [hM1]; exact mv_x) (by omega) (fun I3 hM2 => ?_)
  refine h_aload_n dX12_moveAll_87 rfl ?_
  refine h_aload_n dX12_moveAll_88 rfl ?_
  refine h_getR dX12_moveAll_89 f_X12_13_10 rfl rfl ?_
  refine h_bipush dX12_moveAll_92 cb_48 ?_
  refine h_iload_n dX12_moveAll_94 rfl ?_
  refine h_cV3 dX12_moveAll_95 k7_88 oVX12_move rfl rfl ?_
  refine r_mv84_1 (x := 12) (by rw [hM2]; exact mv_x) (by omega) (fun I4 hM3 => ?_)
  refine h_aload_n dX12_moveAll_98 rfl ?_
  refine h_aload_n dX12_moveAll_99 rfl ?_
  refine h_getR dX12_moveAll_100 f_X12_16_10 rfl rfl ?_
  refine h_bipush dX12_moveAll_103 cb_16 ?_
  refine h_iload_n dX12_moveAll_105 rfl ?_
  refine h_cV3 dX12_moveAll_106 k7_88 oVX12_move rfl rfl ?_
  refine r_mv85_1 (x := 60) (by rw [hM3]; exact mv_x) (by omega) (fun I5 hM4 => ?_)
  refine h_aload_n dX12_moveAll_109 rfl ?_
  refine h_aload_n dX12_moveAll_110 rfl ?_
  refine h_getR dX12_moveAll_111 f_X12_19_10 rfl rfl ?_
  refine h_sipush dX12_moveAll_114 cs_168 ?_
  refine h_iload_n dX12_moveAll_117 rfl ?_
  refine h_cV3 dX12_moveAll_118 k7_88 oVX12_move rfl rfl ?_
  refine r_mv86_1 (x := 76) (by rw [hM4]; exact mv_x) (by omega) (fun I6 hM5 => ?_)
  refine h_aload_n dX12_moveAll_121 rfl ?_
  refine h_aload_n dX12_moveAll_122 rfl ?_
  refine h_getR dX12_moveAll_123 f_X12_22_10 rfl rfl ?_
  refine h_bipush dX12_moveAll_126 cb_8 ?_
  refine h_iload_n dX12_moveAll_128 rfl ?_
  refine h_cV3 dX12_moveAll_129 k7_88 oVX12_move rfl rfl ?_
  refine r_mv87_1 (x := 244) (by rw [hM5]; exact mv_x) (by omega) (fun I7 hM6 => ?_)
  refine h_aload_n dX12_moveAll_132 rfl ?_
  refine h_aload_n dX12_moveAll_133 rfl ?_
  refine h_getR dX12_moveAll_134 f_X12_25_10 rfl rfl ?_
  refine h_bipush dX12_moveAll_137 cb_8 ?_
  refine h_iload_n dX12_moveAll_139 rfl ?_
  refine h_cV3 dX12_moveAll_140 k7_88 oVX12_move rfl rfl ?_
  refine r_mv88_1 (x := 252) (by rw [hM6]; exact mv_x) (by omega) (fun I8 hM7 => ?_)
  refine h_aload_n dX12_moveAll_143 rfl ?_
  refine h_aload_n dX12_moveAll_144 rfl ?_
  refine h_getR dX12_moveAll_145 f_X12_28_10 rfl rfl ?_
  refine h_sipush dX12_moveAll_148 cs_210 ?_
  refine h_iload_n dX12_moveAll_151 rfl ?_
  refine h_cV3 dX12_moveAll_152 k7_88 oVX12_move rfl rfl ?_
  refine r_mv89_1 (x := 260) (by rw [hM7]; exact mv_x) (by omega) (fun I9 hM8 => ?_)
  refine h_return dX12_moveAll_155 rfl ?_
  refine hQ I9 ?_ ?_ ?_ ?_ ?_ ?_ ?_ ?_ ?_ ?_ ?_ ?_ ?_ ?_ ?_
  · exact (fun a h1 h2 h3 => by rw [hM8, mv_a h1 h3, hM7, mv_a h1 h3, hM6, mv_a h1 h3, hM5, mv_a h1 h3, hM4, mv_a h1 h3, hM3, mv_a h1 h3, hM2, mv_a h1 h3, hM1, mv_a h1 h3]; simp [upI, h2, h3])
  · exact (fun j hj => by rw [hM8, mv_f (by decide) hj, hM7, mv_f (by decide) hj, hM6, mv_f (by decide) hj, hM5, mv_f (by decide) hj, hM4, mv_f (by decide) hj, hM3, mv_f (by decide) hj, hM2, mv_f (by decide) hj, hM1, mv_f (by decide) hj]; simp [upI, upd, hj])
  · exact (by rw [hM8, mv_o (by decide) (by omega), hM7, mv_o (by decide) (by omega), hM6, mv_o (by decide) (by omega), hM5, mv_o (by decide) (by omega), hM4, mv_o (by decide) (by omega), hM3, mv_o (by decide) (by omega), hM2, mv_o (by decide) (by omega), hM1]; exact (mv_i0 (by decide) (by decide)).trans rfl)
  · exact (by rw [hM8, mv_o (by decide) (by omega), hM7, mv_o (by decide) (by omega), hM6, mv_o (by decide) (by omega), hM5, mv_o (by decide) (by omega), hM4, mv_o (by decide) (by omega), hM3, mv_o (by decide) (by omega), hM2, mv_o (by decide) (by omega), hM1]; exact (mv_i0 (by decide) (by decide)).trans rfl)
  · exact (by rw [hM8, mv_o (by decide) (by omega), hM7, mv_o (by decide) (by omega), hM6, mv_o (by decide) (by omega), hM5, mv_o (by decide) (by omega), hM4, mv_o (by decide) (by omega), hM3, mv_o (by decide) (by omega), hM2, mv_o (by decide) (by omega), hM1]; exact (mv_i0 (by decide) (by decide)).trans rfl)
  · exact (by rw [hM8, mv_o (by decide) (by omega), hM7, mv_o (by decide) (by omega), hM6, mv_o (by decide) (by omega), hM5, mv_o (by decide) (by omega), hM4, mv_o (by decide) (by omega), hM3, mv_o (by decide) (by omega), hM2, mv_o (by decide) (by omega), hM1]; exact (mv_i0 (by decide) (by decide)).trans rfl)
  · exact (by rw [hM8, mv_o (by decide) (by omega), hM7, mv_o (by decide) (by omega), hM6, mv_o (by decide) (by omega), hM5, mv_o (by decide) (by omega), hM4, mv_o (by decide) (by omega), hM3, mv_o (by decide) (by omega), hM2, mv_o (by decide) (by omega), hM1]; exact (mv_i0 (by decide) (by decide)).trans rfl)
  · exact (by rw [hM8, mv_o (by decide) (by omega), hM7, mv_o (by decide) (by omega), hM6, mv_o (by decide) (by omega), hM5, mv_o (by decide) (by omega), hM4, mv_o (by decide) (by omega), hM3, mv_o (by decide) (by omega), hM2, mv_o (by decide) (by omega), hM1]; exact (mv_i0 (by decide) (by decide)).trans rfl)
  · exact (fun j hj => by rw [hM8, mv_o (by decide) (by omega), hM7, mv_o (by decide) (by omega), hM6, mv_o (by decide) (by omega), hM5, mv_o (by decide) (by omega), hM4, mv_o (by decide) (by omega), hM3, mv_o (by decide) (by omega), hM2, mv_j (by decide) hj, hM1, mv_a (by decide) (by decide)]; rfl)
  · exact (fun j hj => by rw [hM8, mv_o (by decide) (by omega), hM7, mv_o (by decide) (by omega), hM6, mv_o (by decide) (by omega), hM5, mv_o (by decide) (by omega), hM4, mv_o (by decide) (by omega), hM3, mv_j (by decide) hj, hM2, mv_a (by decide) (by decide), hM1, mv_a (by decide) (by decide)]; rfl)
  · exact (fun j hj => by rw [hM8, mv_o (by decide) (by omega), hM7, mv_o (by decide) (by omega), hM6, mv_o (by decide) (by omega), hM5, mv_o (by decide) (by omega), hM4, mv_j (by decide) hj, hM3, mv_a (by decide) (by decide), hM2, mv_a (by decide) (by decide), hM1, mv_a (by decide) (by decide)]; rfl)
  · exact (fun j hj => by rw [hM8, mv_o (by decide) (by omega), hM7, mv_o (by decide) (by omega), hM6, mv_o (by decide) (by omega), hM5, mv_j (by decide) hj, hM4, mv_a (by decide) (by decide), hM3, mv_a (by decide) (by decide), hM2, mv_a (by decide) (by decide), hM1, mv_a (by decide) (by decide)]; rfl)
  · exact (fun j hj => by rw [hM8, mv_o (by decide) (by omega), hM7, mv_o (by decide) (by omega), hM6, mv_j (by decide) hj, hM5, mv_a (by decide) (by decide), hM4, mv_a (by decide) (by decide), hM3, mv_a (by decide) (by decide), hM2, mv_a (by decide) (by decide), hM1, mv_a (by decide) (by decide)]; rfl)
  · exact (fun j hj => by rw [hM8, mv_o (by decide) (by omega), hM7, mv_j (by decide) hj, hM6, mv_a (by decide) (by decide), hM5, mv_a (by decide) (by decide), hM4, mv_a (by decide) (by decide), hM3, mv_a (by decide) (by decide), hM2, mv_a (by decide) (by decide), hM1, mv_a (by decide) (by decide)]; rfl)
  · exact (fun j hj => by rw [hM8, mv_j (by decide) hj, hM7, mv_a (by decide) (by decide), hM6, mv_a (by decide) (by decide), hM5, mv_a (by decide) (by decide), hM4, mv_a (by decide) (by decide), hM3, mv_a (by decide) (by decide), hM2, mv_a (by decide) (by decide), hM1, mv_a (by decide) (by decide)]; rfl)
theorem r_moveAll0 {l : Launch} {dp : Nat} {I : hI} {J : hJ} {lt tx : Option Nat} {Q : hQ} (hQ : ∀ I', (∀ a, a < 82 ∨ (89 < a ∧ a ≠ 112) → I' a = I a) → (∀ j, j ≠ 52 → I' 82 j = I 82 j) → (∀ j, j < 6 → I' 112 j = I 111 (0 + j)) → (∀ j, j < 6 → I' 83 j = I 111 (6 + j)) → (∀ j, j < 48 → I' 84 j = I 111 (12 + j)) → (∀ j, j < 16 → I' 85 j = I 111 (60 + j)) → (∀ j, j < 168 → I' 86 j = I 111 (76 + j)) → (∀ j, j < 8 → I' 87 j = I 111 (244 + j)) → (∀ j, j < 8 → I' 88 j = I 111 (252 + j)) → (∀ j, j < 210 → I' 89 j = I 111 (260 + j)) → Q none hSH I' J (hRR lt tx))  : HC l mX12_moveAll (dp + 1) 0 0 [.ref 82, .int (nI 0)] hSH I J (hRR lt tx) Q := by
  refine HC.of (by decide +kernel) rfl (Nat.le_of_ble_eq_true rfl) ?_
  show HV l mX12_moveAll (dp + 1) 0 0 0 [some (.ref 82), some (.int (nI 0))] [] hSH I J (hRR lt tx) Q
  refine h_aload_n dX12_moveAll_0 rfl ?_
  refine h_iconst dX12_moveAll_1 ci_0 ?_
  refine h_putI dX12_moveAll_2 f_X12_404_10 p_X12_10_52 (fun h => by cases h) rfl ?_
  refine h_aload_n dX12_moveAll_5 rfl ?_
  refine h_getR dX12_moveAll_6 f_X12_99_10 rfl rfl ?_
  refine h_iconst dX12_moveAll_9 ci_0 ?_
  refine h_aload_n dX12_moveAll_10 rfl ?_
  refine h_getI dX12_moveAll_11 f_X12_102_10 rfl (show _ = I 82 0 from rfl) ?_
  refine h_iastN (j := 0) dX12_moveAll_14 rfl rfl (by omega) rfl ?_
  refine h_aload_n dX12_moveAll_15 rfl ?_
  refine h_getR dX12_moveAll_16 f_X12_99_10 rfl rfl ?_
  refine h_iconst dX12_moveAll_19 ci_1 ?_
  refine h_aload_n dX12_moveAll_20 rfl ?_
  refine h_getI dX12_moveAll_21 f_X12_120_10 rfl (show _ = I 82 2 from rfl) ?_
  refine h_iastN (j := 1) dX12_moveAll_24 rfl rfl (by omega) rfl ?_
  refine h_aload_n dX12_moveAll_25 rfl ?_
  refine h_getR dX12_moveAll_26 f_X12_99_10 rfl rfl ?_
  refine h_iconst dX12_moveAll_29 ci_2 ?_
  refine h_aload_n dX12_moveAll_30 rfl ?_
  refine h_getI dX12_moveAll_31 f_X12_110_10 rfl (show _ = I 82 4 from rfl) ?_
  refine h_iastN (j := 2) dX12_moveAll_34 rfl rfl (by omega) rfl ?_
  refine h_aload_n dX12_moveAll_35 rfl ?_
  refine h_getR dX12_moveAll_36 f_X12_99_10 rfl rfl ?_
  refine h_iconst dX12_moveAll_39 ci_3 ?_
  refine h_aload_n dX12_moveAll_40 rfl ?_
  refine h_getI dX12_moveAll_41 f_X12_113_10 rfl (show _ = I 82 7 from rfl) ?_
  refine h_iastN (j := 3) dX12_moveAll_44 rfl rfl (by omega) rfl ?_
  refine h_aload_n dX12_moveAll_45 rfl ?_
  refine h_getR dX12_moveAll_46 f_X12_99_10 rfl rfl ?_
  refine h_iconst dX12_moveAll_49 ci_4 ?_
  refine h_aload_n dX12_moveAll_50 rfl ?_
  refine h_getI dX12_moveAll_51 f_X12_328_10 rfl (show _ = I 82 9 from rfl) ?_
  refine h_iastN (j := 4) dX12_moveAll_54 rfl rfl (by omega) rfl ?_
  refine h_aload_n dX12_moveAll_55 rfl ?_
  refine h_getR dX12_moveAll_56 f_X12_99_10 rfl rfl ?_
  refine h_iconst dX12_moveAll_59 ci_5 ?_
  refine h_aload_n dX12_moveAll_60 rfl ?_
  refine h_getI dX12_moveAll_61 f_X12_142_10 rfl (show _ = I 82 6 from rfl) ?_
  refine h_iastN (j := 5) dX12_moveAll_64 rfl rfl (by omega) rfl ?_
  refine h_aload_n dX12_moveAll_65 rfl ?_
  refine h_aload_n dX12_moveAll_66 rfl ?_
  refine h_getR dX12_moveAll_67 f_X12_99_10 rfl rfl ?_
  refine h_bipush dX12_moveAll_70 cb_6 ?_
  refine h_iload_n dX12_moveAll_72 rfl ?_
  refine h_cV3 dX12_moveAll_73 k7_88 oVX12_move rfl rfl ?_
  refine r_mv112_0 (x := 0) rfl (by omega) (fun I2 hM1 => ?_)
  refine h_aload_n dX12_moveAll_76 rfl ?_
  refine h_aload_n dX12_moveAll_77 rfl ?_
  refine h_getR dX12_moveAll_78 f_X12_7_10 rfl rfl ?_
  refine h_bipush dX12_moveAll_81 cb_6 ?_
  refine h_iload_n dX12_moveAll_83 rfl ?_
  refine h_cV3 dX12_moveAll_84 k7_88 oVX12_move rfl rfl ?_
  refine r_mv83_0 (x := 6) (by rw [hM1]; exact mv_x) (by omega) (fun I3 hM2 => ?_)
  refine h_aload_n dX12_moveAll_87 rfl ?_
  refine h_aload_n dX12_moveAll_88 rfl ?_
  refine h_getR dX12_moveAll_89 f_X12_13_10 rfl rfl ?_
  refine h_bipush dX12_moveAll_92 cb_48 ?_
  refine h_iload_n dX12_moveAll_94 rfl ?_
  refine h_cV3 dX12_moveAll_95 k7_88 oVX12_move rfl rfl ?_
  refine r_mv84_0 (x := 12) (by rw [hM2]; exact mv_x) (by omega) (fun I4 hM3 => ?_)
  refine h_aload_n dX12_moveAll_98 rfl ?_
  refine h_aload_n dX12_moveAll_99 rfl ?_
  refine h_getR dX12_moveAll_100 f_X12_16_10 rfl rfl ?_
  refine h_bipush dX12_moveAll_103 cb_16 ?_
  refine h_iload_n dX12_moveAll_105 rfl ?_
  refine h_cV3 dX12_moveAll_106 k7_88 oVX12_move rfl rfl ?_
  refine r_mv85_0 (x := 60) (by rw [hM3]; exact mv_x) (by omega) (fun I5 hM4 => ?_)
  refine h_aload_n dX12_moveAll_109 rfl ?_
  refine h_aload_n dX12_moveAll_110 rfl ?_
  refine h_getR dX12_moveAll_111 f_X12_19_10 rfl rfl ?_
  refine h_sipush dX12_moveAll_114 cs_168 ?_
  refine h_iload_n dX12_moveAll_117 rfl ?_
  refine h_cV3 dX12_moveAll_118 k7_88 oVX12_move rfl rfl ?_
  refine r_mv86_0 (x := 76) (by rw [hM4]; exact mv_x) (by omega) (fun I6 hM5 => ?_)
  refine h_aload_n dX12_moveAll_121 rfl ?_
  refine h_aload_n dX12_moveAll_122 rfl ?_
  refine h_getR dX12_moveAll_123 f_X12_22_10 rfl rfl ?_
  refine h_bipush dX12_moveAll_126 cb_8 ?_
  refine h_iload_n dX12_moveAll_128 rfl ?_
  refine h_cV3 dX12_moveAll_129 k7_88 oVX12_move rfl rfl ?_
  refine r_mv87_0 (x := 244) (by rw [hM5]; exact mv_x) (by omega) (fun I7 hM6 => ?_)
  refine h_aload_n dX12_moveAll_132 rfl ?_
  refine h_aload_n dX12_moveAll_133 rfl ?_
  refine h_getR dX12_moveAll_134 f_X12_25_10 rfl rfl ?_
  refine h_bipush dX12_moveAll_137 cb_8 ?_
  refine h_iload_n dX12_moveAll_139 rfl ?_
  refine h_cV3 dX12_moveAll_140 k7_88 oVX12_move rfl rfl ?_
  refine r_mv88_0 (x := 252) (by rw [hM6]; exact mv_x) (by omega) (fun I8 hM7 => ?_)
  refine h_aload_n dX12_moveAll_143 rfl ?_
  refine h_aload_n dX12_moveAll_144 rfl ?_
  refine h_getR dX12_moveAll_145 f_X12_28_10 rfl rfl ?_
  refine h_sipush dX12_moveAll_148 cs_210 ?_
  refine h_iload_n dX12_moveAll_151 rfl ?_
  refine h_cV3 dX12_moveAll_152 k7_88 oVX12_move rfl rfl ?_
  refine r_mv89_0 (x := 260) (by rw [hM7]; exact mv_x) (by omega) (fun I9 hM8 => ?_)
  refine h_return dX12_moveAll_155 rfl ?_
  refine hQ I9 ?_ ?_ ?_ ?_ ?_ ?_ ?_ ?_ ?_ ?_
  · exact (fun a ha => by rw [hM8, mv_a (by omega) (by omega), hM7, mv_a (by omega) (by omega), hM6, mv_a (by omega) (by omega), hM5, mv_a (by omega) (by omega), hM4, mv_a (by omega) (by omega), hM3, mv_a (by omega) (by omega), hM2, mv_a (by omega) (by omega), hM1, mv_a (by omega) (by omega)]; simp [upI, show a ≠ 112 by omega, show a ≠ 82 by omega])
  · exact (fun j hj => by rw [hM8, mv_f (by decide) hj, hM7, mv_f (by decide) hj, hM6, mv_f (by decide) hj, hM5, mv_f (by decide) hj, hM4, mv_f (by decide) hj, hM3, mv_f (by decide) hj, hM2, mv_f (by decide) hj, hM1, mv_f (by decide) hj]; simp [upI, upd, hj])
  · exact (fun j hj => by rw [hM8, mv_a (by decide) (by decide), hM7, mv_a (by decide) (by decide), hM6, mv_a (by decide) (by decide), hM5, mv_a (by decide) (by decide), hM4, mv_a (by decide) (by decide), hM3, mv_a (by decide) (by decide), hM2, mv_a (by decide) (by decide), hM1, mv_i0 (by decide) hj]; rfl)
  · exact (fun j hj => by rw [hM8, mv_a (by decide) (by decide), hM7, mv_a (by decide) (by decide), hM6, mv_a (by decide) (by decide), hM5, mv_a (by decide) (by decide), hM4, mv_a (by decide) (by decide), hM3, mv_a (by decide) (by decide), hM2, mv_i0 (by decide) hj, hM1, mv_a (by decide) (by decide)]; rfl)
  · exact (fun j hj => by rw [hM8, mv_a (by decide) (by decide), hM7, mv_a (by decide) (by decide), hM6, mv_a (by decide) (by decide), hM5, mv_a (by decide) (by decide), hM4, mv_a (by decide) (by decide), hM3, mv_i0 (by decide) hj, hM2, mv_a (by decide) (by decide), hM1, mv_a (by decide) (by decide)]; rfl)
  · exact (fun j hj => by rw [hM8, mv_a (by decide) (by decide), hM7, mv_a (by decide) (by decide), hM6, mv_a (by decide) (by decide), hM5, mv_a (by decide) (by decide), hM4, mv_i0 (by decide) hj, hM3, mv_a (by decide) (by decide), hM2, mv_a (by decide) (by decide), hM1, mv_a (by decide) (by decide)]; rfl)
  · exact (fun j hj => by rw [hM8, mv_a (by decide) (by decide), hM7, mv_a (by decide) (by decide), hM6, mv_a (by decide) (by decide), hM5, mv_i0 (by decide) hj, hM4, mv_a (by decide) (by decide), hM3, mv_a (by decide) (by decide), hM2, mv_a (by decide) (by decide), hM1, mv_a (by decide) (by decide)]; rfl)
  · exact (fun j hj => by rw [hM8, mv_a (by decide) (by decide), hM7, mv_a (by decide) (by decide), hM6, mv_i0 (by decide) hj, hM5, mv_a (by decide) (by decide), hM4, mv_a (by decide) (by decide), hM3, mv_a (by decide) (by decide), hM2, mv_a (by decide) (by decide), hM1, mv_a (by decide) (by decide)]; rfl)
  · exact (fun j hj => by rw [hM8, mv_a (by decide) (by decide), hM7, mv_i0 (by decide) hj, hM6, mv_a (by decide) (by decide), hM5, mv_a (by decide) (by decide), hM4, mv_a (by decide) (by decide), hM3, mv_a (by decide) (by decide), hM2, mv_a (by decide) (by decide), hM1, mv_a (by decide) (by decide)]; rfl)
  · exact (fun j hj => by rw [hM8, mv_i0 (by decide) hj, hM7, mv_a (by decide) (by decide), hM6, mv_a (by decide) (by decide), hM5, mv_a (by decide) (by decide), hM4, mv_a (by decide) (by decide), hM3, mv_a (by decide) (by decide), hM2, mv_a (by decide) (by decide), hM1, mv_a (by decide) (by decide)]; rfl)
