def hSH : hS := [(14, 0), (13, 0), (10, 0), (0, 6), (0, 12), (0, 12), (0, 12), (0, 12), (0, 6), (0, 6), (0, 6), (0, 6), (8, 0), (0, 8), (0, 8), (0, 100), (0, 100), (0, 100), (0, 8), (0, 8), (0, 24), (0, 24), (0, 24), (0, 24), (0, 24), (0, 8), (0, 8), (0, 8), (13, 0), (10, 0), (0, 6), (0, 12), (0, 12), (0, 12), (0, 12), (0, 6), (0, 6), (0, 6), (0, 6), (8, 0), (0, 8), (0, 8), (0, 100), (0, 100), (0, 100), (0, 8), (0, 8), (0, 24), (0, 24), (0, 24), (0, 24), (0, 24), (0, 8), (0, 8), (0, 8), (8, 0), (0, 8), (0, 8), (0, 100), (0, 100), (0, 100), (1, 200), (0, 18), (0, 4), (0, 4), (2, 160), (0, 4), (0, 4), (0, 4), (4, 7), (9, 0), (0, 30), (11, 0), (0, 30), (5, 0), (0, 30), (6, 0), (0, 30), (7, 0), (0, 30), (12, 0), (0, 30), (15, 0), (0, 6), (0, 48), (0, 16), (0, 168), (0, 8), (0, 8), (0, 210), (0, 6), (0, 6), (0, 6), (0, 8), (0, 8), (3, 8), (0, 200), (0, 210), (0, 210), (0, 8), (0, 8), (0, 4), (0, 210), (0, 18), (0, 4), (0, 4), (2, 160), (0, 4), (0, 4), (0, 4), (0, 30), (0, 500), (0, 6)]
def hRT (lt tx : Option Nat) : List (List (Option Nat)) := [[some 1, some 2, some 12, some 28, none, some 55, some 61, none, some 62, none, some 63, some 64, some 65, some 66, some 67, some 68, some 69, lt], [some 2, some 12, none, some 18, some 19, none, none, some 20, some 21, some 22, some 23, some 24, none, some 25, some 26, some 27], [none, some 3, none, some 4, some 5, some 6, some 7, some 8, some 9, some 10, some 11], [], [], [], [], [], [], [], [], [], [none, some 13, some 14, none, some 15, some 16, some 17, none, none, none, none, none, none, none], [], [], [], [], [], [], [], [], [], [], [], [], [], [], [], [some 29, some 39, none, some 45, some 46, none, none, some 47, some 48, some 49, some 50, some 51, none, some 52, some 53, some 54], [none, some 30, none, some 31, some 32, some 33, some 34, some 35, some 36, some 37, some 38], [], [], [], [], [], [], [], [], [], [none, some 40, some 41, none, some 42, some 43, some 44, none, none, none, none, none, none, none], [], [], [], [], [], [], [], [], [], [], [], [], [], [], [], [none, some 56, some 57, none, some 58, some 59, some 60, tx, none, none, none, none, none, none], [], [], [], [], [], [], [], [], [], [], [], [], [], [none, some 70, some 72, some 74, some 76, some 78, some 80], [none, none, none, none, some 71], [], [none, none, none, none, some 73], [], [none, none, none, none, some 75], [], [none, none, none, none, some 77], [], [none, none, none, none, some 79], [], [none, none, none, none, some 81], [], [none, some 83, none, some 84, none, some 85, none, none, some 86, none, some 87, some 88, some 89, some 90, some 91, some 92, none, none, some 93, some 94, some 95, some 96, none, none, none, none, none, none, some 97, some 98, some 99, some 100, none, none, some 101, some 102, some 103, none, some 104, some 105, some 106, some 107, some 108, some 109, none, none, none, some 110, none, none, none, some 111, none, some 112], [], [], [], [], [], [], [], [], [], [], [], [], [], [], [], [], [], [], [], [], [], [], [], [], [], [], [], [], [], []]
def hRR (lt tx : Option Nat) : hR := fun a j => ((hRT lt tx).getD a []).getD j none
theorem ci_m1 : Int32.ofInt (-1) = (-1 : Int32) := by decide
theorem ci_0 : Int32.ofInt (0) = nI 0 := by decide
theorem ci_1 : Int32.ofInt (1) = nI 1 := by decide
theorem ci_2 : Int32.ofInt (2) = nI 2 := by decide
theorem ci_3 : Int32.ofInt (3) = nI 3 := by decide
theorem ci_4 : Int32.ofInt (4) = nI 4 := by decide
theorem ci_5 : Int32.ofInt (5) = nI 5 := by decide
theorem cb_m100 : (Int8.ofInt (-100)).toInt32 = (-100 : Int32) := by decide
theorem cb_m99 : (Int8.ofInt (-99)).toInt32 = (-99 : Int32) := by decide
theorem cb_m15 : (Int8.ofInt (-15)).toInt32 = (-15 : Int32) := by decide
theorem cb_m14 : (Int8.ofInt (-14)).toInt32 = (-14 : Int32) := by decide
theorem cb_m13 : (Int8.ofInt (-13)).toInt32 = (-13 : Int32) := by decide
theorem cb_m12 : (Int8.ofInt (-12)).toInt32 = (-12 : Int32) := by decide
theorem cb_m11 : (Int8.ofInt (-11)).toInt32 = (-11 : Int32) := by decide
theorem cb_m9 : (Int8.ofInt (-9)).toInt32 = (-9 : Int32) := by decide
theorem cb_m4 : (Int8.ofInt (-4)).toInt32 = (-4 : Int32) := by decide
theorem cb_m3 : (Int8.ofInt (-3)).toInt32 = (-3 : Int32) := by decide
theorem cb_m2 : (Int8.ofInt (-2)).toInt32 = (-2 : Int32) := by decide
theorem cb_6 : (Int8.ofInt (6)).toInt32 = nI 6 := by decide
theorem cb_7 : (Int8.ofInt (7)).toInt32 = nI 7 := by decide
theorem cb_8 : (Int8.ofInt (8)).toInt32 = nI 8 := by decide
theorem cb_9 : (Int8.ofInt (9)).toInt32 = nI 9 := by decide
theorem cb_10 : (Int8.ofInt (10)).toInt32 = nI 10 := by decide
theorem cb_11 : (Int8.ofInt (11)).toInt32 = nI 11 := by decide
theorem cb_12 : (Int8.ofInt (12)).toInt32 = nI 12 := by decide
theorem cb_13 : (Int8.ofInt (13)).toInt32 = nI 13 := by decide
theorem cb_15 : (Int8.ofInt (15)).toInt32 = nI 15 := by decide
theorem cb_16 : (Int8.ofInt (16)).toInt32 = nI 16 := by decide
theorem cb_17 : (Int8.ofInt (17)).toInt32 = nI 17 := by decide
theorem cb_18 : (Int8.ofInt (18)).toInt32 = nI 18 := by decide
theorem cb_20 : (Int8.ofInt (20)).toInt32 = nI 20 := by decide
theorem cb_22 : (Int8.ofInt (22)).toInt32 = nI 22 := by decide
theorem cb_23 : (Int8.ofInt (23)).toInt32 = nI 23 := by decide
theorem cb_24 : (Int8.ofInt (24)).toInt32 = nI 24 := by decide
theorem cb_30 : (Int8.ofInt (30)).toInt32 = nI 30 := by decide
theorem cb_32 : (Int8.ofInt (32)).toInt32 = nI 32 := by decide
theorem cb_40 : (Int8.ofInt (40)).toInt32 = nI 40 := by decide
theorem cb_41 : (Int8.ofInt (41)).toInt32 = nI 41 := by decide
theorem cb_45 : (Int8.ofInt (45)).toInt32 = nI 45 := by decide
theorem cb_48 : (Int8.ofInt (48)).toInt32 = nI 48 := by decide
theorem cb_50 : (Int8.ofInt (50)).toInt32 = nI 50 := by decide
theorem cb_51 : (Int8.ofInt (51)).toInt32 = nI 51 := by decide
theorem cb_57 : (Int8.ofInt (57)).toInt32 = nI 57 := by decide
theorem cb_59 : (Int8.ofInt (59)).toInt32 = nI 59 := by decide
theorem cb_60 : (Int8.ofInt (60)).toInt32 = nI 60 := by decide
theorem cb_61 : (Int8.ofInt (61)).toInt32 = nI 61 := by decide
theorem cb_62 : (Int8.ofInt (62)).toInt32 = nI 62 := by decide
theorem cb_63 : (Int8.ofInt (63)).toInt32 = nI 63 := by decide
theorem cb_70 : (Int8.ofInt (70)).toInt32 = nI 70 := by decide
theorem cb_71 : (Int8.ofInt (71)).toInt32 = nI 71 := by decide
theorem cb_72 : (Int8.ofInt (72)).toInt32 = nI 72 := by decide
theorem cb_73 : (Int8.ofInt (73)).toInt32 = nI 73 := by decide
theorem cb_97 : (Int8.ofInt (97)).toInt32 = nI 97 := by decide
theorem cb_99 : (Int8.ofInt (99)).toInt32 = nI 99 := by decide
theorem cb_100 : (Int8.ofInt (100)).toInt32 = nI 100 := by decide
theorem cb_101 : (Int8.ofInt (101)).toInt32 = nI 101 := by decide
theorem cb_102 : (Int8.ofInt (102)).toInt32 = nI 102 := by decide
theorem cb_103 : (Int8.ofInt (103)).toInt32 = nI 103 := by decide
theorem cb_122 : (Int8.ofInt (122)).toInt32 = nI 122 := by decide
theorem cs_160 : (Int16.ofInt (160)).toInt32 = nI 160 := by decide
theorem cs_168 : (Int16.ofInt (168)).toInt32 = nI 168 := by decide
theorem cs_200 : (Int16.ofInt (200)).toInt32 = nI 200 := by decide
theorem cs_210 : (Int16.ofInt (210)).toInt32 = nI 210 := by decide
theorem cs_255 : (Int16.ofInt (255)).toInt32 = nI 255 := by decide
theorem cs_500 : (Int16.ofInt (500)).toInt32 = nI 500 := by decide
theorem cs_999 : (Int16.ofInt (999)).toInt32 = nI 999 := by decide
theorem cs_1220 : (Int16.ofInt (1220)).toInt32 = nI 1220 := by decide
theorem cs_3000 : (Int16.ofInt (3000)).toInt32 = nI 3000 := by decide
theorem cs_26982 : (Int16.ofInt (26982)).toInt32 = nI 26982 := by decide
theorem cs_28530 : (Int16.ofInt (28530)).toInt32 = nI 28530 := by decide
def upA (I : hI) (a : Nat) (f : Nat → Int32) : hI := fun x => if x = a then f else I x
def upB (J : hJ) (a : Nat) (f : Nat → Int64) : hJ := fun x => if x = a then f else J x
theorem upA_s (I : hI) (a : Nat) (f : Nat → Int32) : upA I a f a = f := if_pos rfl
theorem upA_n (I : hI) {a x : Nat} (f : Nat → Int32) (h : x ≠ a) : upA I a f x = I x := if_neg h
theorem upI_A (I : hI) (a j : Nat) (v : Int32) : upI I a j v = upA I a (upd (I a) j v) := rfl
theorem upA_A (I : hI) (a : Nat) (f g : Nat → Int32) : upA (upA I a f) a g = upA I a g := by
  funext x
  by_cases h : x = a
  · simp [upA, h]
  · simp [upA, h]
theorem upA_id (I : hI) (a : Nat) : upA I a (I a) = I := by
  funext x
  by_cases h : x = a
  · subst h; simp [upA]
  · simp [upA, h]
theorem upA_I (I : hI) (a : Nat) (f : Nat → Int32) (j : Nat) (v : Int32) : upI (upA I a f) a j v = upA I a (upd f j v) := by
  rw [upI_A, upA_s, upA_A]
theorem upd_s (f : Nat → Int32) (k : Nat) (v : Int32) : upd f k v k = v := if_pos rfl
theorem upd_n (f : Nat → Int32) {k j : Nat} (v : Int32) (h : j ≠ k) : upd f k v j = f j := if_neg h
/-- s is a number below n -/
def isIx (s : Int32) (n : Nat) : Prop := ∃ k, k < n ∧ s = nI k
theorem isIx_iff {s : Int32} {n : Nat} (hn : n < 2147483648) : (nI 0 ≤ s ∧ s ≤ nI n - nI 1) ↔ isIx s n := by
  rcases Nat.eq_zero_or_pos n with rfl | hp
  · constructor
    · rintro ⟨h1, h2⟩
      have h1 := Int32.le_iff_toInt_le.mp h1
      have h2 := Int32.le_iff_toInt_le.mp h2
      rw [show (nI 0 - nI 1).toInt = -1 by decide] at h2
      rw [show (nI 0).toInt = 0 by decide] at h1
      omega
    · rintro ⟨k, hk, -⟩; omega
  · rw [pk_sub hp]
    constructor
    · rintro ⟨h1, h2⟩
      have h1 := Int32.le_iff_toInt_le.mp h1
      have h2 := Int32.le_iff_toInt_le.mp h2
      rw [nI_toInt (by omega)] at h1 h2
      obtain ⟨k, h3, rfl⟩ := nI_of (x := s) (by intro q; have := Int32.lt_iff_toInt_lt.mp q; simp at this; omega)
      rw [nI_toInt h3] at h2
      exact ⟨k, by omega, rfl⟩
    · rintro ⟨k, hk, rfl⟩
      exact ⟨nI_le (Nat.zero_le k) (by omega), nI_le (by omega) (by omega)⟩
section HNAT
variable {l : Launch} {M : hM} {d k n pc : Nat} {ls : hL} {st : List Value} {sh : hS} {I : hI} {J : hJ} {R : hR} {Q : hQ} {a b : Nat}
theorem h_iaddN (hd : decode M.2.1 pc = .ok (.iadd, 1)) (h : HV l M d k n (pc + 1) ls (.int (nI (a + b)) :: st) sh I J R Q) : HV l M d k n pc ls (.int (nI b) :: .int (nI a) :: st) sh I J R Q := h_iadd hd (by rw [nI_add]; exact h)
theorem h_imulN (hd : decode M.2.1 pc = .ok (.imul, 1)) (h : HV l M d k n (pc + 1) ls (.int (nI (a * b)) :: st) sh I J R Q) : HV l M d k n pc ls (.int (nI b) :: .int (nI a) :: st) sh I J R Q := h_imul hd (by rw [pk_mul]; exact h)
theorem h_isubN (hd : decode M.2.1 pc = .ok (.isub, 1)) (hab : b ≤ a) (h : HV l M d k n (pc + 1) ls (.int (nI (a - b)) :: st) sh I J R Q) : HV l M d k n pc ls (.int (nI b) :: .int (nI a) :: st) sh I J R Q := h_isub hd (by rw [pk_sub hab]; exact h)
theorem h_idivN (hd : decode M.2.1 pc = .ok (.idiv, 1)) (ha : a < 2147483648) (h0 : 0 < b) (hb : b < 2147483648) (h : HV l M d k n (pc + 1) ls (.int (nI (a / b)) :: st) sh I J R Q) : HV l M d k n pc ls (.int (nI b) :: .int (nI a) :: st) sh I J R Q := h_idiv hd (nI_ne0 h0 hb) (by rw [pk_div ha h0 hb]; exact h)
theorem h_iremN (hd : decode M.2.1 pc = .ok (.irem, 1)) (ha : a < 2147483648) (h0 : 0 < b) (hb : b < 2147483648) (h : HV l M d k n (pc + 1) ls (.int (nI (a % b)) :: st) sh I J R Q) : HV l M d k n pc ls (.int (nI b) :: .int (nI a) :: st) sh I J R Q := h_irem hd (nI_ne0 h0 hb) (by rw [pk_rem ha h0 hb]; exact h)
end HNAT
