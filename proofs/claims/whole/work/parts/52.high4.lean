def HR (I I2 : hI) : Prop := ∃ g1 g2 g3, RO (upA (upA (upA I 93 g1) 94 g2) 95 g3) I2
theorem HR_id {I I2 : hI} (h : RO I I2) : HR I I2 := by
  refine ⟨I 93, I 94, I 95, ?_⟩
  have e : upA (upA (upA I 93 (I 93)) 94 (I 94)) 95 (I 95) = I := by rw [upA_id, upA_id, upA_id]
  rw [e]
  exact h
theorem HR_of {I I2 : hI} (h : ∀ x, x ≠ 90 → x ≠ 91 → x ≠ 92 → x ≠ 93 → x ≠ 94 → x ≠ 95 → x ≠ 101 → x ≠ 102 → x ≠ 82 → I2 x = I x) (h82 : ∀ j, j ≠ 16 → j ≠ 17 → I2 82 j = I 82 j) : HR I I2 := by
  refine ⟨I2 93, I2 94, I2 95, RO_iff.mpr ⟨fun x q1 q2 q3 q4 q5 q6 => ?_, fun j q1 q2 => ?_⟩⟩
  · by_cases e1 : x = 95
    · subst e1; simp [upA]
    · by_cases e2 : x = 94
      · subst e2; simp [upA]
      · by_cases e3 : x = 93
        · subst e3; simp [upA]
        · simp [upA, e1, e2, e3]; exact h x q1 q2 q3 e3 e2 e1 q4 q5 q6
  · simp [upA]; exact h82 j q1 q2
theorem HR_out {I I2 : hI} (h : HR I I2) : (∀ x, x ≠ 90 → x ≠ 91 → x ≠ 92 → x ≠ 93 → x ≠ 94 → x ≠ 95 → x ≠ 101 → x ≠ 102 → x ≠ 82 → I2 x = I x) ∧ ∀ j, j ≠ 16 → j ≠ 17 → I2 82 j = I 82 j := by
  obtain ⟨g1, g2, g3, h⟩ := h
  obtain ⟨h1, h2⟩ := RO_iff.mp h
  refine ⟨fun x q1 q2 q3 q4 q5 q6 q7 q8 q9 => ?_, fun j q1 q2 => ?_⟩
  · rw [h1 x q1 q2 q3 q7 q8 q9]; simp [upA, q4, q5, q6]
  · rw [h2 j q1 q2]; simp [upA]
theorem HR_st {I I2 I3 : hI} {k : Nat} {a b c : Int32} (h : HR I I2) (h2 : RO I2 I3) : HR I (upI (upI (upI I3 95 k a) 93 k b) 94 k c) := by
  obtain ⟨h1, h82⟩ := HR_out h
  obtain ⟨r1, r82⟩ := RO_iff.mp h2
  refine HR_of (fun x q1 q2 q3 q4 q5 q6 q7 q8 q9 => ?_) (fun j q1 q2 => ?_)
  · rw [← h1 x q1 q2 q3 q4 q5 q6 q7 q8 q9, ← r1 x q1 q2 q3 q7 q8 q9]; simp [upI, q4, q5, q6]
  · rw [← h82 j q1 q2, ← r82 j q1 q2]; simp [upI]
theorem wd_L {q : Int32 × Int32} (h1 : q.1.toInt ≤ q.2.toInt) (h2 : q.2.toInt - q.1.toInt ≤ 134) : (q.2 - q.1).toInt64 + nL 1 = nL (wd q) := by
  have h3 : wd q ≤ 135 := by unfold wd; omega
  have e1 : (q.2 - q.1).toInt = q.2.toInt - q.1.toInt := sb_sub (by omega) (by omega)
  have e2 : q.2 - q.1 = nI (wd q - 1) := by
    apply Int32.toInt_inj.mp
    rw [e1, nI_toInt (by omega)]
    unfold wd at *
    omega
  have h4 : 1 ≤ wd q := by unfold wd; omega
  rw [e2, nL_i2l (by omega), nL_add]
  congr 1
  omega
def clp (a b : Int64) : Int64 := if a < 0 then 0 else if b < a then b else a
theorem lg_ge (x y : Int64) : 0 ≤ lg_cmp x y ↔ ¬ x < y := by
  unfold lg_cmp
  by_cases h : x > y
  · rw [if_pos h]; exact ⟨fun _ z => Int64.lt_irrefl (Int64.lt_trans z h), fun _ => by decide⟩
  · rw [if_neg h]
    by_cases h2 : x = y
    · rw [if_pos h2]; exact ⟨fun _ => by rw [h2]; exact Int64.lt_irrefl, fun _ => by decide⟩
    · rw [if_neg h2]
      refine ⟨fun z => absurd z (by decide), fun z => ?_⟩
      exfalso
      have a1 := Int64.le_iff_toInt_le.mp (Int64.not_lt.mp z)
      have a2 := Int64.le_iff_toInt_le.mp (Int64.not_lt.mp h)
      exact h2 (L_ext (by omega))
theorem clp_fT {q : Int32 × Int32} {f : Int32} {e : Nat} (he : e ≤ 1) (h1 : q.1.toInt ≤ q.2.toInt) (h2 : q.2.toInt - q.1.toInt ≤ 134) (h3 : q.1.toInt.natAbs ≤ 320000000) (h4 : q.2.toInt.natAbs ≤ 320000000) (hf : f.toInt.natAbs ≤ 330000000) : clp ((f - q.1).toInt64 + nL e) (nL (wd q)) = nL (fT q (f.toInt + e - 1)) := by
  have e1 : (f - q.1).toInt = f.toInt - q.1.toInt := sb_sub (by omega) (by omega)
  have h5 : wd q ≤ 135 := by unfold wd; omega
  have hb : fT q (f.toInt + e - 1) ≤ 135 := by unfold fT; omega
  have e2 : ((f - q.1).toInt64 + nL e).toInt = f.toInt - q.1.toInt + e := by
    rw [Int64.toInt_add, Int32.toInt_toInt64, e1, nL_toInt (by omega)]
    exact Int.bmod_eq_of_le (by simp; omega) (by simp; omega)
  generalize (f - q.1).toInt64 + nL e = g at e2 ⊢
  unfold clp
  have e3 : (nL (wd q)).toInt = wd q := nL_toInt (by omega)
  have z0 : (0 : Int64).toInt = 0 := by decide
  apply L_ext
  rw [nL_toInt (show fT q (f.toInt + e - 1) < 9223372036854775808 by omega)]
  by_cases c : g < 0
  · rw [if_pos c, z0]
    have := Int64.lt_iff_toInt_lt.mp c
    rw [e2, z0] at this
    unfold fT
    omega
  · rw [if_neg c]
    have c1 := Int64.le_iff_toInt_le.mp (Int64.not_lt.mp c)
    rw [e2, z0] at c1
    by_cases c2 : nL (wd q) < g
    · rw [if_pos c2, e3]
      have := Int64.lt_iff_toInt_lt.mp c2
      rw [e2, e3] at this
      unfold fT wd at *
      omega
    · rw [if_neg c2, e2]
      have := Int64.le_iff_toInt_le.mp (Int64.not_lt.mp c2)
      rw [e2, e3] at this
      unfold fT wd at *
      omega
