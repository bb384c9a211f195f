theorem by_low (x : Int64) : x.toInt32.toInt8.toInt32.toInt8.toInt32 = (x &&& 255).toInt32.toInt8.toInt32 := by
  apply Int32.toBitVec_inj.mp
  simp
  ext i hi
  simp
  intro _
  have key : ∀ i, (h : i < 32) → (4294967295#32)[i] = true := by decide
  exact key i hi
theorem by_nat (x : Int64) : ∃ b, b < 256 ∧ (x &&& 255).toInt32 = nI b := by
  refine ⟨(x &&& 255).toBitVec.toNat, ?_, ?_⟩
  · simp
    have := Nat.and_le_right (n := x.toBitVec.toNat) (m := 255)
    omega
  · apply Int32.toBitVec_inj.mp
    unfold nI
    simp
    rw [BitVec.signExtend_eq_setWidth_of_le _ (by decide)]
/-- the tape of both -/
def cT (I : hI) (nt : Nat) (tp : Nat → Nat) : Prop := I 0 7 = nI nt ∧ nt ≤ 200 ∧ ∀ j, j < nt → tp j < 256 ∧ I 61 j = (nI (tp j)).toInt8.toInt32
def rT (I : hI) (nt : Nat) (tp : Nat → Nat) : Prop := I 82 22 = nI nt ∧ nt ≤ 200 ∧ ∀ j, j < nt → tp j < 256 ∧ I 96 j = nI (tp j)
def ush (v : Int64) (i : Nat) : Int64 := (v.toUInt64 >>> ((nI (8 * i)).toInt64.toUInt64 &&& Int64.toUInt64 63)).toInt64
noncomputable def byt (v : Int64) (i : Nat) : Nat := Classical.choose (by_nat (ush v i))
theorem byt_r (v : Int64) (i : Nat) : byt v i < 256 ∧ (ush v i &&& 255).toInt32 = nI (byt v i) := Classical.choose_spec (by_nat (ush v i))
theorem byt_c (v : Int64) (i : Nat) : (ush v i).toInt32.toInt8.toInt32.toInt8.toInt32 = (nI (byt v i)).toInt8.toInt32 := by
  rw [by_low, (byt_r v i).2]
noncomputable def tpU (tp : Nat → Nat) (nt : Nat) (v : Int64) (k : Nat) : Nat → Nat := fun j => if nt ≤ j ∧ j < nt + k then byt v (j - nt) else tp j
def FC (I I2 : hI) : Prop := ∃ g61 v0_7, I2 = (upI (upA I 61 g61) 0 7 v0_7)
theorem FC_iff {I I2 : hI} : FC I I2 ↔ (∀ x, x ≠ 61 → x ≠ 0 → I2 x = I x) ∧ ∀ j, j ≠ 7 → I2 0 j = I 0 j := by
  constructor
  · rintro ⟨g61, v0_7, rfl⟩
    refine ⟨fun x h61 h0 => ?_, fun j q7 => ?_⟩
    · simp [upA, upI, h61, h0]
    · simp [upA, upI, upd, q7]
  · rintro ⟨h, f0⟩
    refine ⟨I2 61, I2 0 7, ?_⟩
    funext x
    by_cases e61 : x = 61
    · subst e61; simp [upA, upI]
    · skip
      by_cases e0 : x = 0
      · subst e0
        funext j
        by_cases q7 : j = 7
        · subst q7; simp [upA, upI, upd]
        · skip
          simp [upA, upI, upd, q7, f0 j q7]
      · skip
        simp [upA, upI, e61, e0, h x e61 e0]
theorem FC_id (I : hI) : FC I I := FC_iff.mpr ⟨fun x _ _ => rfl, fun j _ => rfl⟩
theorem FC_tr {I I2 I3 : hI} (h1 : FC I I2) (h2 : FC I2 I3) : FC I I3 := FC_iff.mpr ⟨fun x h61 h0 => ((FC_iff.mp h2).1 x h61 h0).trans ((FC_iff.mp h1).1 x h61 h0), fun j q7 => ((FC_iff.mp h2).2 j q7).trans ((FC_iff.mp h1).2 j q7)⟩
def FR (I I2 : hI) : Prop := ∃ g96 v82_22, I2 = (upI (upA I 96 g96) 82 22 v82_22)
theorem FR_iff {I I2 : hI} : FR I I2 ↔ (∀ x, x ≠ 96 → x ≠ 82 → I2 x = I x) ∧ ∀ j, j ≠ 22 → I2 82 j = I 82 j := by
  constructor
  · rintro ⟨g96, v82_22, rfl⟩
    refine ⟨fun x h96 h82 => ?_, fun j q22 => ?_⟩
    · simp [upA, upI, h96, h82]
    · simp [upA, upI, upd, q22]
  · rintro ⟨h, f82⟩
    refine ⟨I2 96, I2 82 22, ?_⟩
    funext x
    by_cases e96 : x = 96
    · subst e96; simp [upA, upI]
    · skip
      by_cases e82 : x = 82
      · subst e82
        funext j
        by_cases q22 : j = 22
        · subst q22; simp [upA, upI, upd]
        · skip
          simp [upA, upI, upd, q22, f82 j q22]
      · skip
        simp [upA, upI, e96, e82, h x e96 e82]
theorem FR_id (I : hI) : FR I I := FR_iff.mpr ⟨fun x _ _ => rfl, fun j _ => rfl⟩
theorem FR_tr {I I2 I3 : hI} (h1 : FR I I2) (h2 : FR I2 I3) : FR I I3 := FR_iff.mpr ⟨fun x h96 h82 => ((FR_iff.mp h2).1 x h96 h82).trans ((FR_iff.mp h1).1 x h96 h82), fun j q22 => ((FR_iff.mp h2).2 j q22).trans ((FR_iff.mp h1).2 j q22)⟩
