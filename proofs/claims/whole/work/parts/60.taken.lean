def tkOk (x w : Int32) : Prop := sh4 x ∧ ((nI 0 ≤ w ∧ w ≤ nI 6) ∨ (nI 10 ≤ w ∧ w ≤ nI 13))
/-- no thing on the shelf -/
def noT (nk np : Nat) (sk : Nat → Nat) (sm : Nat → Int32) (s : Nat) : Prop := sk s = 3 ∨ (sk s = 0 ∧ ¬ isIx (sm s) nk) ∨ (sk s = 1 ∧ ¬ isIx (sm s) np)
