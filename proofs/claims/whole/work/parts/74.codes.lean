def wc (tp : Nat → Nat) (s n : Nat) : Nat := if (n = 4 ∧ tp s = 98 ∧ tp (s + 1) = 101 ∧ tp (s + 2) = 110 ∧ tp (s + 3) = 100) then 1 else if (n = 2 ∧ tp s = 105 ∧ tp (s + 1) = 102) then 2 else if (n = 2 ∧ tp s = 111 ∧ tp (s + 1) = 114) then 3 else if (n = 3 ∧ tp s = 97 ∧ tp (s + 1) = 110 ∧ tp (s + 2) = 100) then 4 else if (n = 3 ∧ tp s = 110 ∧ tp (s + 1) = 111 ∧ tp (s + 2) = 116) then 5 else if (n = 4 ∧ tp s = 104 ∧ tp (s + 1) = 101 ∧ tp (s + 2) = 97 ∧ tp (s + 3) = 116) then 6 else if (n = 4 ∧ tp s = 104 ∧ tp (s + 1) = 111 ∧ tp (s + 2) = 117 ∧ tp (s + 3) = 114) then 7 else if (n = 4 ∧ tp s = 97 ∧ tp (s + 1) = 119 ∧ tp (s + 2) = 97 ∧ tp (s + 3) = 121) then 8 else if (n = 4 ∧ tp s = 107 ∧ tp (s + 1) = 105 ∧ tp (s + 2) = 110 ∧ tp (s + 3) = 100) then 9 else 10
theorem wc_1 (tp : Nat → Nat) (s n : Nat) : wc tp s n = 1 ↔ (n = 4 ∧ tp s = 98 ∧ tp (s + 1) = 101 ∧ tp (s + 2) = 110 ∧ tp (s + 3) = 100) := by
  constructor
  · intro h
    unfold wc at h
    split at h
    · assumption
    split at h
    · exact absurd h (by decide)
    split at h
    · exact absurd h (by decide)
    split at h
    · exact absurd h (by decide)
    split at h
    · exact absurd h (by decide)
    split at h
    · exact absurd h (by decide)
    split at h
    · exact absurd h (by decide)
    split at h
    · exact absurd h (by decide)
    split at h
    · exact absurd h (by decide)
    exact absurd h (by decide)
  · intro p
    unfold wc
    rw [if_pos p]
theorem wc_2 (tp : Nat → Nat) (s n : Nat) : wc tp s n = 2 ↔ (n = 2 ∧ tp s = 105 ∧ tp (s + 1) = 102) := by
  constructor
  · intro h
    unfold wc at h
    split at h
    · exact absurd h (by decide)
    split at h
    · assumption
    split at h
    · exact absurd h (by decide)
    split at h
    · exact absurd h (by decide)
    split at h
    · exact absurd h (by decide)
    split at h
    · exact absurd h (by decide)
    split at h
    · exact absurd h (by decide)
    split at h
    · exact absurd h (by decide)
    split at h
    · exact absurd h (by decide)
    exact absurd h (by decide)
  · intro p
    unfold wc
    rw [if_neg (fun z => by omega), if_pos p]
theorem wc_3 (tp : Nat → Nat) (s n : Nat) : wc tp s n = 3 ↔ (n = 2 ∧ tp s = 111 ∧ tp (s + 1) = 114) := by
  constructor
  · intro h
    unfold wc at h
    split at h
    · exact absurd h (by decide)
    split at h
    · exact absurd h (by decide)
    split at h
    · assumption
    split at h
    · exact absurd h (by decide)
    split at h
    · exact absurd h (by decide)
    split at h
    · exact absurd h (by decide)
    split at h
    · exact absurd h (by decide)
    split at h
    · exact absurd h (by decide)
    split at h
    · exact absurd h (by decide)
    exact absurd h (by decide)
  · intro p
    unfold wc
    rw [if_neg (fun z => by omega), if_neg (fun z => by omega), if_pos p]
theorem wc_4 (tp : Nat → Nat) (s n : Nat) : wc tp s n = 4 ↔ (n = 3 ∧ tp s = 97 ∧ tp (s + 1) = 110 ∧ tp (s + 2) = 100) := by
  constructor
  · intro h
    unfold wc at h
    split at h
    · exact absurd h (by decide)
    split at h
    · exact absurd h (by decide)
    split at h
    · exact absurd h (by decide)
    split at h
    · assumption
    split at h
    · exact absurd h (by decide)
    split at h
    · exact absurd h (by decide)
    split at h
    · exact absurd h (by decide)
    split at h
    · exact absurd h (by decide)
    split at h
    · exact absurd h (by decide)
    exact absurd h (by decide)
  · intro p
    unfold wc
    rw [if_neg (fun z => by omega), if_neg (fun z => by omega), if_neg (fun z => by omega), if_pos p]
theorem wc_5 (tp : Nat → Nat) (s n : Nat) : wc tp s n = 5 ↔ (n = 3 ∧ tp s = 110 ∧ tp (s + 1) = 111 ∧ tp (s + 2) = 116) := by
  constructor
  · intro h
    unfold wc at h
    split at h
    · exact absurd h (by decide)
    split at h
    · exact absurd h (by decide)
    split at h
    · exact absurd h (by decide)
    split at h
    · exact absurd h (by decide)
    split at h
    · assumption
    split at h
    · exact absurd h (by decide)
    split at h
    · exact absurd h (by decide)
    split at h
    · exact absurd h (by decide)
    split at h
    · exact absurd h (by decide)
    exact absurd h (by decide)
  · intro p
    unfold wc
    rw [if_neg (fun z => by omega), if_neg (fun z => by omega), if_neg (fun z => by omega), if_neg (fun z => by omega), if_pos p]
theorem wc_6 (tp : Nat → Nat) (s n : Nat) : wc tp s n = 6 ↔ (n = 4 ∧ tp s = 104 ∧ tp (s + 1) = 101 ∧ tp (s + 2) = 97 ∧ tp (s + 3) = 116) := by
  constructor
  · intro h
    unfold wc at h
    split at h
    · exact absurd h (by decide)
    split at h
    · exact absurd h (by decide)
    split at h
    · exact absurd h (by decide)
    split at h
    · exact absurd h (by decide)
    split at h
    · exact absurd h (by decide)
    split at h
    · assumption
    split at h
    · exact absurd h (by decide)
    split at h
    · exact absurd h (by decide)
    split at h
    · exact absurd h (by decide)
    exact absurd h (by decide)
  · intro p
    unfold wc
    rw [if_neg (fun z => by omega), if_neg (fun z => by omega), if_neg (fun z => by omega), if_neg (fun z => by omega), if_neg (fun z => by omega), if_pos p]
theorem wc_7 (tp : Nat → Nat) (s n : Nat) : wc tp s n = 7 ↔ (n = 4 ∧ tp s = 104 ∧ tp (s + 1) = 111 ∧ tp (s + 2) = 117 ∧ tp (s + 3) = 114) := by
  constructor
  · intro h
    unfold wc at h
    split at h
    · exact absurd h (by decide)
    split at h
    · exact absurd h (by decide)
    split at h
    · exact absurd h (by decide)
    split at h
    · exact absurd h (by decide)
    split at h
    · exact absurd h (by decide)
    split at h
    · exact absurd h (by decide)
    split at h
    · assumption
    split at h
    · exact absurd h (by decide)
    split at h
    · exact absurd h (by decide)
    exact absurd h (by decide)
  · intro p
    unfold wc
    rw [if_neg (fun z => by omega), if_neg (fun z => by omega), if_neg (fun z => by omega), if_neg (fun z => by omega), if_neg (fun z => by omega), if_neg (fun z => by omega), if_pos p]
theorem wc_8 (tp : Nat → Nat) (s n : Nat) : wc tp s n = 8 ↔ (n = 4 ∧ tp s = 97 ∧ tp (s + 1) = 119 ∧ tp (s + 2) = 97 ∧ tp (s + 3) = 121) := by
  constructor
  · intro h
    unfold wc at h
    split at h
    · exact absurd h (by decide)
    split at h
    · exact absurd h (by decide)
    split at h
    · exact absurd h (by decide)
    split at h
    · exact absurd h (by decide)
    split at h
    · exact absurd h (by decide)
    split at h
    · exact absurd h (by decide)
    split at h
    · exact absurd h (by decide)
    split at h
    · assumption
    split at h
    · exact absurd h (by decide)
    exact absurd h (by decide)
  · intro p
    unfold wc
    rw [if_neg (fun z => by omega), if_neg (fun z => by omega), if_neg (fun z => by omega), if_neg (fun z => by omega), if_neg (fun z => by omega), if_neg (fun z => by omega), if_neg (fun z => by omega), if_pos p]
theorem wc_9 (tp : Nat → Nat) (s n : Nat) : wc tp s n = 9 ↔ (n = 4 ∧ tp s = 107 ∧ tp (s + 1) = 105 ∧ tp (s + 2) = 110 ∧ tp (s + 3) = 100) := by
  constructor
  · intro h
    unfold wc at h
    split at h
    · exact absurd h (by decide)
    split at h
    · exact absurd h (by decide)
    split at h
    · exact absurd h (by decide)
    split at h
    · exact absurd h (by decide)
    split at h
    · exact absurd h (by decide)
    split at h
    · exact absurd h (by decide)
    split at h
    · exact absurd h (by decide)
    split at h
    · exact absurd h (by decide)
    split at h
    · assumption
    exact absurd h (by decide)
  · intro p
    unfold wc
    rw [if_neg (fun z => by omega), if_neg (fun z => by omega), if_neg (fun z => by omega), if_neg (fun z => by omega), if_neg (fun z => by omega), if_neg (fun z => by omega), if_neg (fun z => by omega), if_neg (fun z => by omega), if_pos p]
theorem wc_rng (tp : Nat → Nat) (s n : Nat) : 1 ≤ wc tp s n ∧ wc tp s n ≤ 10 := by
  unfold wc
  split
  · exact ⟨by decide, by decide⟩
  split
  · exact ⟨by decide, by decide⟩
  split
  · exact ⟨by decide, by decide⟩
  split
  · exact ⟨by decide, by decide⟩
  split
  · exact ⟨by decide, by decide⟩
  split
  · exact ⟨by decide, by decide⟩
  split
  · exact ⟨by decide, by decide⟩
  split
  · exact ⟨by decide, by decide⟩
  split
  · exact ⟨by decide, by decide⟩
  exact ⟨by decide, by decide⟩
def tC (tp : Nat → Nat) (nt e : Nat) : Nat := if tS tp nt e < tW tp nt e then wc tp (tS tp nt e) (tW tp nt e - tS tp nt e) else if tS tp nt e < tD tp nt e then (if tD tp nt e - tS tp nt e ≤ 3 then 11 else 12) else if tS tp nt e < nt then 20 + tp (tS tp nt e) else 0
theorem tk_rng (tp : Nat → Nat) {nt e : Nat} (h : e ≤ nt) : e ≤ tS tp nt e ∧ tS tp nt e ≤ nt ∧ tS tp nt e ≤ tW tp nt e ∧ tW tp nt e ≤ nt ∧ tS tp nt e ≤ tD tp nt e ∧ tD tp nt e ≤ nt := by
  have a : e ≤ tS tp nt e ∧ tS tp nt e ≤ nt := scn_ge (P := isSp tp) (nt := nt) (nt + 1) e (by omega) h
  have b : tS tp nt e ≤ tW tp nt e ∧ tW tp nt e ≤ nt := scn_ge (P := isLt tp) (nt := nt) (nt + 1) _ (by omega) a.2
  have c : tS tp nt e ≤ tD tp nt e ∧ tD tp nt e ≤ nt := scn_ge (P := isDg tp) (nt := nt) (nt + 1) _ (by omega) a.2
  omega
theorem tk_let (tp : Nat → Nat) {nt e : Nat} (h : e ≤ nt) : ∀ j, tS tp nt e ≤ j → j < tW tp nt e → 97 ≤ tp j ∧ tp j ≤ 122 := fun j h1 h2 => of_decide_eq_true (scn_all (P := isLt tp) (nt := nt) (nt + 1) _ (by omega) (tk_rng tp h).2.1 j h1 h2)
/-- the end of a token -/
theorem tE_rng (tp : Nat → Nat) {nt e : Nat} (h : e ≤ nt) : tS tp nt e ≤ tE tp nt e ∧ tE tp nt e ≤ nt ∧ (tC tp nt e ≠ 0 → tS tp nt e + 1 ≤ tE tp nt e) ∧ (tC tp nt e = 3 → tS tp nt e + 2 ≤ tE tp nt e) ∧ (tC tp nt e = 4 → tS tp nt e + 3 ≤ tE tp nt e) ∧ (tC tp nt e = 5 → tS tp nt e + 3 ≤ tE tp nt e) := by
  obtain ⟨r1, r2, r3, r4, r5, r6⟩ := tk_rng tp h
  unfold tE tC
  by_cases h1 : tS tp nt e < tW tp nt e
  · rw [if_pos h1, if_pos h1]
    have a3 := wc_3 tp (tS tp nt e) (tW tp nt e - tS tp nt e)
    have a4 := wc_4 tp (tS tp nt e) (tW tp nt e - tS tp nt e)
    have a5 := wc_5 tp (tS tp nt e) (tW tp nt e - tS tp nt e)
    refine ⟨by omega, by omega, fun _ => by omega, fun z => ?_, fun z => ?_, fun z => ?_⟩
    · have := a3.mp z; omega
    · have := a4.mp z; omega
    · have := a5.mp z; omega
  · rw [if_neg h1, if_neg h1]
    by_cases h2 : tS tp nt e < tD tp nt e
    · rw [if_pos h2, if_pos h2]
      by_cases h3 : tD tp nt e - tS tp nt e ≤ 3
      · rw [if_pos h3]; omega
      · rw [if_neg h3]; omega
    · rw [if_neg h2, if_neg h2]
      by_cases h3 : tS tp nt e < nt
      · rw [if_pos h3, if_pos h3]; omega
      · rw [if_neg h3, if_neg h3]; omega
theorem pk_4 {tp : Nat → Nat} {s n : Nat} (h0 : 1 ≤ n) (h4 : n ≤ 4) (hl : ∀ j, s ≤ j → j < s + n → 97 ≤ tp j ∧ tp j ≤ 122) : 97 ≤ pk tp s n ∧ pk tp s n < 2147483648 ∧ (pk tp s n = 1650814564 ↔ wc tp s n = 1) ∧ (pk tp s n = 26982 ↔ wc tp s n = 2) ∧ (pk tp s n = 28530 ↔ wc tp s n = 3) ∧ (pk tp s n = 6385252 ↔ wc tp s n = 4) ∧ (pk tp s n = 7237492 ↔ wc tp s n = 5) ∧ (pk tp s n = 1751474548 ↔ wc tp s n = 6) ∧ (pk tp s n = 1752135026 ↔ wc tp s n = 7) ∧ (pk tp s n = 1635213689 ↔ wc tp s n = 8) ∧ (pk tp s n = 1802071652 ↔ wc tp s n = 9) := by
  rw [wc_1, wc_2, wc_3, wc_4, wc_5, wc_6, wc_7, wc_8, wc_9]
  have l0 := hl s (by omega) (by omega)
  match n, h0, h4 with
  | 1, _, _ =>
    rw [show pk tp s 1 = tp s by show 0 * 256 + tp (s + 0) = _; rw [Nat.add_zero]; omega]
    exact ⟨by omega, by omega, by omega, by omega, by omega, by omega, by omega, by omega, by omega, by omega, by omega⟩
  | 2, _, _ =>
    have l1 := hl (s + 1) (by omega) (by omega)
    rw [show pk tp s 2 = tp s * 256 + tp (s + 1) by show (0 * 256 + tp (s + 0)) * 256 + tp (s + 1) = _; rw [Nat.add_zero]; omega]
    exact ⟨by omega, by omega, by omega, by omega, by omega, by omega, by omega, by omega, by omega, by omega, by omega⟩
  | 3, _, _ =>
    have l1 := hl (s + 1) (by omega) (by omega)
    have l2 := hl (s + 2) (by omega) (by omega)
    rw [show pk tp s 3 = (tp s * 256 + tp (s + 1)) * 256 + tp (s + 2) by show ((0 * 256 + tp (s + 0)) * 256 + tp (s + 1)) * 256 + tp (s + 2) = _; rw [Nat.add_zero]; omega]
    exact ⟨by omega, by omega, by omega, by omega, by omega, by omega, by omega, by omega, by omega, by omega, by omega⟩
  | 4, _, _ =>
    have l1 := hl (s + 1) (by omega) (by omega)
    have l2 := hl (s + 2) (by omega) (by omega)
    have l3 := hl (s + 3) (by omega) (by omega)
    rw [show pk tp s 4 = ((tp s * 256 + tp (s + 1)) * 256 + tp (s + 2)) * 256 + tp (s + 3) by show (((0 * 256 + tp (s + 0)) * 256 + tp (s + 1)) * 256 + tp (s + 2)) * 256 + tp (s + 3) = _; rw [Nat.add_zero]; omega]
    exact ⟨by omega, by omega, by omega, by omega, by omega, by omega, by omega, by omega, by omega, by omega, by omega⟩
theorem w27_4 {tp : Nat → Nat} {s n : Nat} (h0 : 1 ≤ n) (h4 : n ≤ 4) (hl : ∀ j, s ≤ j → j < s + n → 97 ≤ tp j ∧ tp j ≤ 122) : w27 tp s n < 531441 ∧ (w27 tp s n = 43393 ↔ wc tp s n = 1) ∧ (w27 tp s n = 249 ↔ wc tp s n = 2) ∧ (w27 tp s n = 423 ↔ wc tp s n = 3) ∧ (w27 tp s n = 1111 ↔ wc tp s n = 4) ∧ (w27 tp s n = 10631 ↔ wc tp s n = 5) ∧ (w27 tp s n = 161156 ↔ wc tp s n = 6) ∧ (w27 tp s n = 168984 ↔ wc tp s n = 7) ∧ (w27 tp s n = 36502 ↔ wc tp s n = 8) ∧ (w27 tp s n = 223456 ↔ wc tp s n = 9) := by
  rw [wc_1, wc_2, wc_3, wc_4, wc_5, wc_6, wc_7, wc_8, wc_9]
  have l0 := hl s (by omega) (by omega)
  match n, h0, h4 with
  | 1, _, _ =>
    rw [show w27 tp s 1 = tp s - 96 by show 0 * 27 + (tp (s + 0) - 96) = _; rw [Nat.add_zero]; omega]
    exact ⟨by omega, by omega, by omega, by omega, by omega, by omega, by omega, by omega, by omega, by omega⟩
  | 2, _, _ =>
    have l1 := hl (s + 1) (by omega) (by omega)
    rw [show w27 tp s 2 = (tp s - 96) * 27 + (tp (s + 1) - 96) by show (0 * 27 + (tp (s + 0) - 96)) * 27 + (tp (s + 1) - 96) = _; rw [Nat.add_zero]; omega]
    exact ⟨by omega, by omega, by omega, by omega, by omega, by omega, by omega, by omega, by omega, by omega⟩
  | 3, _, _ =>
    have l1 := hl (s + 1) (by omega) (by omega)
    have l2 := hl (s + 2) (by omega) (by omega)
    rw [show w27 tp s 3 = ((tp s - 96) * 27 + (tp (s + 1) - 96)) * 27 + (tp (s + 2) - 96) by show ((0 * 27 + (tp (s + 0) - 96)) * 27 + (tp (s + 1) - 96)) * 27 + (tp (s + 2) - 96) = _; rw [Nat.add_zero]; omega]
    exact ⟨by omega, by omega, by omega, by omega, by omega, by omega, by omega, by omega, by omega, by omega⟩
  | 4, _, _ =>
    have l1 := hl (s + 1) (by omega) (by omega)
    have l2 := hl (s + 2) (by omega) (by omega)
    have l3 := hl (s + 3) (by omega) (by omega)
    rw [show w27 tp s 4 = (((tp s - 96) * 27 + (tp (s + 1) - 96)) * 27 + (tp (s + 2) - 96)) * 27 + (tp (s + 3) - 96) by show (((0 * 27 + (tp (s + 0) - 96)) * 27 + (tp (s + 1) - 96)) * 27 + (tp (s + 2) - 96)) * 27 + (tp (s + 3) - 96) = _; rw [Nat.add_zero]; omega]
    exact ⟨by omega, by omega, by omega, by omega, by omega, by omega, by omega, by omega, by omega, by omega⟩
theorem w27_lo {tp : Nat → Nat} {s : Nat} : ∀ n, (∀ j, s ≤ j → j < s + (n + 1) → 97 ≤ tp j ∧ tp j ≤ 122) → 27 ^ n ≤ w27 tp s (n + 1)
  | 0, h => by
    have l := h s (by omega) (by omega)
    show 1 ≤ 0 * 27 + (tp (s + 0) - 96)
    rw [Nat.add_zero]
    omega
  | n + 1, h => by
    have ih := w27_lo n (fun j h1 h2 => h j h1 (by omega))
    rw [Nat.pow_succ]
    show _ ≤ w27 tp s (n + 1) * 27 + (tp (s + (n + 1)) - 96)
    omega
theorem w27_hi {tp : Nat → Nat} {s : Nat} : ∀ n, (∀ j, s ≤ j → j < s + n → 97 ≤ tp j ∧ tp j ≤ 122) → w27 tp s n < 27 ^ n
  | 0, _ => Nat.zero_lt_one
  | n + 1, h => by
    have ih := w27_hi n (fun j h1 h2 => h j h1 (by omega))
    have l := h (s + n) (by omega) (by omega)
    rw [Nat.pow_succ]
    show w27 tp s n * 27 + (tp (s + n) - 96) < _
    omega
