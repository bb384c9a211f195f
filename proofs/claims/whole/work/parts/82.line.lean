/-- a line behind e, n lines before it: a fault, or its end, bend and condition -/
noncomputable def lnF (tp : Nat → Nat) (nt n e : Nat) : Nat ⊕ (Nat × Nat × Option qP) :=
  if tC tp nt e = 1 ∧ n < 8 then
    if tC tp nt (tE tp nt e) = 11 ∧ tV tp nt (tE tp nt e) ≤ 99 then
      if tC tp nt (tE tp nt (tE tp nt e)) = 2 then
        match run tp nt (nt + 1) none (tE tp nt (tE tp nt (tE tp nt e))) [(none, none, 0)] with
        | Sum.inl f => Sum.inl f
        | Sum.inr (e4, p) => if tC tp nt e4 = 79 then Sum.inr (tE tp nt e4, tV tp nt (tE tp nt e), some p) else Sum.inl (tS tp nt e4)
      else if tC tp nt (tE tp nt (tE tp nt e)) = 79 then Sum.inr (tE tp nt (tE tp nt (tE tp nt e)), tV tp nt (tE tp nt e), none) else Sum.inl (tS tp nt (tE tp nt (tE tp nt e)))
    else Sum.inl (tS tp nt (tE tp nt e))
  else Sum.inl (tS tp nt e)
section LNF
variable {tp : Nat → Nat} {nt n e f e4 : Nat} {p : qP}
theorem ln_1 (h : ¬ (tC tp nt e = 1 ∧ n < 8)) : lnF tp nt n e = Sum.inl (tS tp nt e) := if_neg h
theorem ln_2 (h : tC tp nt e = 1 ∧ n < 8) (h2 : ¬ (tC tp nt (tE tp nt e) = 11 ∧ tV tp nt (tE tp nt e) ≤ 99)) : lnF tp nt n e = Sum.inl (tS tp nt (tE tp nt e)) := (if_pos h).trans (if_neg h2)
theorem ln_3 (h : tC tp nt e = 1 ∧ n < 8) (h2 : tC tp nt (tE tp nt e) = 11 ∧ tV tp nt (tE tp nt e) ≤ 99) (h3 : ¬ tC tp nt (tE tp nt (tE tp nt e)) = 2) (h4 : ¬ tC tp nt (tE tp nt (tE tp nt e)) = 79) : lnF tp nt n e = Sum.inl (tS tp nt (tE tp nt (tE tp nt e))) := (if_pos h).trans ((if_pos h2).trans ((if_neg h3).trans (if_neg h4)))
theorem ln_4 (h : tC tp nt e = 1 ∧ n < 8) (h2 : tC tp nt (tE tp nt e) = 11 ∧ tV tp nt (tE tp nt e) ≤ 99) (h4 : tC tp nt (tE tp nt (tE tp nt e)) = 79) : lnF tp nt n e = Sum.inr (tE tp nt (tE tp nt (tE tp nt e)), tV tp nt (tE tp nt e), none) := (if_pos h).trans ((if_pos h2).trans ((if_neg (by omega)).trans (if_pos h4)))
theorem ln_5 (h : tC tp nt e = 1 ∧ n < 8) (h2 : tC tp nt (tE tp nt e) = 11 ∧ tV tp nt (tE tp nt e) ≤ 99) (h3 : tC tp nt (tE tp nt (tE tp nt e)) = 2) (hr : run tp nt (nt + 1) none (tE tp nt (tE tp nt (tE tp nt e))) [(none, none, 0)] = Sum.inl f) : lnF tp nt n e = Sum.inl f := by
  refine (if_pos h).trans ((if_pos h2).trans ((if_pos h3).trans ?_))
  rw [hr]
theorem ln_6 (h : tC tp nt e = 1 ∧ n < 8) (h2 : tC tp nt (tE tp nt e) = 11 ∧ tV tp nt (tE tp nt e) ≤ 99) (h3 : tC tp nt (tE tp nt (tE tp nt e)) = 2) (hr : run tp nt (nt + 1) none (tE tp nt (tE tp nt (tE tp nt e))) [(none, none, 0)] = Sum.inr (e4, p)) (h4 : ¬ tC tp nt e4 = 79) : lnF tp nt n e = Sum.inl (tS tp nt e4) := by
  refine (if_pos h).trans ((if_pos h2).trans ((if_pos h3).trans ?_))
  rw [hr]
  exact if_neg h4
theorem ln_7 (h : tC tp nt e = 1 ∧ n < 8) (h2 : tC tp nt (tE tp nt e) = 11 ∧ tV tp nt (tE tp nt e) ≤ 99) (h3 : tC tp nt (tE tp nt (tE tp nt e)) = 2) (hr : run tp nt (nt + 1) none (tE tp nt (tE tp nt (tE tp nt e))) [(none, none, 0)] = Sum.inr (e4, p)) (h4 : tC tp nt e4 = 79) : lnF tp nt n e = Sum.inr (tE tp nt e4, tV tp nt (tE tp nt e), some p) := by
  refine (if_pos h).trans ((if_pos h2).trans ((if_pos h3).trans ?_))
  rw [hr]
  exact if_pos h4
end LNF
