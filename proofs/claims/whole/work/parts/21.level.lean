def lsP (fa fb sl f : Nat → Nat) (k s : Nat) : Bool := (decide (fb k = s) && decide (f (fa k) < 1000000) && decide (f (fa k) + sl k = f s)) || (decide (fa k = s) && decide (f (fb k) < 1000000) && decide (f (fb k) + sl k = f s))
def lstN (fa fb sl f : Nat → Nat) (s : Nat) : Nat → Option Nat
  | 0 => none
  | n + 1 => match lstN fa fb sl f s n with
    | some k => some k
    | none => if lsP fa fb sl f n s then some n else none
/-- the last leg of a station -/
def lst (fa fb sl f : Nat → Nat) (nl s : Nat) : Option Nat := if s = 0 ∨ ¬ f s < 1000000 then none else lstN fa fb sl f s nl
def lsI (fa fb sl f : Nat → Nat) (nl s : Nat) : Int32 := match lst fa fb sl f nl s with
  | some k => nI k
  | none => -9
def oth (fa fb : Nat → Nat) (k s : Nat) : Nat := if fa k = s then fb k else fa k
def lev (fa fb sl f : Nat → Nat) (rs : Nat → Int32) (nl : Nat) : Nat → Nat → Int32
  | 0, _ => 0
  | n + 1, s => match lst fa fb sl f nl s with
    | none => 0
    | some k => (if fb k = s then rs k else - rs k) + lev fa fb sl f rs nl n (oth fa fb k s)
section LV
variable {fa fb sl f : Nat → Nat} {rs : Nat → Int32} {ns nl : Nat}
theorem lsP_iff {k s : Nat} : lsP fa fb sl f k s = true ↔ (fb k = s ∧ f (fa k) < 1000000 ∧ f (fa k) + sl k = f s) ∨ (fa k = s ∧ f (fb k) < 1000000 ∧ f (fb k) + sl k = f s) := by
  simp [lsP, and_assoc]
theorem lstN_some {s n k : Nat} (h : lstN fa fb sl f s n = some k) : k < n ∧ lsP fa fb sl f k s = true ∧ ∀ j, j < k → lsP fa fb sl f j s = false := by
  induction n generalizing k with
  | zero => cases h
  | succ n ih =>
    unfold lstN at h
    cases hn : lstN fa fb sl f s n with
    | some q => rw [hn] at h; cases h; obtain ⟨a, b, c⟩ := ih hn; exact ⟨by omega, b, c⟩
    | none =>
      rw [hn] at h
      have hnone : ∀ m, lstN fa fb sl f s m = none → ∀ j, j < m → lsP fa fb sl f j s = false := by
        intro m
        induction m with
        | zero => intro _ j hj; omega
        | succ m ihm =>
          intro hm j hj
          unfold lstN at hm
          cases hq : lstN fa fb sl f s m with
          | some q => rw [hq] at hm; cases hm
          | none =>
            rw [hq] at hm
            by_cases hp : lsP fa fb sl f m s = true
            · simp [hp] at hm
            · by_cases e : j = m
              · subst e; simpa using hp
              · exact ihm hq j (by omega)
      by_cases hp : lsP fa fb sl f n s = true
      · simp [hp] at h; subst h; exact ⟨by omega, hp, hnone n hn⟩
      · simp [hp] at h
theorem lstN_none {s m : Nat} (h : lstN fa fb sl f s m = none) : ∀ j, j < m → lsP fa fb sl f j s = false := by
  induction m with
  | zero => intro j hj; omega
  | succ m ihm =>
    intro j hj
    unfold lstN at h
    cases hq : lstN fa fb sl f s m with
    | some q => rw [hq] at h; cases h
    | none =>
      rw [hq] at h
      by_cases hp : lsP fa fb sl f m s = true
      · simp [hp] at h
      · by_cases e : j = m
        · subst e; simpa using hp
        · exact ihm hq j (by omega)
theorem lstN_is {s n k : Nat} (hk : k < n) (hp : lsP fa fb sl f k s = true) (hj : ∀ j, j < k → lsP fa fb sl f j s = false) : lstN fa fb sl f s n = some k := by
  cases h : lstN fa fb sl f s n with
  | none => have := lstN_none h k hk; rw [hp] at this; cases this
  | some q =>
    obtain ⟨a, b, c⟩ := lstN_some h
    rcases Nat.lt_trichotomy q k with z | z | z
    · have := hj q z; rw [b] at this; cases this
    · rw [z]
    · have := c k z; rw [hp] at this; cases this
theorem lstN_no {s n : Nat} (hj : ∀ j, j < n → lsP fa fb sl f j s = false) : lstN fa fb sl f s n = none := by
  cases h : lstN fa fb sl f s n with
  | none => rfl
  | some q => obtain ⟨a, b, c⟩ := lstN_some h; have := hj q a; rw [b] at this; cases this
theorem lst_some {s k : Nat} (h : lst fa fb sl f nl s = some k) : s ≠ 0 ∧ f s < 1000000 ∧ k < nl ∧ lsP fa fb sl f k s = true := by
  unfold lst at h
  by_cases hc : s = 0 ∨ ¬ f s < 1000000
  · rw [if_pos hc] at h; cases h
  · rw [if_neg hc] at h
    obtain ⟨a, b, -⟩ := lstN_some h
    exact ⟨fun q => hc (Or.inl q), by omega, a, b⟩
theorem oth_of (hW : legW ns nl fa fb sl) {k s : Nat} (hk : k < nl) (hp : lsP fa fb sl f k s = true) : oth fa fb k s < ns ∧ f (oth fa fb k s) < 1000000 ∧ f (oth fa fb k s) + sl k = f s ∧ (fb k = s → oth fa fb k s = fa k) ∧ (¬ fb k = s → fa k = s ∧ oth fa fb k s = fb k) := by
  obtain ⟨w1, w2, w3, w4, w5⟩ := hW k hk
  unfold oth
  rcases lsP_iff.mp hp with ⟨q1, q2, q3⟩ | ⟨q1, q2, q3⟩
  · rw [if_neg (by omega)]; exact ⟨w1, q2, q3, fun _ => rfl, fun h => absurd q1 h⟩
  · rw [if_pos q1]; exact ⟨w2, q2, q3, fun h => by omega, fun _ => ⟨q1, rfl⟩⟩
theorem lev_stable (hW : legW ns nl fa fb sl) : ∀ (n s : Nat), s < ns → rk ns f s ≤ n → lev fa fb sl f rs nl (n + 1) s = lev fa fb sl f rs nl n s := by
  intro n
  induction n with
  | zero =>
    intro s hs hr
    unfold lev
    cases h : lst fa fb sl f nl s with
    | none => rfl
    | some k =>
      obtain ⟨-, -, hk, hp⟩ := lst_some h
      obtain ⟨w1, w2, w3, -⟩ := oth_of hW hk hp
      have := (hW k hk).2.2.2.1
      have := rk_lt (ns := ns) (f := f) (u := oth fa fb k s) (v := s) w1 (by omega)
      omega
  | succ n ih =>
    intro s hs hr
    rw [show lev fa fb sl f rs nl (n + 1 + 1) s = (match lst fa fb sl f nl s with | none => 0 | some k => (if fb k = s then rs k else - rs k) + lev fa fb sl f rs nl (n + 1) (oth fa fb k s)) from rfl]
    rw [show lev fa fb sl f rs nl (n + 1) s = (match lst fa fb sl f nl s with | none => 0 | some k => (if fb k = s then rs k else - rs k) + lev fa fb sl f rs nl n (oth fa fb k s)) from rfl]
    cases h : lst fa fb sl f nl s with
    | none => rfl
    | some k =>
      obtain ⟨-, -, hk, hp⟩ := lst_some h
      obtain ⟨w1, w2, w3, -⟩ := oth_of hW hk hp
      have := (hW k hk).2.2.2.1
      have := rk_lt (ns := ns) (f := f) (u := oth fa fb k s) (v := s) w1 (by omega)
      show _ + _ = _ + _
      rw [ih (oth fa fb k s) w1 (by omega)]
theorem lev_after (hW : legW ns nl fa fb sl) {s : Nat} (hs : s < ns) : ∀ n, ns ≤ n → lev fa fb sl f rs nl n s = lev fa fb sl f rs nl ns s := by
  intro n
  induction n with
  | zero => intro h; omega
  | succ n ih =>
    intro h
    by_cases e : ns = n + 1
    · rw [e]
    · have := rk_top (f := f) hs
      rw [lev_stable hW n s hs (by omega), ih (by omega)]
/-- the level of a station -/
def lvl (fa fb sl : Nat → Nat) (rs : Nat → Int32) (nl s : Nat) : Int32 := lev fa fb sl (dist fa fb sl nl) rs nl 6 s
theorem lvl_none {s : Nat} (h : lst fa fb sl (dist fa fb sl nl) nl s = none) : lvl fa fb sl rs nl s = 0 := by
  unfold lvl lev; rw [h]
theorem lvl_some (hW : legW ns nl fa fb sl) (hn : ns ≤ 6) {s k : Nat} (hs : s < ns) (h : lst fa fb sl (dist fa fb sl nl) nl s = some k) : lvl fa fb sl rs nl s = if fb k = s then lvl fa fb sl rs nl (fa k) + rs k else lvl fa fb sl rs nl (fb k) - rs k := by
  obtain ⟨-, -, hk, hp⟩ := lst_some h
  obtain ⟨w1, w2, w3, w4, w5⟩ := oth_of hW hk hp
  have e : lvl fa fb sl rs nl s = lev fa fb sl (dist fa fb sl nl) rs nl 7 s := by
    unfold lvl; rw [lev_after hW hs 6 hn, lev_after hW hs 7 (by omega)]
  rw [e]
  show (match lst fa fb sl (dist fa fb sl nl) nl s with | none => 0 | some k => (if fb k = s then rs k else - rs k) + lev fa fb sl (dist fa fb sl nl) rs nl 6 (oth fa fb k s)) = _
  rw [h]
  show (if fb k = s then rs k else - rs k) + lvl fa fb sl rs nl (oth fa fb k s) = _
  by_cases c : fb k = s
  · rw [if_pos c, if_pos c, w4 c, Int32.add_comm]
  · rw [if_neg c, if_neg c, (w5 c).2, Int32.add_comm, Int32.sub_eq_add_neg]
end LV
