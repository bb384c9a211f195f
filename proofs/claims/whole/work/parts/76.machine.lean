abbrev qP : Type := Nat → Nat → Nat → Bool
abbrev qF : Type := Option qP × Option qP × Nat
def isV (c : Nat) : Prop := (6 ≤ c ∧ c ≤ 9) ∨ c = 11
def vF (tp : Nat → Nat) (nt e ki aw wh : Nat) : Nat := if tC tp nt e = 6 then wh % 100 else if tC tp nt e = 7 then wh / 100 else if tC tp nt e = 8 then aw else if tC tp nt e = 9 then ki else tV tp nt e
def cmq (c a b : Nat) : Bool := if c = 80 then decide (a < b) else if c = 82 then decide (b < a) else decide (a = b)
def cmpP (tp : Nat → Nat) (nt e : Nat) : qP := fun ki aw wh => cmq (tC tp nt (tE tp nt e)) (vF tp nt e ki aw wh) (vF tp nt (tE tp nt (tE tp nt e)) ki aw wh)
noncomputable def cf (tp : Nat → Nat) (nt e : Nat) : Nat ⊕ Nat := @ite _ (isV (tC tp nt e)) (Classical.propDecidable _) (if 80 ≤ tC tp nt (tE tp nt e) ∧ tC tp nt (tE tp nt e) ≤ 82 then @ite _ (isV (tC tp nt (tE tp nt (tE tp nt e)))) (Classical.propDecidable _) (Sum.inr (tE tp nt (tE tp nt (tE tp nt e)))) (Sum.inl (tS tp nt (tE tp nt (tE tp nt e)))) else Sum.inl (tS tp nt (tE tp nt e))) (Sum.inl (tS tp nt e))
def aj (a : Option qP) (v : qP) : qP := match a with
  | none => v
  | some p => fun x y z => p x y z && v x y z
def oj (a : Option qP) (v : qP) : qP := match a with
  | none => v
  | some p => fun x y z => p x y z || v x y z
def xr (v : qP) (k : Nat) : qP := fun x y z => v x y z ^^ decide (k % 2 = 1)
noncomputable def run (tp : Nat → Nat) (nt : Nat) : Nat → Option qP → Nat → List qF → Nat ⊕ (Nat × qP)
  | 0, _, _, _ => Sum.inl 999
  | _ + 1, _, _, [] => Sum.inl 999
  | n + 1, none, e, (o, a, k) :: fs => if tC tp nt e = 5 then run tp nt n none (tE tp nt e) ((o, a, k + 1) :: fs) else if tC tp nt e = 60 then (if fs.length = 3 then Sum.inl (tS tp nt e) else run tp nt n none (tE tp nt e) ((none, none, 0) :: (o, a, k) :: fs)) else match cf tp nt e with
    | Sum.inl f => Sum.inl f
    | Sum.inr e3 => run tp nt n (some (xr (cmpP tp nt e) k)) e3 ((o, a, 0) :: fs)
  | n + 1, some v, e, (o, a, k) :: fs => if tC tp nt e = 4 then run tp nt n none (tE tp nt e) ((o, some (aj a v), 0) :: fs) else if tC tp nt e = 3 then run tp nt n none (tE tp nt e) ((some (oj o (aj a v)), none, 0) :: fs) else match fs with
    | [] => Sum.inr (e, oj o (aj a v))
    | (o2, a2, k2) :: fs2 => if tC tp nt e = 61 then run tp nt n (some (xr (oj o (aj a v)) k2)) (tE tp nt e) ((o2, a2, 0) :: fs2) else Sum.inl (tS tp nt e)
section RUN
variable {tp : Nat → Nat} {nt n e k k2 f e3 : Nat} {o a o2 a2 : Option qP} {v : qP} {fs : List qF}
theorem run_not (h : tC tp nt e = 5) : run tp nt (n + 1) none e ((o, a, k) :: fs) = run tp nt n none (tE tp nt e) ((o, a, k + 1) :: fs) := if_pos h
theorem run_op3 (h : tC tp nt e = 60) (h3 : fs.length = 3) : run tp nt (n + 1) none e ((o, a, k) :: fs) = Sum.inl (tS tp nt e) := (if_neg (by omega)).trans ((if_pos h).trans (if_pos h3))
theorem run_op (h : tC tp nt e = 60) (h3 : ¬ fs.length = 3) : run tp nt (n + 1) none e ((o, a, k) :: fs) = run tp nt n none (tE tp nt e) ((none, none, 0) :: (o, a, k) :: fs) := (if_neg (by omega)).trans ((if_pos h).trans (if_neg h3))
theorem run_cf (h5 : ¬ tC tp nt e = 5) (h6 : ¬ tC tp nt e = 60) (hc : cf tp nt e = Sum.inl f) : run tp nt (n + 1) none e ((o, a, k) :: fs) = Sum.inl f := by
  refine (if_neg h5).trans ((if_neg h6).trans ?_)
  rw [hc]
theorem run_cm (h5 : ¬ tC tp nt e = 5) (h6 : ¬ tC tp nt e = 60) (hc : cf tp nt e = Sum.inr e3) : run tp nt (n + 1) none e ((o, a, k) :: fs) = run tp nt n (some (xr (cmpP tp nt e) k)) e3 ((o, a, 0) :: fs) := by
  refine (if_neg h5).trans ((if_neg h6).trans ?_)
  rw [hc]
theorem run_and (h : tC tp nt e = 4) : run tp nt (n + 1) (some v) e ((o, a, k) :: fs) = run tp nt n none (tE tp nt e) ((o, some (aj a v), 0) :: fs) := if_pos h
theorem run_or (h : tC tp nt e = 3) : run tp nt (n + 1) (some v) e ((o, a, k) :: fs) = run tp nt n none (tE tp nt e) ((some (oj o (aj a v)), none, 0) :: fs) := (if_neg (by omega)).trans (if_pos h)
theorem run_end (h4 : ¬ tC tp nt e = 4) (h3 : ¬ tC tp nt e = 3) : run tp nt (n + 1) (some v) e ((o, a, k) :: []) = Sum.inr (e, oj o (aj a v)) := (if_neg h4).trans (if_neg h3)
theorem run_cl (h : tC tp nt e = 61) : run tp nt (n + 1) (some v) e ((o, a, k) :: (o2, a2, k2) :: fs) = run tp nt n (some (xr (oj o (aj a v)) k2)) (tE tp nt e) ((o2, a2, 0) :: fs) := (if_neg (by omega)).trans ((if_neg (by omega)).trans (if_pos h))
theorem run_bad (h4 : ¬ tC tp nt e = 4) (h3 : ¬ tC tp nt e = 3) (h : ¬ tC tp nt e = 61) : run tp nt (n + 1) (some v) e ((o, a, k) :: (o2, a2, k2) :: fs) = Sum.inl (tS tp nt e) := (if_neg h4).trans ((if_neg h3).trans (if_neg h))
theorem cf_1 (h : ¬ isV (tC tp nt e)) : cf tp nt e = Sum.inl (tS tp nt e) := @if_neg _ (Classical.propDecidable _) h _ _ _
theorem cf_2 (h : isV (tC tp nt e)) (h2 : ¬ (80 ≤ tC tp nt (tE tp nt e) ∧ tC tp nt (tE tp nt e) ≤ 82)) : cf tp nt e = Sum.inl (tS tp nt (tE tp nt e)) := (@if_pos _ (Classical.propDecidable _) h _ _ _).trans (if_neg h2)
theorem cf_3 (h : isV (tC tp nt e)) (h2 : 80 ≤ tC tp nt (tE tp nt e) ∧ tC tp nt (tE tp nt e) ≤ 82) (h3 : ¬ isV (tC tp nt (tE tp nt (tE tp nt e)))) : cf tp nt e = Sum.inl (tS tp nt (tE tp nt (tE tp nt e))) := (@if_pos _ (Classical.propDecidable _) h _ _ _).trans ((if_pos h2).trans (@if_neg _ (Classical.propDecidable _) h3 _ _ _))
theorem cf_4 (h : isV (tC tp nt e)) (h2 : 80 ≤ tC tp nt (tE tp nt e) ∧ tC tp nt (tE tp nt e) ≤ 82) (h3 : isV (tC tp nt (tE tp nt (tE tp nt e)))) : cf tp nt e = Sum.inr (tE tp nt (tE tp nt (tE tp nt e))) := (@if_pos _ (Classical.propDecidable _) h _ _ _).trans ((if_pos h2).trans (@if_pos _ (Classical.propDecidable _) h3 _ _ _))
end RUN
/-- the value that the class takes for a token -/
def vI (tp : Nat → Nat) (nt e : Nat) : Int32 := if tC tp nt e = 11 then nI (tV tp nt e) else tI tp nt e
theorem dv_3 {tp : Nat → Nat} {s k : Nat} (hk : k ≤ 3) (h : ∀ j, j < k → tp (s + j) ≤ 57) : dv tp s k < 1000 := by
  match k, hk with
  | 0, _ => show 0 < 1000; omega
  | 1, _ => exact dv_lt 1 (by omega) h
  | 2, _ => exact dv_lt 2 (by omega) h
  | 3, _ =>
    have := h 0 (by omega)
    have := h 1 (by omega)
    have := h 2 (by omega)
    show ((0 * 10 + (tp (s + 0) - 48)) * 10 + (tp (s + 1) - 48)) * 10 + (tp (s + 2) - 48) < 1000
    omega
theorem tC_11 {tp : Nat → Nat} {nt e : Nat} (h : e ≤ nt) (hc : tC tp nt e = 11) : ¬ tS tp nt e < tW tp nt e ∧ tS tp nt e < tD tp nt e ∧ tD tp nt e - tS tp nt e ≤ 3 ∧ tV tp nt e < 1000 := by
  obtain ⟨r1, r2, r3, r4, r5, r6⟩ := tk_rng tp h
  unfold tC at hc
  by_cases h1 : tS tp nt e < tW tp nt e
  · rw [if_pos h1] at hc
    have w10 := wc_rng tp (tS tp nt e) (tW tp nt e - tS tp nt e)
    omega
  · rw [if_neg h1] at hc
    by_cases h2 : tS tp nt e < tD tp nt e
    · rw [if_pos h2] at hc
      by_cases h3 : tD tp nt e - tS tp nt e ≤ 3
      · refine ⟨h1, h2, h3, dv_3 h3 (fun j hj => ?_)⟩
        exact (of_decide_eq_true (scn_all (P := isDg tp) (nt := nt) (nt + 1) _ (by omega) r2 (tS tp nt e + j) (by omega) (by show _ < tD tp nt e; omega))).2
      · rw [if_neg h3] at hc; omega
    · rw [if_neg h2] at hc
      by_cases h3 : tS tp nt e < nt
      · rw [if_pos h3] at hc; omega
      · rw [if_neg h3] at hc; omega
theorem tC_w {tp : Nat → Nat} {nt e : Nat} (hc : 1 ≤ tC tp nt e) (hc2 : tC tp nt e ≤ 10) : tS tp nt e < tW tp nt e := by
  unfold tC at hc hc2
  by_cases h1 : tS tp nt e < tW tp nt e
  · exact h1
  · rw [if_neg h1] at hc hc2
    by_cases h2 : tS tp nt e < tD tp nt e
    · rw [if_pos h2] at hc2
      by_cases h3 : tD tp nt e - tS tp nt e ≤ 3
      · rw [if_pos h3] at hc2; omega
      · rw [if_neg h3] at hc2; omega
    · rw [if_neg h2] at hc hc2
      by_cases h3 : tS tp nt e < nt
      · rw [if_pos h3] at hc2; omega
      · rw [if_neg h3] at hc; omega
theorem ask_v {tp : Nat → Nat} {nt e ki aw wh : Nat} (h : e ≤ nt) (hb : ∀ j, j < nt → tp j < 256) (hv : isV (tC tp nt e)) : askC ki aw wh (vI tp nt e) = nI (vF tp nt e ki aw wh) := by
  unfold vI vF
  rcases hv with hv | hv
  · rw [if_neg (by omega)]
    by_cases h6 : tC tp nt e = 6
    · rw [if_pos h6, (tI_6 h hb).mpr h6]; rfl
    · rw [if_neg h6]
      by_cases h7 : tC tp nt e = 7
      · rw [if_pos h7, (tI_7 h hb).mpr h7]; rfl
      · rw [if_neg h7]
        by_cases h8 : tC tp nt e = 8
        · rw [if_pos h8, (tI_8 h hb).mpr h8]; rfl
        · rw [if_neg h8, if_pos (by omega), (tI_9 h hb).mpr (by omega)]; rfl
  · have q := (tC_11 h hv).2.2.2
    rw [if_pos hv, if_neg (by omega), if_neg (by omega), if_neg (by omega), if_neg (by omega)]
    unfold askC
    rw [if_neg (fun z => ?_), if_neg (fun z => ?_), if_neg (fun z => ?_), if_neg (fun z => ?_)]
    · rw [show (1802071652 : Int32) = nI 1802071652 from rfl, nI_eq (by omega) (by omega)] at z; omega
    · rw [show (1752135026 : Int32) = nI 1752135026 from rfl, nI_eq (by omega) (by omega)] at z; omega
    · rw [show (1751474548 : Int32) = nI 1751474548 from rfl, nI_eq (by omega) (by omega)] at z; omega
    · rw [show (1635213689 : Int32) = nI 1635213689 from rfl, nI_eq (by omega) (by omega)] at z; omega
theorem vF_lt {tp : Nat → Nat} {nt e ki aw wh : Nat} (h : e ≤ nt) (hv : isV (tC tp nt e)) (h1 : ki ≤ 5) (h2 : aw ≤ 999) (h3 : wh ≤ 2340) : vF tp nt e ki aw wh < 1000 := by
  unfold vF
  by_cases h6 : tC tp nt e = 6
  · rw [if_pos h6]; omega
  · rw [if_neg h6]
    by_cases h7 : tC tp nt e = 7
    · rw [if_pos h7]; omega
    · rw [if_neg h7]
      by_cases h8 : tC tp nt e = 8
      · rw [if_pos h8]; omega
      · rw [if_neg h8]
        by_cases h9 : tC tp nt e = 9
        · rw [if_pos h9]; omega
        · rw [if_neg h9]
          exact (tC_11 h (by rcases hv with q | q <;> omega)).2.2.2
theorem agr_v {tp : Nat → Nat} {nt e a b : Nat} (h : e ≤ nt) (hb : ∀ j, j < nt → tp j < 256) (hs : 80 ≤ tC tp nt e ∧ tC tp nt e ≤ 82) (ha : a < 1000) (hb2 : b < 1000) : agrC (nI a) (tI tp nt e) (nI b) = cmq (tC tp nt e) a b := by
  by_cases h0 : tC tp nt e = 80
  · rw [h0, (tI_m60 h hb).mpr h0]
    show decide (nI a < nI b) = decide (a < b)
    exact decide_eq_decide.mpr (nI_ltI (by omega) (by omega))
  · by_cases h2 : tC tp nt e = 82
    · rw [h2, (tI_m62 h hb).mpr h2]
      show decide (nI b < nI a) = decide (b < a)
      exact decide_eq_decide.mpr (nI_ltI (by omega) (by omega))
    · have h1 : tC tp nt e = 81 := by omega
      rw [h1, (tI_m61 h hb).mpr h1]
      show decide (nI a = nI b) = decide (a = b)
      exact decide_eq_decide.mpr (nI_eq (by omega) (by omega))
def bit (b : Bool) : Nat := if b = true then 1 else 0
/-- the steps m .. m2 of the draft push P -/
def CP (I : hI) (m m2 B : Nat) (P : qP) : Prop := m ≤ m2 ∧ ∀ ki aw wh, ki ≤ 5 → aw ≤ 999 → wh ≤ 2340 → ∀ x, x < B → cev (I 58) (I 59) (I 60) ki aw wh (m2 - m) m (nI x) = nI (2 * x + bit (P ki aw wh))
/-- the steps below m are as they were -/
def PB (I I2 : hI) (m : Nat) : Prop := ∀ j, j < m → I2 58 j = I 58 j ∧ I2 59 j = I 59 j ∧ I2 60 j = I 60 j
theorem PB_tr {I I2 I3 : hI} {m m2 : Nat} (h : PB I I2 m) (h2 : PB I2 I3 m2) (hm : m ≤ m2) : PB I I3 m := fun j hj => by
  obtain ⟨a1, a2, a3⟩ := h j hj
  obtain ⟨b1, b2, b3⟩ := h2 j (by omega)
  exact ⟨b1.trans a1, b2.trans a2, b3.trans a3⟩
theorem CP_w {I : hI} {m m2 B B2 : Nat} {P : qP} (h : CP I m m2 B P) (hB : B2 ≤ B) : CP I m m2 B2 P := ⟨h.1, fun ki aw wh q1 q2 q3 x hx => h.2 ki aw wh q1 q2 q3 x (by omega)⟩
theorem CP_fr {I I2 : hI} {m m2 B : Nat} {P : qP} (h : CP I m m2 B P) (hb : PB I I2 m2) : CP I2 m m2 B P := ⟨h.1, fun ki aw wh q1 q2 q3 x hx => by
  have hm := h.1
  rw [cev_congr (sg := I 58) (lf := I 59) (rt := I 60) _ _ _ (fun j z1 z2 => hb j (by omega))]
  exact h.2 ki aw wh q1 q2 q3 x hx⟩
theorem cev_add {sg lf rt : Nat → Int32} {ki aw wh : Nat} : ∀ (n1 n2 i : Nat) (v : Int32), cev sg lf rt ki aw wh (n1 + n2) i v = cev sg lf rt ki aw wh n2 (i + n1) (cev sg lf rt ki aw wh n1 i v)
  | 0, n2, i, v => by rw [Nat.zero_add]; rfl
  | n1 + 1, n2, i, v => by
    rw [show n1 + 1 + n2 = (n1 + n2) + 1 by omega, show i + (n1 + 1) = (i + 1) + n1 by omega]
    exact cev_add n1 n2 (i + 1) _
theorem st_or : ∀ y, y < 2048 → cst1 0 0 0 28530 0 0 (nI y) = nI (2 * (y / 4) + (if y / 2 % 2 = 1 ∨ y % 2 = 1 then 1 else 0)) := by decide +kernel
theorem st_and : ∀ y, y < 2048 → cst1 0 0 0 6385252 0 0 (nI y) = nI (2 * (y / 4) + (if y / 2 % 2 = 1 ∧ y % 2 = 1 then 1 else 0)) := by decide +kernel
theorem st_not : ∀ y, y < 2048 → cst1 0 0 0 7237492 0 0 (nI y) = nI (2 * (y / 2) + (1 - y % 2)) := by decide +kernel
theorem st_sh : ∀ y, y < 2048 → (nI y <<< (nI 1 &&& 31)) ||| nI 1 = nI (2 * y + 1) ∧ (nI y <<< (nI 1 &&& 31)) ||| nI 0 = nI (2 * y) := by decide +kernel
