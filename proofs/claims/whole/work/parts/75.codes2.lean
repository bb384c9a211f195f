theorem nI_nn {k : Nat} {v : Int32} (h : k < 2147483648) (hv : v.toInt < 0) : ¬ nI k = v := fun z => by
  rw [← z, nI_toInt h] at hv
  omega
theorem tI_1 {tp : Nat → Nat} {nt e : Nat} (h : e ≤ nt) (hb : ∀ j, j < nt → tp j < 256) : tI tp nt e = nI 1650814564 ↔ tC tp nt e = 1 := by
  obtain ⟨r1, r2, r3, r4, r5, r6⟩ := tk_rng tp h
  have hl := tk_let tp h
  unfold tI tC
  by_cases h1 : tS tp nt e < tW tp nt e
  · rw [if_pos h1, if_pos h1]
    by_cases h4 : tW tp nt e - tS tp nt e ≤ 4
    · rw [if_pos h4]
      have q4 := pk_4 (tp := tp) (s := tS tp nt e) (n := tW tp nt e - tS tp nt e) (by omega) h4 (fun j z1 z2 => hl j z1 (by omega))
      rw [nI_eq q4.2.1 (by omega)]
      exact q4.2.2.1
    · rw [if_neg h4]
      have w10 := wc_rng tp (tS tp nt e) (tW tp nt e - tS tp nt e)
      refine ⟨fun z => absurd z (by decide), fun z => ?_⟩
      have := (wc_1 tp _ _).mp z
      omega
  · rw [if_neg h1, if_neg h1]
    by_cases h2 : tS tp nt e < tD tp nt e
    · rw [if_pos h2, if_pos h2]
      by_cases h3 : tD tp nt e - tS tp nt e ≤ 3
      · rw [if_pos h3, if_pos h3]; decide
      · rw [if_neg h3, if_neg h3]; decide
    · rw [if_neg h2, if_neg h2]
      by_cases h3 : tS tp nt e < nt
      · rw [if_pos h3, if_pos h3]
        have hb1 := hb _ h3
        rw [nI_eq (by omega) (by omega)]
        omega
      · rw [if_neg h3, if_neg h3]; decide
theorem tI_2 {tp : Nat → Nat} {nt e : Nat} (h : e ≤ nt) (hb : ∀ j, j < nt → tp j < 256) : tI tp nt e = nI 26982 ↔ tC tp nt e = 2 := by
  obtain ⟨r1, r2, r3, r4, r5, r6⟩ := tk_rng tp h
  have hl := tk_let tp h
  unfold tI tC
  by_cases h1 : tS tp nt e < tW tp nt e
  · rw [if_pos h1, if_pos h1]
    by_cases h4 : tW tp nt e - tS tp nt e ≤ 4
    · rw [if_pos h4]
      have q4 := pk_4 (tp := tp) (s := tS tp nt e) (n := tW tp nt e - tS tp nt e) (by omega) h4 (fun j z1 z2 => hl j z1 (by omega))
      rw [nI_eq q4.2.1 (by omega)]
      exact q4.2.2.2.1
    · rw [if_neg h4]
      have w10 := wc_rng tp (tS tp nt e) (tW tp nt e - tS tp nt e)
      refine ⟨fun z => absurd z (by decide), fun z => ?_⟩
      have := (wc_2 tp _ _).mp z
      omega
  · rw [if_neg h1, if_neg h1]
    by_cases h2 : tS tp nt e < tD tp nt e
    · rw [if_pos h2, if_pos h2]
      by_cases h3 : tD tp nt e - tS tp nt e ≤ 3
      · rw [if_pos h3, if_pos h3]; decide
      · rw [if_neg h3, if_neg h3]; decide
    · rw [if_neg h2, if_neg h2]
      by_cases h3 : tS tp nt e < nt
      · rw [if_pos h3, if_pos h3]
        have hb1 := hb _ h3
        rw [nI_eq (by omega) (by omega)]
        omega
      · rw [if_neg h3, if_neg h3]; decide
theorem tI_3 {tp : Nat → Nat} {nt e : Nat} (h : e ≤ nt) (hb : ∀ j, j < nt → tp j < 256) : tI tp nt e = nI 28530 ↔ tC tp nt e = 3 := by
  obtain ⟨r1, r2, r3, r4, r5, r6⟩ := tk_rng tp h
  have hl := tk_let tp h
  unfold tI tC
  by_cases h1 : tS tp nt e < tW tp nt e
  · rw [if_pos h1, if_pos h1]
    by_cases h4 : tW tp nt e - tS tp nt e ≤ 4
    · rw [if_pos h4]
      have q4 := pk_4 (tp := tp) (s := tS tp nt e) (n := tW tp nt e - tS tp nt e) (by omega) h4 (fun j z1 z2 => hl j z1 (by omega))
      rw [nI_eq q4.2.1 (by omega)]
      exact q4.2.2.2.2.1
    · rw [if_neg h4]
      have w10 := wc_rng tp (tS tp nt e) (tW tp nt e - tS tp nt e)
      refine ⟨fun z => absurd z (by decide), fun z => ?_⟩
      have := (wc_3 tp _ _).mp z
      omega
  · rw [if_neg h1, if_neg h1]
    by_cases h2 : tS tp nt e < tD tp nt e
    · rw [if_pos h2, if_pos h2]
      by_cases h3 : tD tp nt e - tS tp nt e ≤ 3
      · rw [if_pos h3, if_pos h3]; decide
      · rw [if_neg h3, if_neg h3]; decide
    · rw [if_neg h2, if_neg h2]
      by_cases h3 : tS tp nt e < nt
      · rw [if_pos h3, if_pos h3]
        have hb1 := hb _ h3
        rw [nI_eq (by omega) (by omega)]
        omega
      · rw [if_neg h3, if_neg h3]; decide
theorem tI_4 {tp : Nat → Nat} {nt e : Nat} (h : e ≤ nt) (hb : ∀ j, j < nt → tp j < 256) : tI tp nt e = nI 6385252 ↔ tC tp nt e = 4 := by
  obtain ⟨r1, r2, r3, r4, r5, r6⟩ := tk_rng tp h
  have hl := tk_let tp h
  unfold tI tC
  by_cases h1 : tS tp nt e < tW tp nt e
  · rw [if_pos h1, if_pos h1]
    by_cases h4 : tW tp nt e - tS tp nt e ≤ 4
    · rw [if_pos h4]
      have q4 := pk_4 (tp := tp) (s := tS tp nt e) (n := tW tp nt e - tS tp nt e) (by omega) h4 (fun j z1 z2 => hl j z1 (by omega))
      rw [nI_eq q4.2.1 (by omega)]
      exact q4.2.2.2.2.2.1
    · rw [if_neg h4]
      have w10 := wc_rng tp (tS tp nt e) (tW tp nt e - tS tp nt e)
      refine ⟨fun z => absurd z (by decide), fun z => ?_⟩
      have := (wc_4 tp _ _).mp z
      omega
  · rw [if_neg h1, if_neg h1]
    by_cases h2 : tS tp nt e < tD tp nt e
    · rw [if_pos h2, if_pos h2]
      by_cases h3 : tD tp nt e - tS tp nt e ≤ 3
      · rw [if_pos h3, if_pos h3]; decide
      · rw [if_neg h3, if_neg h3]; decide
    · rw [if_neg h2, if_neg h2]
      by_cases h3 : tS tp nt e < nt
      · rw [if_pos h3, if_pos h3]
        have hb1 := hb _ h3
        rw [nI_eq (by omega) (by omega)]
        omega
      · rw [if_neg h3, if_neg h3]; decide
theorem tI_5 {tp : Nat → Nat} {nt e : Nat} (h : e ≤ nt) (hb : ∀ j, j < nt → tp j < 256) : tI tp nt e = nI 7237492 ↔ tC tp nt e = 5 := by
  obtain ⟨r1, r2, r3, r4, r5, r6⟩ := tk_rng tp h
  have hl := tk_let tp h
  unfold tI tC
  by_cases h1 : tS tp nt e < tW tp nt e
  · rw [if_pos h1, if_pos h1]
    by_cases h4 : tW tp nt e - tS tp nt e ≤ 4
    · rw [if_pos h4]
      have q4 := pk_4 (tp := tp) (s := tS tp nt e) (n := tW tp nt e - tS tp nt e) (by omega) h4 (fun j z1 z2 => hl j z1 (by omega))
      rw [nI_eq q4.2.1 (by omega)]
      exact q4.2.2.2.2.2.2.1
    · rw [if_neg h4]
      have w10 := wc_rng tp (tS tp nt e) (tW tp nt e - tS tp nt e)
      refine ⟨fun z => absurd z (by decide), fun z => ?_⟩
      have := (wc_5 tp _ _).mp z
      omega
  · rw [if_neg h1, if_neg h1]
    by_cases h2 : tS tp nt e < tD tp nt e
    · rw [if_pos h2, if_pos h2]
      by_cases h3 : tD tp nt e - tS tp nt e ≤ 3
      · rw [if_pos h3, if_pos h3]; decide
      · rw [if_neg h3, if_neg h3]; decide
    · rw [if_neg h2, if_neg h2]
      by_cases h3 : tS tp nt e < nt
      · rw [if_pos h3, if_pos h3]
        have hb1 := hb _ h3
        rw [nI_eq (by omega) (by omega)]
        omega
      · rw [if_neg h3, if_neg h3]; decide
theorem tI_6 {tp : Nat → Nat} {nt e : Nat} (h : e ≤ nt) (hb : ∀ j, j < nt → tp j < 256) : tI tp nt e = nI 1751474548 ↔ tC tp nt e = 6 := by
  obtain ⟨r1, r2, r3, r4, r5, r6⟩ := tk_rng tp h
  have hl := tk_let tp h
  unfold tI tC
  by_cases h1 : tS tp nt e < tW tp nt e
  · rw [if_pos h1, if_pos h1]
    by_cases h4 : tW tp nt e - tS tp nt e ≤ 4
    · rw [if_pos h4]
      have q4 := pk_4 (tp := tp) (s := tS tp nt e) (n := tW tp nt e - tS tp nt e) (by omega) h4 (fun j z1 z2 => hl j z1 (by omega))
      rw [nI_eq q4.2.1 (by omega)]
      exact q4.2.2.2.2.2.2.2.1
    · rw [if_neg h4]
      have w10 := wc_rng tp (tS tp nt e) (tW tp nt e - tS tp nt e)
      refine ⟨fun z => absurd z (by decide), fun z => ?_⟩
      have := (wc_6 tp _ _).mp z
      omega
  · rw [if_neg h1, if_neg h1]
    by_cases h2 : tS tp nt e < tD tp nt e
    · rw [if_pos h2, if_pos h2]
      by_cases h3 : tD tp nt e - tS tp nt e ≤ 3
      · rw [if_pos h3, if_pos h3]; decide
      · rw [if_neg h3, if_neg h3]; decide
    · rw [if_neg h2, if_neg h2]
      by_cases h3 : tS tp nt e < nt
      · rw [if_pos h3, if_pos h3]
        have hb1 := hb _ h3
        rw [nI_eq (by omega) (by omega)]
        omega
      · rw [if_neg h3, if_neg h3]; decide
theorem tI_7 {tp : Nat → Nat} {nt e : Nat} (h : e ≤ nt) (hb : ∀ j, j < nt → tp j < 256) : tI tp nt e = nI 1752135026 ↔ tC tp nt e = 7 := by
  obtain ⟨r1, r2, r3, r4, r5, r6⟩ := tk_rng tp h
  have hl := tk_let tp h
  unfold tI tC
  by_cases h1 : tS tp nt e < tW tp nt e
  · rw [if_pos h1, if_pos h1]
    by_cases h4 : tW tp nt e - tS tp nt e ≤ 4
    · rw [if_pos h4]
      have q4 := pk_4 (tp := tp) (s := tS tp nt e) (n := tW tp nt e - tS tp nt e) (by omega) h4 (fun j z1 z2 => hl j z1 (by omega))
      rw [nI_eq q4.2.1 (by omega)]
      exact q4.2.2.2.2.2.2.2.2.1
    · rw [if_neg h4]
      have w10 := wc_rng tp (tS tp nt e) (tW tp nt e - tS tp nt e)
      refine ⟨fun z => absurd z (by decide), fun z => ?_⟩
      have := (wc_7 tp _ _).mp z
      omega
  · rw [if_neg h1, if_neg h1]
    by_cases h2 : tS tp nt e < tD tp nt e
    · rw [if_pos h2, if_pos h2]
      by_cases h3 : tD tp nt e - tS tp nt e ≤ 3
      · rw [if_pos h3, if_pos h3]; decide
      · rw [if_neg h3, if_neg h3]; decide
    · rw [if_neg h2, if_neg h2]
      by_cases h3 : tS tp nt e < nt
      · rw [if_pos h3, if_pos h3]
        have hb1 := hb _ h3
        rw [nI_eq (by omega) (by omega)]
        omega
      · rw [if_neg h3, if_neg h3]; decide
theorem tI_8 {tp : Nat → Nat} {nt e : Nat} (h : e ≤ nt) (hb : ∀ j, j < nt → tp j < 256) : tI tp nt e = nI 1635213689 ↔ tC tp nt e = 8 := by
  obtain ⟨r1, r2, r3, r4, r5, r6⟩ := tk_rng tp h
  have hl := tk_let tp h
  unfold tI tC
  by_cases h1 : tS tp nt e < tW tp nt e
  · rw [if_pos h1, if_pos h1]
    by_cases h4 : tW tp nt e - tS tp nt e ≤ 4
    · rw [if_pos h4]
      have q4 := pk_4 (tp := tp) (s := tS tp nt e) (n := tW tp nt e - tS tp nt e) (by omega) h4 (fun j z1 z2 => hl j z1 (by omega))
      rw [nI_eq q4.2.1 (by omega)]
      exact q4.2.2.2.2.2.2.2.2.2.1
    · rw [if_neg h4]
      have w10 := wc_rng tp (tS tp nt e) (tW tp nt e - tS tp nt e)
      refine ⟨fun z => absurd z (by decide), fun z => ?_⟩
      have := (wc_8 tp _ _).mp z
      omega
  · rw [if_neg h1, if_neg h1]
    by_cases h2 : tS tp nt e < tD tp nt e
    · rw [if_pos h2, if_pos h2]
      by_cases h3 : tD tp nt e - tS tp nt e ≤ 3
      · rw [if_pos h3, if_pos h3]; decide
      · rw [if_neg h3, if_neg h3]; decide
    · rw [if_neg h2, if_neg h2]
      by_cases h3 : tS tp nt e < nt
      · rw [if_pos h3, if_pos h3]
        have hb1 := hb _ h3
        rw [nI_eq (by omega) (by omega)]
        omega
      · rw [if_neg h3, if_neg h3]; decide
theorem tI_9 {tp : Nat → Nat} {nt e : Nat} (h : e ≤ nt) (hb : ∀ j, j < nt → tp j < 256) : tI tp nt e = nI 1802071652 ↔ tC tp nt e = 9 := by
  obtain ⟨r1, r2, r3, r4, r5, r6⟩ := tk_rng tp h
  have hl := tk_let tp h
  unfold tI tC
  by_cases h1 : tS tp nt e < tW tp nt e
  · rw [if_pos h1, if_pos h1]
    by_cases h4 : tW tp nt e - tS tp nt e ≤ 4
    · rw [if_pos h4]
      have q4 := pk_4 (tp := tp) (s := tS tp nt e) (n := tW tp nt e - tS tp nt e) (by omega) h4 (fun j z1 z2 => hl j z1 (by omega))
      rw [nI_eq q4.2.1 (by omega)]
      exact q4.2.2.2.2.2.2.2.2.2.2
    · rw [if_neg h4]
      have w10 := wc_rng tp (tS tp nt e) (tW tp nt e - tS tp nt e)
      refine ⟨fun z => absurd z (by decide), fun z => ?_⟩
      have := (wc_9 tp _ _).mp z
      omega
  · rw [if_neg h1, if_neg h1]
    by_cases h2 : tS tp nt e < tD tp nt e
    · rw [if_pos h2, if_pos h2]
      by_cases h3 : tD tp nt e - tS tp nt e ≤ 3
      · rw [if_pos h3, if_pos h3]; decide
      · rw [if_neg h3, if_neg h3]; decide
    · rw [if_neg h2, if_neg h2]
      by_cases h3 : tS tp nt e < nt
      · rw [if_pos h3, if_pos h3]
        have hb1 := hb _ h3
        rw [nI_eq (by omega) (by omega)]
        omega
      · rw [if_neg h3, if_neg h3]; decide
theorem tI_m40 {tp : Nat → Nat} {nt e : Nat} (h : e ≤ nt) (hb : ∀ j, j < nt → tp j < 256) : tI tp nt e = nI 40 ↔ tC tp nt e = 60 := by
  obtain ⟨r1, r2, r3, r4, r5, r6⟩ := tk_rng tp h
  have hl := tk_let tp h
  unfold tI tC
  by_cases h1 : tS tp nt e < tW tp nt e
  · rw [if_pos h1, if_pos h1]
    by_cases h4 : tW tp nt e - tS tp nt e ≤ 4
    · rw [if_pos h4]
      have q4 := pk_4 (tp := tp) (s := tS tp nt e) (n := tW tp nt e - tS tp nt e) (by omega) h4 (fun j z1 z2 => hl j z1 (by omega))
      have w10 := wc_rng tp (tS tp nt e) (tW tp nt e - tS tp nt e)
      rw [nI_eq q4.2.1 (by omega)]
      omega
    · rw [if_neg h4]
      have w10 := wc_rng tp (tS tp nt e) (tW tp nt e - tS tp nt e)
      exact ⟨fun z => absurd z (by decide), fun z => absurd z (by omega)⟩
  · rw [if_neg h1, if_neg h1]
    by_cases h2 : tS tp nt e < tD tp nt e
    · rw [if_pos h2, if_pos h2]
      by_cases h3 : tD tp nt e - tS tp nt e ≤ 3
      · rw [if_pos h3, if_pos h3]; decide
      · rw [if_neg h3, if_neg h3]; decide
    · rw [if_neg h2, if_neg h2]
      by_cases h3 : tS tp nt e < nt
      · rw [if_pos h3, if_pos h3]
        have hb1 := hb _ h3
        rw [nI_eq (by omega) (by omega)]
        omega
      · rw [if_neg h3, if_neg h3]; decide
theorem tI_m41 {tp : Nat → Nat} {nt e : Nat} (h : e ≤ nt) (hb : ∀ j, j < nt → tp j < 256) : tI tp nt e = nI 41 ↔ tC tp nt e = 61 := by
  obtain ⟨r1, r2, r3, r4, r5, r6⟩ := tk_rng tp h
  have hl := tk_let tp h
  unfold tI tC
  by_cases h1 : tS tp nt e < tW tp nt e
  · rw [if_pos h1, if_pos h1]
    by_cases h4 : tW tp nt e - tS tp nt e ≤ 4
    · rw [if_pos h4]
      have q4 := pk_4 (tp := tp) (s := tS tp nt e) (n := tW tp nt e - tS tp nt e) (by omega) h4 (fun j z1 z2 => hl j z1 (by omega))
      have w10 := wc_rng tp (tS tp nt e) (tW tp nt e - tS tp nt e)
      rw [nI_eq q4.2.1 (by omega)]
      omega
    · rw [if_neg h4]
      have w10 := wc_rng tp (tS tp nt e) (tW tp nt e - tS tp nt e)
      exact ⟨fun z => absurd z (by decide), fun z => absurd z (by omega)⟩
  · rw [if_neg h1, if_neg h1]
    by_cases h2 : tS tp nt e < tD tp nt e
    · rw [if_pos h2, if_pos h2]
      by_cases h3 : tD tp nt e - tS tp nt e ≤ 3
      · rw [if_pos h3, if_pos h3]; decide
      · rw [if_neg h3, if_neg h3]; decide
    · rw [if_neg h2, if_neg h2]
      by_cases h3 : tS tp nt e < nt
      · rw [if_pos h3, if_pos h3]
        have hb1 := hb _ h3
        rw [nI_eq (by omega) (by omega)]
        omega
      · rw [if_neg h3, if_neg h3]; decide
theorem tI_m59 {tp : Nat → Nat} {nt e : Nat} (h : e ≤ nt) (hb : ∀ j, j < nt → tp j < 256) : tI tp nt e = nI 59 ↔ tC tp nt e = 79 := by
  obtain ⟨r1, r2, r3, r4, r5, r6⟩ := tk_rng tp h
  have hl := tk_let tp h
  unfold tI tC
  by_cases h1 : tS tp nt e < tW tp nt e
  · rw [if_pos h1, if_pos h1]
    by_cases h4 : tW tp nt e - tS tp nt e ≤ 4
    · rw [if_pos h4]
      have q4 := pk_4 (tp := tp) (s := tS tp nt e) (n := tW tp nt e - tS tp nt e) (by omega) h4 (fun j z1 z2 => hl j z1 (by omega))
      have w10 := wc_rng tp (tS tp nt e) (tW tp nt e - tS tp nt e)
      rw [nI_eq q4.2.1 (by omega)]
      omega
    · rw [if_neg h4]
      have w10 := wc_rng tp (tS tp nt e) (tW tp nt e - tS tp nt e)
      exact ⟨fun z => absurd z (by decide), fun z => absurd z (by omega)⟩
  · rw [if_neg h1, if_neg h1]
    by_cases h2 : tS tp nt e < tD tp nt e
    · rw [if_pos h2, if_pos h2]
      by_cases h3 : tD tp nt e - tS tp nt e ≤ 3
      · rw [if_pos h3, if_pos h3]; decide
      · rw [if_neg h3, if_neg h3]; decide
    · rw [if_neg h2, if_neg h2]
      by_cases h3 : tS tp nt e < nt
      · rw [if_pos h3, if_pos h3]
        have hb1 := hb _ h3
        rw [nI_eq (by omega) (by omega)]
        omega
      · rw [if_neg h3, if_neg h3]; decide
theorem tI_m60 {tp : Nat → Nat} {nt e : Nat} (h : e ≤ nt) (hb : ∀ j, j < nt → tp j < 256) : tI tp nt e = nI 60 ↔ tC tp nt e = 80 := by
  obtain ⟨r1, r2, r3, r4, r5, r6⟩ := tk_rng tp h
  have hl := tk_let tp h
  unfold tI tC
  by_cases h1 : tS tp nt e < tW tp nt e
  · rw [if_pos h1, if_pos h1]
    by_cases h4 : tW tp nt e - tS tp nt e ≤ 4
    · rw [if_pos h4]
      have q4 := pk_4 (tp := tp) (s := tS tp nt e) (n := tW tp nt e - tS tp nt e) (by omega) h4 (fun j z1 z2 => hl j z1 (by omega))
      have w10 := wc_rng tp (tS tp nt e) (tW tp nt e - tS tp nt e)
      rw [nI_eq q4.2.1 (by omega)]
      omega
    · rw [if_neg h4]
      have w10 := wc_rng tp (tS tp nt e) (tW tp nt e - tS tp nt e)
      exact ⟨fun z => absurd z (by decide), fun z => absurd z (by omega)⟩
  · rw [if_neg h1, if_neg h1]
    by_cases h2 : tS tp nt e < tD tp nt e
    · rw [if_pos h2, if_pos h2]
      by_cases h3 : tD tp nt e - tS tp nt e ≤ 3
      · rw [if_pos h3, if_pos h3]; decide
      · rw [if_neg h3, if_neg h3]; decide
    · rw [if_neg h2, if_neg h2]
      by_cases h3 : tS tp nt e < nt
      · rw [if_pos h3, if_pos h3]
        have hb1 := hb _ h3
        rw [nI_eq (by omega) (by omega)]
        omega
      · rw [if_neg h3, if_neg h3]; decide
theorem tI_m61 {tp : Nat → Nat} {nt e : Nat} (h : e ≤ nt) (hb : ∀ j, j < nt → tp j < 256) : tI tp nt e = nI 61 ↔ tC tp nt e = 81 := by
  obtain ⟨r1, r2, r3, r4, r5, r6⟩ := tk_rng tp h
  have hl := tk_let tp h
  unfold tI tC
  by_cases h1 : tS tp nt e < tW tp nt e
  · rw [if_pos h1, if_pos h1]
    by_cases h4 : tW tp nt e - tS tp nt e ≤ 4
    · rw [if_pos h4]
      have q4 := pk_4 (tp := tp) (s := tS tp nt e) (n := tW tp nt e - tS tp nt e) (by omega) h4 (fun j z1 z2 => hl j z1 (by omega))
      have w10 := wc_rng tp (tS tp nt e) (tW tp nt e - tS tp nt e)
      rw [nI_eq q4.2.1 (by omega)]
      omega
    · rw [if_neg h4]
      have w10 := wc_rng tp (tS tp nt e) (tW tp nt e - tS tp nt e)
      exact ⟨fun z => absurd z (by decide), fun z => absurd z (by omega)⟩
  · rw [if_neg h1, if_neg h1]
    by_cases h2 : tS tp nt e < tD tp nt e
    · rw [if_pos h2, if_pos h2]
      by_cases h3 : tD tp nt e - tS tp nt e ≤ 3
      · rw [if_pos h3, if_pos h3]; decide
      · rw [if_neg h3, if_neg h3]; decide
    · rw [if_neg h2, if_neg h2]
      by_cases h3 : tS tp nt e < nt
      · rw [if_pos h3, if_pos h3]
        have hb1 := hb _ h3
        rw [nI_eq (by omega) (by omega)]
        omega
      · rw [if_neg h3, if_neg h3]; decide
theorem tI_m62 {tp : Nat → Nat} {nt e : Nat} (h : e ≤ nt) (hb : ∀ j, j < nt → tp j < 256) : tI tp nt e = nI 62 ↔ tC tp nt e = 82 := by
  obtain ⟨r1, r2, r3, r4, r5, r6⟩ := tk_rng tp h
  have hl := tk_let tp h
  unfold tI tC
  by_cases h1 : tS tp nt e < tW tp nt e
  · rw [if_pos h1, if_pos h1]
    by_cases h4 : tW tp nt e - tS tp nt e ≤ 4
    · rw [if_pos h4]
      have q4 := pk_4 (tp := tp) (s := tS tp nt e) (n := tW tp nt e - tS tp nt e) (by omega) h4 (fun j z1 z2 => hl j z1 (by omega))
      have w10 := wc_rng tp (tS tp nt e) (tW tp nt e - tS tp nt e)
      rw [nI_eq q4.2.1 (by omega)]
      omega
    · rw [if_neg h4]
      have w10 := wc_rng tp (tS tp nt e) (tW tp nt e - tS tp nt e)
      exact ⟨fun z => absurd z (by decide), fun z => absurd z (by omega)⟩
  · rw [if_neg h1, if_neg h1]
    by_cases h2 : tS tp nt e < tD tp nt e
    · rw [if_pos h2, if_pos h2]
      by_cases h3 : tD tp nt e - tS tp nt e ≤ 3
      · rw [if_pos h3, if_pos h3]; decide
      · rw [if_neg h3, if_neg h3]; decide
    · rw [if_neg h2, if_neg h2]
      by_cases h3 : tS tp nt e < nt
      · rw [if_pos h3, if_pos h3]
        have hb1 := hb _ h3
        rw [nI_eq (by omega) (by omega)]
        omega
      · rw [if_neg h3, if_neg h3]; decide
theorem tI_num {tp : Nat → Nat} {nt e : Nat} (h : e ≤ nt) (hb : ∀ j, j < nt → tp j < 256) : tI tp nt e = -2 ↔ tC tp nt e = 11 := by
  obtain ⟨r1, r2, r3, r4, r5, r6⟩ := tk_rng tp h
  have hl := tk_let tp h
  unfold tI tC
  by_cases h1 : tS tp nt e < tW tp nt e
  · rw [if_pos h1, if_pos h1]
    by_cases h4 : tW tp nt e - tS tp nt e ≤ 4
    · rw [if_pos h4]
      have q4 := pk_4 (tp := tp) (s := tS tp nt e) (n := tW tp nt e - tS tp nt e) (by omega) h4 (fun j z1 z2 => hl j z1 (by omega))
      have w10 := wc_rng tp (tS tp nt e) (tW tp nt e - tS tp nt e)
      exact ⟨fun z => absurd z (nI_nn q4.2.1 (by decide)), fun z => absurd z (by omega)⟩
    · rw [if_neg h4]
      have w10 := wc_rng tp (tS tp nt e) (tW tp nt e - tS tp nt e)
      exact ⟨fun z => absurd z (by decide), fun z => absurd z (by omega)⟩
  · rw [if_neg h1, if_neg h1]
    by_cases h2 : tS tp nt e < tD tp nt e
    · rw [if_pos h2, if_pos h2]
      by_cases h3 : tD tp nt e - tS tp nt e ≤ 3
      · rw [if_pos h3, if_pos h3]; decide
      · rw [if_neg h3, if_neg h3]; decide
    · rw [if_neg h2, if_neg h2]
      by_cases h3 : tS tp nt e < nt
      · rw [if_pos h3, if_pos h3]
        have hb1 := hb _ h3
        exact ⟨fun z => absurd z (nI_ne_neg (by omega) (by decide)), fun z => absurd z (by omega)⟩
      · rw [if_neg h3, if_neg h3]; decide
theorem tI_end {tp : Nat → Nat} {nt e : Nat} (h : e ≤ nt) (hb : ∀ j, j < nt → tp j < 256) : tI tp nt e = -1 ↔ tC tp nt e = 0 := by
  obtain ⟨r1, r2, r3, r4, r5, r6⟩ := tk_rng tp h
  have hl := tk_let tp h
  unfold tI tC
  by_cases h1 : tS tp nt e < tW tp nt e
  · rw [if_pos h1, if_pos h1]
    by_cases h4 : tW tp nt e - tS tp nt e ≤ 4
    · rw [if_pos h4]
      have q4 := pk_4 (tp := tp) (s := tS tp nt e) (n := tW tp nt e - tS tp nt e) (by omega) h4 (fun j z1 z2 => hl j z1 (by omega))
      have w10 := wc_rng tp (tS tp nt e) (tW tp nt e - tS tp nt e)
      exact ⟨fun z => absurd z (nI_nn q4.2.1 (by decide)), fun z => absurd z (by omega)⟩
    · rw [if_neg h4]
      have w10 := wc_rng tp (tS tp nt e) (tW tp nt e - tS tp nt e)
      exact ⟨fun z => absurd z (by decide), fun z => absurd z (by omega)⟩
  · rw [if_neg h1, if_neg h1]
    by_cases h2 : tS tp nt e < tD tp nt e
    · rw [if_pos h2, if_pos h2]
      by_cases h3 : tD tp nt e - tS tp nt e ≤ 3
      · rw [if_pos h3, if_pos h3]; decide
      · rw [if_neg h3, if_neg h3]; decide
    · rw [if_neg h2, if_neg h2]
      by_cases h3 : tS tp nt e < nt
      · rw [if_pos h3, if_pos h3]
        have hb1 := hb _ h3
        exact ⟨fun z => absurd z (nI_ne_neg (by omega) (by decide)), fun z => absurd z (by omega)⟩
      · rw [if_neg h3, if_neg h3]; decide
theorem rk_1 {I : hI} {J : hJ} {tp : Nat → Nat} {nt e : Nat} (h : e ≤ nt) (hb : ∀ j, j < nt → tp j < 256) (hk : RK I J tp nt e) : (I 82 23 = nI 1 ∧ J 82 26 = (43393 : Int64)) ↔ tC tp nt e = 1 := by
  obtain ⟨r1, r2, r3, r4, r5, r6⟩ := tk_rng tp h
  have hl := tk_let tp h
  obtain ⟨-, -, k1, k2, k3, k4⟩ := hk
  unfold tC
  by_cases h1 : tS tp nt e < tW tp nt e
  · rw [if_pos h1]
    obtain ⟨e1, e2⟩ := k1 h1
    rw [e1, e2]
    refine ⟨fun z => ?_, fun z => ⟨rfl, ?_⟩⟩
    · have z2 := z.2
      by_cases h8 : tW tp nt e - tS tp nt e ≤ 8
      · rw [if_pos h8] at z2
        have hh := w27_hi (tp := tp) (s := tS tp nt e) (tW tp nt e - tS tp nt e) (fun j z1 z3 => hl j z1 (by omega))
        have hp8 : 27 ^ (tW tp nt e - tS tp nt e) ≤ 27 ^ 8 := Nat.pow_le_pow_right (by omega) h8
        have h98 : 27 ^ 8 = 282429536481 := by decide
        have z3 := (nL_eq (b := 43393) (by omega) (by omega)).mp z2
        by_cases h4 : tW tp nt e - tS tp nt e ≤ 4
        · have q4 := w27_4 (tp := tp) (s := tS tp nt e) (n := tW tp nt e - tS tp nt e) (by omega) h4 (fun j z1 z2 => hl j z1 (by omega))
          exact (q4.2.1).mp z3
        · have lo := w27_lo (tp := tp) (s := tS tp nt e) (tW tp nt e - tS tp nt e - 1) (fun j z1 z3 => hl j z1 (by omega))
          have hp4 : 27 ^ 4 ≤ 27 ^ (tW tp nt e - tS tp nt e - 1) := Nat.pow_le_pow_right (by omega) (by omega)
          have h94 : 27 ^ 4 = 531441 := by decide
          rw [show tW tp nt e - tS tp nt e - 1 + 1 = tW tp nt e - tS tp nt e by omega] at lo
          omega
      · rw [if_neg h8] at z2; exact absurd z2 (by decide)
    · have z5 := (wc_1 tp _ _).mp z
      have q4 := w27_4 (tp := tp) (s := tS tp nt e) (n := tW tp nt e - tS tp nt e) (by omega) (by omega) (fun j z1 z2 => hl j z1 (by omega))
      rw [if_pos (by omega), (q4.2.1).mpr z]
      rfl
  · rw [if_neg h1]
    by_cases h2 : tS tp nt e < tD tp nt e
    · rw [if_pos h2]
      obtain ⟨e1, e2⟩ := k2 h1 h2
      rw [e1]
      by_cases h3 : tD tp nt e - tS tp nt e ≤ 3
      · rw [if_pos h3]; exact ⟨fun z => absurd z.1 (by decide), fun z => absurd z (by decide)⟩
      · rw [if_neg h3]; exact ⟨fun z => absurd z.1 (by decide), fun z => absurd z (by decide)⟩
    · rw [if_neg h2]
      by_cases h3 : tS tp nt e < nt
      · rw [if_pos h3]
        have hb1 := hb _ h3
        obtain ⟨e1, e2⟩ := k3 h1 h2 h3
        rw [e1, e2]
        exact ⟨fun z => absurd z.1 (by decide), fun z => absurd z (by omega)⟩
      · rw [if_neg h3, k4 h3]; exact ⟨fun z => absurd z.1 (by decide), fun z => absurd z (by decide)⟩
theorem rk_2 {I : hI} {J : hJ} {tp : Nat → Nat} {nt e : Nat} (h : e ≤ nt) (hb : ∀ j, j < nt → tp j < 256) (hk : RK I J tp nt e) : (I 82 23 = nI 1 ∧ J 82 26 = (249 : Int64)) ↔ tC tp nt e = 2 := by
  obtain ⟨r1, r2, r3, r4, r5, r6⟩ := tk_rng tp h
  have hl := tk_let tp h
  obtain ⟨-, -, k1, k2, k3, k4⟩ := hk
  unfold tC
  by_cases h1 : tS tp nt e < tW tp nt e
  · rw [if_pos h1]
    obtain ⟨e1, e2⟩ := k1 h1
    rw [e1, e2]
    refine ⟨fun z => ?_, fun z => ⟨rfl, ?_⟩⟩
    · have z2 := z.2
      by_cases h8 : tW tp nt e - tS tp nt e ≤ 8
      · rw [if_pos h8] at z2
        have hh := w27_hi (tp := tp) (s := tS tp nt e) (tW tp nt e - tS tp nt e) (fun j z1 z3 => hl j z1 (by omega))
        have hp8 : 27 ^ (tW tp nt e - tS tp nt e) ≤ 27 ^ 8 := Nat.pow_le_pow_right (by omega) h8
        have h98 : 27 ^ 8 = 282429536481 := by decide
        have z3 := (nL_eq (b := 249) (by omega) (by omega)).mp z2
        by_cases h4 : tW tp nt e - tS tp nt e ≤ 4
        · have q4 := w27_4 (tp := tp) (s := tS tp nt e) (n := tW tp nt e - tS tp nt e) (by omega) h4 (fun j z1 z2 => hl j z1 (by omega))
          exact (q4.2.2.1).mp z3
        · have lo := w27_lo (tp := tp) (s := tS tp nt e) (tW tp nt e - tS tp nt e - 1) (fun j z1 z3 => hl j z1 (by omega))
          have hp4 : 27 ^ 4 ≤ 27 ^ (tW tp nt e - tS tp nt e - 1) := Nat.pow_le_pow_right (by omega) (by omega)
          have h94 : 27 ^ 4 = 531441 := by decide
          rw [show tW tp nt e - tS tp nt e - 1 + 1 = tW tp nt e - tS tp nt e by omega] at lo
          omega
      · rw [if_neg h8] at z2; exact absurd z2 (by decide)
    · have z5 := (wc_2 tp _ _).mp z
      have q4 := w27_4 (tp := tp) (s := tS tp nt e) (n := tW tp nt e - tS tp nt e) (by omega) (by omega) (fun j z1 z2 => hl j z1 (by omega))
      rw [if_pos (by omega), (q4.2.2.1).mpr z]
      rfl
  · rw [if_neg h1]
    by_cases h2 : tS tp nt e < tD tp nt e
    · rw [if_pos h2]
      obtain ⟨e1, e2⟩ := k2 h1 h2
      rw [e1]
      by_cases h3 : tD tp nt e - tS tp nt e ≤ 3
      · rw [if_pos h3]; exact ⟨fun z => absurd z.1 (by decide), fun z => absurd z (by decide)⟩
      · rw [if_neg h3]; exact ⟨fun z => absurd z.1 (by decide), fun z => absurd z (by decide)⟩
    · rw [if_neg h2]
      by_cases h3 : tS tp nt e < nt
      · rw [if_pos h3]
        have hb1 := hb _ h3
        obtain ⟨e1, e2⟩ := k3 h1 h2 h3
        rw [e1, e2]
        exact ⟨fun z => absurd z.1 (by decide), fun z => absurd z (by omega)⟩
      · rw [if_neg h3, k4 h3]; exact ⟨fun z => absurd z.1 (by decide), fun z => absurd z (by decide)⟩
theorem rk_3 {I : hI} {J : hJ} {tp : Nat → Nat} {nt e : Nat} (h : e ≤ nt) (hb : ∀ j, j < nt → tp j < 256) (hk : RK I J tp nt e) : (I 82 23 = nI 1 ∧ J 82 26 = (423 : Int64)) ↔ tC tp nt e = 3 := by
  obtain ⟨r1, r2, r3, r4, r5, r6⟩ := tk_rng tp h
  have hl := tk_let tp h
  obtain ⟨-, -, k1, k2, k3, k4⟩ := hk
  unfold tC
  by_cases h1 : tS tp nt e < tW tp nt e
  · rw [if_pos h1]
    obtain ⟨e1, e2⟩ := k1 h1
    rw [e1, e2]
    refine ⟨fun z => ?_, fun z => ⟨rfl, ?_⟩⟩
    · have z2 := z.2
      by_cases h8 : tW tp nt e - tS tp nt e ≤ 8
      · rw [if_pos h8] at z2
        have hh := w27_hi (tp := tp) (s := tS tp nt e) (tW tp nt e - tS tp nt e) (fun j z1 z3 => hl j z1 (by omega))
        have hp8 : 27 ^ (tW tp nt e - tS tp nt e) ≤ 27 ^ 8 := Nat.pow_le_pow_right (by omega) h8
        have h98 : 27 ^ 8 = 282429536481 := by decide
        have z3 := (nL_eq (b := 423) (by omega) (by omega)).mp z2
        by_cases h4 : tW tp nt e - tS tp nt e ≤ 4
        · have q4 := w27_4 (tp := tp) (s := tS tp nt e) (n := tW tp nt e - tS tp nt e) (by omega) h4 (fun j z1 z2 => hl j z1 (by omega))
          exact (q4.2.2.2.1).mp z3
        · have lo := w27_lo (tp := tp) (s := tS tp nt e) (tW tp nt e - tS tp nt e - 1) (fun j z1 z3 => hl j z1 (by omega))
          have hp4 : 27 ^ 4 ≤ 27 ^ (tW tp nt e - tS tp nt e - 1) := Nat.pow_le_pow_right (by omega) (by omega)
          have h94 : 27 ^ 4 = 531441 := by decide
          rw [show tW tp nt e - tS tp nt e - 1 + 1 = tW tp nt e - tS tp nt e by omega] at lo
          omega
      · rw [if_neg h8] at z2; exact absurd z2 (by decide)
    · have z5 := (wc_3 tp _ _).mp z
      have q4 := w27_4 (tp := tp) (s := tS tp nt e) (n := tW tp nt e - tS tp nt e) (by omega) (by omega) (fun j z1 z2 => hl j z1 (by omega))
      rw [if_pos (by omega), (q4.2.2.2.1).mpr z]
      rfl
  · rw [if_neg h1]
    by_cases h2 : tS tp nt e < tD tp nt e
    · rw [if_pos h2]
      obtain ⟨e1, e2⟩ := k2 h1 h2
      rw [e1]
      by_cases h3 : tD tp nt e - tS tp nt e ≤ 3
      · rw [if_pos h3]; exact ⟨fun z => absurd z.1 (by decide), fun z => absurd z (by decide)⟩
      · rw [if_neg h3]; exact ⟨fun z => absurd z.1 (by decide), fun z => absurd z (by decide)⟩
    · rw [if_neg h2]
      by_cases h3 : tS tp nt e < nt
      · rw [if_pos h3]
        have hb1 := hb _ h3
        obtain ⟨e1, e2⟩ := k3 h1 h2 h3
        rw [e1, e2]
        exact ⟨fun z => absurd z.1 (by decide), fun z => absurd z (by omega)⟩
      · rw [if_neg h3, k4 h3]; exact ⟨fun z => absurd z.1 (by decide), fun z => absurd z (by decide)⟩
theorem rk_4 {I : hI} {J : hJ} {tp : Nat → Nat} {nt e : Nat} (h : e ≤ nt) (hb : ∀ j, j < nt → tp j < 256) (hk : RK I J tp nt e) : (I 82 23 = nI 1 ∧ J 82 26 = (1111 : Int64)) ↔ tC tp nt e = 4 := by
  obtain ⟨r1, r2, r3, r4, r5, r6⟩ := tk_rng tp h
  have hl := tk_let tp h
  obtain ⟨-, -, k1, k2, k3, k4⟩ := hk
  unfold tC
  by_cases h1 : tS tp nt e < tW tp nt e
  · rw [if_pos h1]
    obtain ⟨e1, e2⟩ := k1 h1
    rw [e1, e2]
    refine ⟨fun z => ?_, fun z => ⟨rfl, ?_⟩⟩
    · have z2 := z.2
      by_cases h8 : tW tp nt e - tS tp nt e ≤ 8
      · rw [if_pos h8] at z2
        have hh := w27_hi (tp := tp) (s := tS tp nt e) (tW tp nt e - tS tp nt e) (fun j z1 z3 => hl j z1 (by omega))
        have hp8 : 27 ^ (tW tp nt e - tS tp nt e) ≤ 27 ^ 8 := Nat.pow_le_pow_right (by omega) h8
        have h98 : 27 ^ 8 = 282429536481 := by decide
        have z3 := (nL_eq (b := 1111) (by omega) (by omega)).mp z2
        by_cases h4 : tW tp nt e - tS tp nt e ≤ 4
        · have q4 := w27_4 (tp := tp) (s := tS tp nt e) (n := tW tp nt e - tS tp nt e) (by omega) h4 (fun j z1 z2 => hl j z1 (by omega))
          exact (q4.2.2.2.2.1).mp z3
        · have lo := w27_lo (tp := tp) (s := tS tp nt e) (tW tp nt e - tS tp nt e - 1) (fun j z1 z3 => hl j z1 (by omega))
          have hp4 : 27 ^ 4 ≤ 27 ^ (tW tp nt e - tS tp nt e - 1) := Nat.pow_le_pow_right (by omega) (by omega)
          have h94 : 27 ^ 4 = 531441 := by decide
          rw [show tW tp nt e - tS tp nt e - 1 + 1 = tW tp nt e - tS tp nt e by omega] at lo
          omega
      · rw [if_neg h8] at z2; exact absurd z2 (by decide)
    · have z5 := (wc_4 tp _ _).mp z
      have q4 := w27_4 (tp := tp) (s := tS tp nt e) (n := tW tp nt e - tS tp nt e) (by omega) (by omega) (fun j z1 z2 => hl j z1 (by omega))
      rw [if_pos (by omega), (q4.2.2.2.2.1).mpr z]
      rfl
  · rw [if_neg h1]
    by_cases h2 : tS tp nt e < tD tp nt e
    · rw [if_pos h2]
      obtain ⟨e1, e2⟩ := k2 h1 h2
      rw [e1]
      by_cases h3 : tD tp nt e - tS tp nt e ≤ 3
      · rw [if_pos h3]; exact ⟨fun z => absurd z.1 (by decide), fun z => absurd z (by decide)⟩
      · rw [if_neg h3]; exact ⟨fun z => absurd z.1 (by decide), fun z => absurd z (by decide)⟩
    · rw [if_neg h2]
      by_cases h3 : tS tp nt e < nt
      · rw [if_pos h3]
        have hb1 := hb _ h3
        obtain ⟨e1, e2⟩ := k3 h1 h2 h3
        rw [e1, e2]
        exact ⟨fun z => absurd z.1 (by decide), fun z => absurd z (by omega)⟩
      · rw [if_neg h3, k4 h3]; exact ⟨fun z => absurd z.1 (by decide), fun z => absurd z (by decide)⟩
theorem rk_5 {I : hI} {J : hJ} {tp : Nat → Nat} {nt e : Nat} (h : e ≤ nt) (hb : ∀ j, j < nt → tp j < 256) (hk : RK I J tp nt e) : (I 82 23 = nI 1 ∧ J 82 26 = (10631 : Int64)) ↔ tC tp nt e = 5 := by
  obtain ⟨r1, r2, r3, r4, r5, r6⟩ := tk_rng tp h
  have hl := tk_let tp h
  obtain ⟨-, -, k1, k2, k3, k4⟩ := hk
  unfold tC
  by_cases h1 : tS tp nt e < tW tp nt e
  · rw [if_pos h1]
    obtain ⟨e1, e2⟩ := k1 h1
    rw [e1, e2]
    refine ⟨fun z => ?_, fun z => ⟨rfl, ?_⟩⟩
    · have z2 := z.2
      by_cases h8 : tW tp nt e - tS tp nt e ≤ 8
      · rw [if_pos h8] at z2
        have hh := w27_hi (tp := tp) (s := tS tp nt e) (tW tp nt e - tS tp nt e) (fun j z1 z3 => hl j z1 (by omega))
        have hp8 : 27 ^ (tW tp nt e - tS tp nt e) ≤ 27 ^ 8 := Nat.pow_le_pow_right (by omega) h8
        have h98 : 27 ^ 8 = 282429536481 := by decide
        have z3 := (nL_eq (b := 10631) (by omega) (by omega)).mp z2
        by_cases h4 : tW tp nt e - tS tp nt e ≤ 4
        · have q4 := w27_4 (tp := tp) (s := tS tp nt e) (n := tW tp nt e - tS tp nt e) (by omega) h4 (fun j z1 z2 => hl j z1 (by omega))
          exact (q4.2.2.2.2.2.1).mp z3
        · have lo := w27_lo (tp := tp) (s := tS tp nt e) (tW tp nt e - tS tp nt e - 1) (fun j z1 z3 => hl j z1 (by omega))
          have hp4 : 27 ^ 4 ≤ 27 ^ (tW tp nt e - tS tp nt e - 1) := Nat.pow_le_pow_right (by omega) (by omega)
          have h94 : 27 ^ 4 = 531441 := by decide
          rw [show tW tp nt e - tS tp nt e - 1 + 1 = tW tp nt e - tS tp nt e by omega] at lo
          omega
      · rw [if_neg h8] at z2; exact absurd z2 (by decide)
    · have z5 := (wc_5 tp _ _).mp z
      have q4 := w27_4 (tp := tp) (s := tS tp nt e) (n := tW tp nt e - tS tp nt e) (by omega) (by omega) (fun j z1 z2 => hl j z1 (by omega))
      rw [if_pos (by omega), (q4.2.2.2.2.2.1).mpr z]
      rfl
  · rw [if_neg h1]
    by_cases h2 : tS tp nt e < tD tp nt e
    · rw [if_pos h2]
      obtain ⟨e1, e2⟩ := k2 h1 h2
      rw [e1]
      by_cases h3 : tD tp nt e - tS tp nt e ≤ 3
      · rw [if_pos h3]; exact ⟨fun z => absurd z.1 (by decide), fun z => absurd z (by decide)⟩
      · rw [if_neg h3]; exact ⟨fun z => absurd z.1 (by decide), fun z => absurd z (by decide)⟩
    · rw [if_neg h2]
      by_cases h3 : tS tp nt e < nt
      · rw [if_pos h3]
        have hb1 := hb _ h3
        obtain ⟨e1, e2⟩ := k3 h1 h2 h3
        rw [e1, e2]
        exact ⟨fun z => absurd z.1 (by decide), fun z => absurd z (by omega)⟩
      · rw [if_neg h3, k4 h3]; exact ⟨fun z => absurd z.1 (by decide), fun z => absurd z (by decide)⟩
theorem rk_6 {I : hI} {J : hJ} {tp : Nat → Nat} {nt e : Nat} (h : e ≤ nt) (hb : ∀ j, j < nt → tp j < 256) (hk : RK I J tp nt e) : (I 82 23 = nI 1 ∧ J 82 26 = (161156 : Int64)) ↔ tC tp nt e = 6 := by
  obtain ⟨r1, r2, r3, r4, r5, r6⟩ := tk_rng tp h
  have hl := tk_let tp h
  obtain ⟨-, -, k1, k2, k3, k4⟩ := hk
  unfold tC
  by_cases h1 : tS tp nt e < tW tp nt e
  · rw [if_pos h1]
    obtain ⟨e1, e2⟩ := k1 h1
    rw [e1, e2]
    refine ⟨fun z => ?_, fun z => ⟨rfl, ?_⟩⟩
    · have z2 := z.2
      by_cases h8 : tW tp nt e - tS tp nt e ≤ 8
      · rw [if_pos h8] at z2
        have hh := w27_hi (tp := tp) (s := tS tp nt e) (tW tp nt e - tS tp nt e) (fun j z1 z3 => hl j z1 (by omega))
        have hp8 : 27 ^ (tW tp nt e - tS tp nt e) ≤ 27 ^ 8 := Nat.pow_le_pow_right (by omega) h8
        have h98 : 27 ^ 8 = 282429536481 := by decide
        have z3 := (nL_eq (b := 161156) (by omega) (by omega)).mp z2
        by_cases h4 : tW tp nt e - tS tp nt e ≤ 4
        · have q4 := w27_4 (tp := tp) (s := tS tp nt e) (n := tW tp nt e - tS tp nt e) (by omega) h4 (fun j z1 z2 => hl j z1 (by omega))
          exact (q4.2.2.2.2.2.2.1).mp z3
        · have lo := w27_lo (tp := tp) (s := tS tp nt e) (tW tp nt e - tS tp nt e - 1) (fun j z1 z3 => hl j z1 (by omega))
          have hp4 : 27 ^ 4 ≤ 27 ^ (tW tp nt e - tS tp nt e - 1) := Nat.pow_le_pow_right (by omega) (by omega)
          have h94 : 27 ^ 4 = 531441 := by decide
          rw [show tW tp nt e - tS tp nt e - 1 + 1 = tW tp nt e - tS tp nt e by omega] at lo
          omega
      · rw [if_neg h8] at z2; exact absurd z2 (by decide)
    · have z5 := (wc_6 tp _ _).mp z
      have q4 := w27_4 (tp := tp) (s := tS tp nt e) (n := tW tp nt e - tS tp nt e) (by omega) (by omega) (fun j z1 z2 => hl j z1 (by omega))
      rw [if_pos (by omega), (q4.2.2.2.2.2.2.1).mpr z]
      rfl
  · rw [if_neg h1]
    by_cases h2 : tS tp nt e < tD tp nt e
    · rw [if_pos h2]
      obtain ⟨e1, e2⟩ := k2 h1 h2
      rw [e1]
      by_cases h3 : tD tp nt e - tS tp nt e ≤ 3
      · rw [if_pos h3]; exact ⟨fun z => absurd z.1 (by decide), fun z => absurd z (by decide)⟩
      · rw [if_neg h3]; exact ⟨fun z => absurd z.1 (by decide), fun z => absurd z (by decide)⟩
    · rw [if_neg h2]
      by_cases h3 : tS tp nt e < nt
      · rw [if_pos h3]
        have hb1 := hb _ h3
        obtain ⟨e1, e2⟩ := k3 h1 h2 h3
        rw [e1, e2]
        exact ⟨fun z => absurd z.1 (by decide), fun z => absurd z (by omega)⟩
      · rw [if_neg h3, k4 h3]; exact ⟨fun z => absurd z.1 (by decide), fun z => absurd z (by decide)⟩
theorem rk_7 {I : hI} {J : hJ} {tp : Nat → Nat} {nt e : Nat} (h : e ≤ nt) (hb : ∀ j, j < nt → tp j < 256) (hk : RK I J tp nt e) : (I 82 23 = nI 1 ∧ J 82 26 = (168984 : Int64)) ↔ tC tp nt e = 7 := by
  obtain ⟨r1, r2, r3, r4, r5, r6⟩ := tk_rng tp h
  have hl := tk_let tp h
  obtain ⟨-, -, k1, k2, k3, k4⟩ := hk
  unfold tC
  by_cases h1 : tS tp nt e < tW tp nt e
  · rw [if_pos h1]
    obtain ⟨e1, e2⟩ := k1 h1
    rw [e1, e2]
    refine ⟨fun z => ?_, fun z => ⟨rfl, ?_⟩⟩
    · have z2 := z.2
      by_cases h8 : tW tp nt e - tS tp nt e ≤ 8
      · rw [if_pos h8] at z2
        have hh := w27_hi (tp := tp) (s := tS tp nt e) (tW tp nt e - tS tp nt e) (fun j z1 z3 => hl j z1 (by omega))
        have hp8 : 27 ^ (tW tp nt e - tS tp nt e) ≤ 27 ^ 8 := Nat.pow_le_pow_right (by omega) h8
        have h98 : 27 ^ 8 = 282429536481 := by decide
        have z3 := (nL_eq (b := 168984) (by omega) (by omega)).mp z2
        by_cases h4 : tW tp nt e - tS tp nt e ≤ 4
        · have q4 := w27_4 (tp := tp) (s := tS tp nt e) (n := tW tp nt e - tS tp nt e) (by omega) h4 (fun j z1 z2 => hl j z1 (by omega))
          exact (q4.2.2.2.2.2.2.2.1).mp z3
        · have lo := w27_lo (tp := tp) (s := tS tp nt e) (tW tp nt e - tS tp nt e - 1) (fun j z1 z3 => hl j z1 (by omega))
          have hp4 : 27 ^ 4 ≤ 27 ^ (tW tp nt e - tS tp nt e - 1) := Nat.pow_le_pow_right (by omega) (by omega)
          have h94 : 27 ^ 4 = 531441 := by decide
          rw [show tW tp nt e - tS tp nt e - 1 + 1 = tW tp nt e - tS tp nt e by omega] at lo
          omega
      · rw [if_neg h8] at z2; exact absurd z2 (by decide)
    · have z5 := (wc_7 tp _ _).mp z
      have q4 := w27_4 (tp := tp) (s := tS tp nt e) (n := tW tp nt e - tS tp nt e) (by omega) (by omega) (fun j z1 z2 => hl j z1 (by omega))
      rw [if_pos (by omega), (q4.2.2.2.2.2.2.2.1).mpr z]
      rfl
  · rw [if_neg h1]
    by_cases h2 : tS tp nt e < tD tp nt e
    · rw [if_pos h2]
      obtain ⟨e1, e2⟩ := k2 h1 h2
      rw [e1]
      by_cases h3 : tD tp nt e - tS tp nt e ≤ 3
      · rw [if_pos h3]; exact ⟨fun z => absurd z.1 (by decide), fun z => absurd z (by decide)⟩
      · rw [if_neg h3]; exact ⟨fun z => absurd z.1 (by decide), fun z => absurd z (by decide)⟩
    · rw [if_neg h2]
      by_cases h3 : tS tp nt e < nt
      · rw [if_pos h3]
        have hb1 := hb _ h3
        obtain ⟨e1, e2⟩ := k3 h1 h2 h3
        rw [e1, e2]
        exact ⟨fun z => absurd z.1 (by decide), fun z => absurd z (by omega)⟩
      · rw [if_neg h3, k4 h3]; exact ⟨fun z => absurd z.1 (by decide), fun z => absurd z (by decide)⟩
theorem rk_8 {I : hI} {J : hJ} {tp : Nat → Nat} {nt e : Nat} (h : e ≤ nt) (hb : ∀ j, j < nt → tp j < 256) (hk : RK I J tp nt e) : (I 82 23 = nI 1 ∧ J 82 26 = (36502 : Int64)) ↔ tC tp nt e = 8 := by
  obtain ⟨r1, r2, r3, r4, r5, r6⟩ := tk_rng tp h
  have hl := tk_let tp h
  obtain ⟨-, -, k1, k2, k3, k4⟩ := hk
  unfold tC
  by_cases h1 : tS tp nt e < tW tp nt e
  · rw [if_pos h1]
    obtain ⟨e1, e2⟩ := k1 h1
    rw [e1, e2]
    refine ⟨fun z => ?_, fun z => ⟨rfl, ?_⟩⟩
    · have z2 := z.2
      by_cases h8 : tW tp nt e - tS tp nt e ≤ 8
      · rw [if_pos h8] at z2
        have hh := w27_hi (tp := tp) (s := tS tp nt e) (tW tp nt e - tS tp nt e) (fun j z1 z3 => hl j z1 (by omega))
        have hp8 : 27 ^ (tW tp nt e - tS tp nt e) ≤ 27 ^ 8 := Nat.pow_le_pow_right (by omega) h8
        have h98 : 27 ^ 8 = 282429536481 := by decide
        have z3 := (nL_eq (b := 36502) (by omega) (by omega)).mp z2
        by_cases h4 : tW tp nt e - tS tp nt e ≤ 4
        · have q4 := w27_4 (tp := tp) (s := tS tp nt e) (n := tW tp nt e - tS tp nt e) (by omega) h4 (fun j z1 z2 => hl j z1 (by omega))
          exact (q4.2.2.2.2.2.2.2.2.1).mp z3
        · have lo := w27_lo (tp := tp) (s := tS tp nt e) (tW tp nt e - tS tp nt e - 1) (fun j z1 z3 => hl j z1 (by omega))
          have hp4 : 27 ^ 4 ≤ 27 ^ (tW tp nt e - tS tp nt e - 1) := Nat.pow_le_pow_right (by omega) (by omega)
          have h94 : 27 ^ 4 = 531441 := by decide
          rw [show tW tp nt e - tS tp nt e - 1 + 1 = tW tp nt e - tS tp nt e by omega] at lo
          omega
      · rw [if_neg h8] at z2; exact absurd z2 (by decide)
    · have z5 := (wc_8 tp _ _).mp z
      have q4 := w27_4 (tp := tp) (s := tS tp nt e) (n := tW tp nt e - tS tp nt e) (by omega) (by omega) (fun j z1 z2 => hl j z1 (by omega))
      rw [if_pos (by omega), (q4.2.2.2.2.2.2.2.2.1).mpr z]
      rfl
  · rw [if_neg h1]
    by_cases h2 : tS tp nt e < tD tp nt e
    · rw [if_pos h2]
      obtain ⟨e1, e2⟩ := k2 h1 h2
      rw [e1]
      by_cases h3 : tD tp nt e - tS tp nt e ≤ 3
      · rw [if_pos h3]; exact ⟨fun z => absurd z.1 (by decide), fun z => absurd z (by decide)⟩
      · rw [if_neg h3]; exact ⟨fun z => absurd z.1 (by decide), fun z => absurd z (by decide)⟩
    · rw [if_neg h2]
      by_cases h3 : tS tp nt e < nt
      · rw [if_pos h3]
        have hb1 := hb _ h3
        obtain ⟨e1, e2⟩ := k3 h1 h2 h3
        rw [e1, e2]
        exact ⟨fun z => absurd z.1 (by decide), fun z => absurd z (by omega)⟩
      · rw [if_neg h3, k4 h3]; exact ⟨fun z => absurd z.1 (by decide), fun z => absurd z (by decide)⟩
theorem rk_9 {I : hI} {J : hJ} {tp : Nat → Nat} {nt e : Nat} (h : e ≤ nt) (hb : ∀ j, j < nt → tp j < 256) (hk : RK I J tp nt e) : (I 82 23 = nI 1 ∧ J 82 26 = (223456 : Int64)) ↔ tC tp nt e = 9 := by
  obtain ⟨r1, r2, r3, r4, r5, r6⟩ := tk_rng tp h
  have hl := tk_let tp h
  obtain ⟨-, -, k1, k2, k3, k4⟩ := hk
  unfold tC
  by_cases h1 : tS tp nt e < tW tp nt e
  · rw [if_pos h1]
    obtain ⟨e1, e2⟩ := k1 h1
    rw [e1, e2]
    refine ⟨fun z => ?_, fun z => ⟨rfl, ?_⟩⟩
    · have z2 := z.2
      by_cases h8 : tW tp nt e - tS tp nt e ≤ 8
      · rw [if_pos h8] at z2
        have hh := w27_hi (tp := tp) (s := tS tp nt e) (tW tp nt e - tS tp nt e) (fun j z1 z3 => hl j z1 (by omega))
        have hp8 : 27 ^ (tW tp nt e - tS tp nt e) ≤ 27 ^ 8 := Nat.pow_le_pow_right (by omega) h8
        have h98 : 27 ^ 8 = 282429536481 := by decide
        have z3 := (nL_eq (b := 223456) (by omega) (by omega)).mp z2
        by_cases h4 : tW tp nt e - tS tp nt e ≤ 4
        · have q4 := w27_4 (tp := tp) (s := tS tp nt e) (n := tW tp nt e - tS tp nt e) (by omega) h4 (fun j z1 z2 => hl j z1 (by omega))
          exact (q4.2.2.2.2.2.2.2.2.2).mp z3
        · have lo := w27_lo (tp := tp) (s := tS tp nt e) (tW tp nt e - tS tp nt e - 1) (fun j z1 z3 => hl j z1 (by omega))
          have hp4 : 27 ^ 4 ≤ 27 ^ (tW tp nt e - tS tp nt e - 1) := Nat.pow_le_pow_right (by omega) (by omega)
          have h94 : 27 ^ 4 = 531441 := by decide
          rw [show tW tp nt e - tS tp nt e - 1 + 1 = tW tp nt e - tS tp nt e by omega] at lo
          omega
      · rw [if_neg h8] at z2; exact absurd z2 (by decide)
    · have z5 := (wc_9 tp _ _).mp z
      have q4 := w27_4 (tp := tp) (s := tS tp nt e) (n := tW tp nt e - tS tp nt e) (by omega) (by omega) (fun j z1 z2 => hl j z1 (by omega))
      rw [if_pos (by omega), (q4.2.2.2.2.2.2.2.2.2).mpr z]
      rfl
  · rw [if_neg h1]
    by_cases h2 : tS tp nt e < tD tp nt e
    · rw [if_pos h2]
      obtain ⟨e1, e2⟩ := k2 h1 h2
      rw [e1]
      by_cases h3 : tD tp nt e - tS tp nt e ≤ 3
      · rw [if_pos h3]; exact ⟨fun z => absurd z.1 (by decide), fun z => absurd z (by decide)⟩
      · rw [if_neg h3]; exact ⟨fun z => absurd z.1 (by decide), fun z => absurd z (by decide)⟩
    · rw [if_neg h2]
      by_cases h3 : tS tp nt e < nt
      · rw [if_pos h3]
        have hb1 := hb _ h3
        obtain ⟨e1, e2⟩ := k3 h1 h2 h3
        rw [e1, e2]
        exact ⟨fun z => absurd z.1 (by decide), fun z => absurd z (by omega)⟩
      · rw [if_neg h3, k4 h3]; exact ⟨fun z => absurd z.1 (by decide), fun z => absurd z (by decide)⟩
theorem rk_m40 {I : hI} {J : hJ} {tp : Nat → Nat} {nt e : Nat} (h : e ≤ nt) (hb : ∀ j, j < nt → tp j < 256) (hk : RK I J tp nt e) : (I 82 23 = nI 3 ∧ J 82 26 = (nI 40).toInt64) ↔ tC tp nt e = 60 := by
  obtain ⟨r1, r2, r3, r4, r5, r6⟩ := tk_rng tp h
  have hl := tk_let tp h
  obtain ⟨-, -, k1, k2, k3, k4⟩ := hk
  unfold tC
  by_cases h1 : tS tp nt e < tW tp nt e
  · rw [if_pos h1]
    obtain ⟨e1, e2⟩ := k1 h1
    rw [e1, e2]
    have w10 := wc_rng tp (tS tp nt e) (tW tp nt e - tS tp nt e)
    exact ⟨fun z => absurd z.1 (by decide), fun z => absurd z (by omega)⟩
  · rw [if_neg h1]
    by_cases h2 : tS tp nt e < tD tp nt e
    · rw [if_pos h2]
      obtain ⟨e1, e2⟩ := k2 h1 h2
      rw [e1]
      by_cases h3 : tD tp nt e - tS tp nt e ≤ 3
      · rw [if_pos h3]; exact ⟨fun z => absurd z.1 (by decide), fun z => absurd z (by decide)⟩
      · rw [if_neg h3]; exact ⟨fun z => absurd z.1 (by decide), fun z => absurd z (by decide)⟩
    · rw [if_neg h2]
      by_cases h3 : tS tp nt e < nt
      · rw [if_pos h3]
        have hb1 := hb _ h3
        obtain ⟨e1, e2⟩ := k3 h1 h2 h3
        rw [e1, e2]
        rw [nL_i2l (by omega), nL_eq (by omega) (by omega)]
        exact ⟨fun z => by have := z.2; omega, fun z => ⟨rfl, by omega⟩⟩
      · rw [if_neg h3, k4 h3]; exact ⟨fun z => absurd z.1 (by decide), fun z => absurd z (by decide)⟩
theorem rk_m41 {I : hI} {J : hJ} {tp : Nat → Nat} {nt e : Nat} (h : e ≤ nt) (hb : ∀ j, j < nt → tp j < 256) (hk : RK I J tp nt e) : (I 82 23 = nI 3 ∧ J 82 26 = (nI 41).toInt64) ↔ tC tp nt e = 61 := by
  obtain ⟨r1, r2, r3, r4, r5, r6⟩ := tk_rng tp h
  have hl := tk_let tp h
  obtain ⟨-, -, k1, k2, k3, k4⟩ := hk
  unfold tC
  by_cases h1 : tS tp nt e < tW tp nt e
  · rw [if_pos h1]
    obtain ⟨e1, e2⟩ := k1 h1
    rw [e1, e2]
    have w10 := wc_rng tp (tS tp nt e) (tW tp nt e - tS tp nt e)
    exact ⟨fun z => absurd z.1 (by decide), fun z => absurd z (by omega)⟩
  · rw [if_neg h1]
    by_cases h2 : tS tp nt e < tD tp nt e
    · rw [if_pos h2]
      obtain ⟨e1, e2⟩ := k2 h1 h2
      rw [e1]
      by_cases h3 : tD tp nt e - tS tp nt e ≤ 3
      · rw [if_pos h3]; exact ⟨fun z => absurd z.1 (by decide), fun z => absurd z (by decide)⟩
      · rw [if_neg h3]; exact ⟨fun z => absurd z.1 (by decide), fun z => absurd z (by decide)⟩
    · rw [if_neg h2]
      by_cases h3 : tS tp nt e < nt
      · rw [if_pos h3]
        have hb1 := hb _ h3
        obtain ⟨e1, e2⟩ := k3 h1 h2 h3
        rw [e1, e2]
        rw [nL_i2l (by omega), nL_eq (by omega) (by omega)]
        exact ⟨fun z => by have := z.2; omega, fun z => ⟨rfl, by omega⟩⟩
      · rw [if_neg h3, k4 h3]; exact ⟨fun z => absurd z.1 (by decide), fun z => absurd z (by decide)⟩
theorem rk_m59 {I : hI} {J : hJ} {tp : Nat → Nat} {nt e : Nat} (h : e ≤ nt) (hb : ∀ j, j < nt → tp j < 256) (hk : RK I J tp nt e) : (I 82 23 = nI 3 ∧ J 82 26 = (nI 59).toInt64) ↔ tC tp nt e = 79 := by
  obtain ⟨r1, r2, r3, r4, r5, r6⟩ := tk_rng tp h
  have hl := tk_let tp h
  obtain ⟨-, -, k1, k2, k3, k4⟩ := hk
  unfold tC
  by_cases h1 : tS tp nt e < tW tp nt e
  · rw [if_pos h1]
    obtain ⟨e1, e2⟩ := k1 h1
    rw [e1, e2]
    have w10 := wc_rng tp (tS tp nt e) (tW tp nt e - tS tp nt e)
    exact ⟨fun z => absurd z.1 (by decide), fun z => absurd z (by omega)⟩
  · rw [if_neg h1]
    by_cases h2 : tS tp nt e < tD tp nt e
    · rw [if_pos h2]
      obtain ⟨e1, e2⟩ := k2 h1 h2
      rw [e1]
      by_cases h3 : tD tp nt e - tS tp nt e ≤ 3
      · rw [if_pos h3]; exact ⟨fun z => absurd z.1 (by decide), fun z => absurd z (by decide)⟩
      · rw [if_neg h3]; exact ⟨fun z => absurd z.1 (by decide), fun z => absurd z (by decide)⟩
    · rw [if_neg h2]
      by_cases h3 : tS tp nt e < nt
      · rw [if_pos h3]
        have hb1 := hb _ h3
        obtain ⟨e1, e2⟩ := k3 h1 h2 h3
        rw [e1, e2]
        rw [nL_i2l (by omega), nL_eq (by omega) (by omega)]
        exact ⟨fun z => by have := z.2; omega, fun z => ⟨rfl, by omega⟩⟩
      · rw [if_neg h3, k4 h3]; exact ⟨fun z => absurd z.1 (by decide), fun z => absurd z (by decide)⟩
theorem rk_m60 {I : hI} {J : hJ} {tp : Nat → Nat} {nt e : Nat} (h : e ≤ nt) (hb : ∀ j, j < nt → tp j < 256) (hk : RK I J tp nt e) : (I 82 23 = nI 3 ∧ J 82 26 = (nI 60).toInt64) ↔ tC tp nt e = 80 := by
  obtain ⟨r1, r2, r3, r4, r5, r6⟩ := tk_rng tp h
  have hl := tk_let tp h
  obtain ⟨-, -, k1, k2, k3, k4⟩ := hk
  unfold tC
  by_cases h1 : tS tp nt e < tW tp nt e
  · rw [if_pos h1]
    obtain ⟨e1, e2⟩ := k1 h1
    rw [e1, e2]
    have w10 := wc_rng tp (tS tp nt e) (tW tp nt e - tS tp nt e)
    exact ⟨fun z => absurd z.1 (by decide), fun z => absurd z (by omega)⟩
  · rw [if_neg h1]
    by_cases h2 : tS tp nt e < tD tp nt e
    · rw [if_pos h2]
      obtain ⟨e1, e2⟩ := k2 h1 h2
      rw [e1]
      by_cases h3 : tD tp nt e - tS tp nt e ≤ 3
      · rw [if_pos h3]; exact ⟨fun z => absurd z.1 (by decide), fun z => absurd z (by decide)⟩
      · rw [if_neg h3]; exact ⟨fun z => absurd z.1 (by decide), fun z => absurd z (by decide)⟩
    · rw [if_neg h2]
      by_cases h3 : tS tp nt e < nt
      · rw [if_pos h3]
        have hb1 := hb _ h3
        obtain ⟨e1, e2⟩ := k3 h1 h2 h3
        rw [e1, e2]
        rw [nL_i2l (by omega), nL_eq (by omega) (by omega)]
        exact ⟨fun z => by have := z.2; omega, fun z => ⟨rfl, by omega⟩⟩
      · rw [if_neg h3, k4 h3]; exact ⟨fun z => absurd z.1 (by decide), fun z => absurd z (by decide)⟩
theorem rk_m61 {I : hI} {J : hJ} {tp : Nat → Nat} {nt e : Nat} (h : e ≤ nt) (hb : ∀ j, j < nt → tp j < 256) (hk : RK I J tp nt e) : (I 82 23 = nI 3 ∧ J 82 26 = (nI 61).toInt64) ↔ tC tp nt e = 81 := by
  obtain ⟨r1, r2, r3, r4, r5, r6⟩ := tk_rng tp h
  have hl := tk_let tp h
  obtain ⟨-, -, k1, k2, k3, k4⟩ := hk
  unfold tC
  by_cases h1 : tS tp nt e < tW tp nt e
  · rw [if_pos h1]
    obtain ⟨e1, e2⟩ := k1 h1
    rw [e1, e2]
    have w10 := wc_rng tp (tS tp nt e) (tW tp nt e - tS tp nt e)
    exact ⟨fun z => absurd z.1 (by decide), fun z => absurd z (by omega)⟩
  · rw [if_neg h1]
    by_cases h2 : tS tp nt e < tD tp nt e
    · rw [if_pos h2]
      obtain ⟨e1, e2⟩ := k2 h1 h2
      rw [e1]
      by_cases h3 : tD tp nt e - tS tp nt e ≤ 3
      · rw [if_pos h3]; exact ⟨fun z => absurd z.1 (by decide), fun z => absurd z (by decide)⟩
      · rw [if_neg h3]; exact ⟨fun z => absurd z.1 (by decide), fun z => absurd z (by decide)⟩
    · rw [if_neg h2]
      by_cases h3 : tS tp nt e < nt
      · rw [if_pos h3]
        have hb1 := hb _ h3
        obtain ⟨e1, e2⟩ := k3 h1 h2 h3
        rw [e1, e2]
        rw [nL_i2l (by omega), nL_eq (by omega) (by omega)]
        exact ⟨fun z => by have := z.2; omega, fun z => ⟨rfl, by omega⟩⟩
      · rw [if_neg h3, k4 h3]; exact ⟨fun z => absurd z.1 (by decide), fun z => absurd z (by decide)⟩
theorem rk_m62 {I : hI} {J : hJ} {tp : Nat → Nat} {nt e : Nat} (h : e ≤ nt) (hb : ∀ j, j < nt → tp j < 256) (hk : RK I J tp nt e) : (I 82 23 = nI 3 ∧ J 82 26 = (nI 62).toInt64) ↔ tC tp nt e = 82 := by
  obtain ⟨r1, r2, r3, r4, r5, r6⟩ := tk_rng tp h
  have hl := tk_let tp h
  obtain ⟨-, -, k1, k2, k3, k4⟩ := hk
  unfold tC
  by_cases h1 : tS tp nt e < tW tp nt e
  · rw [if_pos h1]
    obtain ⟨e1, e2⟩ := k1 h1
    rw [e1, e2]
    have w10 := wc_rng tp (tS tp nt e) (tW tp nt e - tS tp nt e)
    exact ⟨fun z => absurd z.1 (by decide), fun z => absurd z (by omega)⟩
  · rw [if_neg h1]
    by_cases h2 : tS tp nt e < tD tp nt e
    · rw [if_pos h2]
      obtain ⟨e1, e2⟩ := k2 h1 h2
      rw [e1]
      by_cases h3 : tD tp nt e - tS tp nt e ≤ 3
      · rw [if_pos h3]; exact ⟨fun z => absurd z.1 (by decide), fun z => absurd z (by decide)⟩
      · rw [if_neg h3]; exact ⟨fun z => absurd z.1 (by decide), fun z => absurd z (by decide)⟩
    · rw [if_neg h2]
      by_cases h3 : tS tp nt e < nt
      · rw [if_pos h3]
        have hb1 := hb _ h3
        obtain ⟨e1, e2⟩ := k3 h1 h2 h3
        rw [e1, e2]
        rw [nL_i2l (by omega), nL_eq (by omega) (by omega)]
        exact ⟨fun z => by have := z.2; omega, fun z => ⟨rfl, by omega⟩⟩
      · rw [if_neg h3, k4 h3]; exact ⟨fun z => absurd z.1 (by decide), fun z => absurd z (by decide)⟩
theorem rk_end {I : hI} {J : hJ} {tp : Nat → Nat} {nt e : Nat} (h : e ≤ nt) (hb : ∀ j, j < nt → tp j < 256) (hk : RK I J tp nt e) : I 82 23 = nI 0 ↔ tC tp nt e = 0 := by
  obtain ⟨r1, r2, r3, r4, r5, r6⟩ := tk_rng tp h
  obtain ⟨-, -, k1, k2, k3, k4⟩ := hk
  unfold tC
  by_cases h1 : tS tp nt e < tW tp nt e
  · rw [if_pos h1, (k1 h1).1]
    have w10 := wc_rng tp (tS tp nt e) (tW tp nt e - tS tp nt e)
    exact ⟨fun z => absurd z (by decide), fun z => absurd z (by omega)⟩
  · rw [if_neg h1]
    by_cases h2 : tS tp nt e < tD tp nt e
    · rw [if_pos h2, (k2 h1 h2).1]
      by_cases h3 : tD tp nt e - tS tp nt e ≤ 3
      · rw [if_pos h3]; decide
      · rw [if_neg h3]; decide
    · rw [if_neg h2]
      by_cases h3 : tS tp nt e < nt
      · rw [if_pos h3, (k3 h1 h2 h3).1]
        exact ⟨fun z => absurd z (by decide), fun z => absurd z (by omega)⟩
      · rw [if_neg h3, k4 h3]; decide
theorem rk_num {I : hI} {J : hJ} {tp : Nat → Nat} {nt e : Nat} (h : e ≤ nt) (hb : ∀ j, j < nt → tp j < 256) (hk : RK I J tp nt e) : (I 82 23 = nI 2 ∧ tE tp nt e - tS tp nt e ≤ 3) ↔ tC tp nt e = 11 := by
  obtain ⟨r1, r2, r3, r4, r5, r6⟩ := tk_rng tp h
  obtain ⟨-, -, k1, k2, k3, k4⟩ := hk
  unfold tC tE
  by_cases h1 : tS tp nt e < tW tp nt e
  · rw [if_pos h1, if_pos h1, (k1 h1).1]
    have w10 := wc_rng tp (tS tp nt e) (tW tp nt e - tS tp nt e)
    exact ⟨fun z => absurd z.1 (by decide), fun z => absurd z (by omega)⟩
  · rw [if_neg h1, if_neg h1]
    by_cases h2 : tS tp nt e < tD tp nt e
    · rw [if_pos h2, if_pos h2, (k2 h1 h2).1]
      by_cases h3 : tD tp nt e - tS tp nt e ≤ 3
      · rw [if_pos h3]; exact ⟨fun _ => rfl, fun _ => ⟨rfl, h3⟩⟩
      · rw [if_neg h3]; exact ⟨fun z => absurd z.2 h3, fun z => absurd z (by decide)⟩
    · rw [if_neg h2, if_neg h2]
      by_cases h3 : tS tp nt e < nt
      · rw [if_pos h3, if_pos h3, (k3 h1 h2 h3).1]
        exact ⟨fun z => absurd z.1 (by decide), fun z => absurd z (by omega)⟩
      · rw [if_neg h3, if_neg h3, k4 h3]; exact ⟨fun z => absurd z.1 (by decide), fun z => absurd z (by decide)⟩
