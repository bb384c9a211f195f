def HR (I I2 : hI) : Prop := ∃ g1 g2 g3, RO (upA (upA (upA I 93 g1) 94 g2) 95 g3) I2
theorem HR_id {I I2 : hI} (h : RO I I2) : HR I I2 := by
  refine ⟨I 93, I 94, I 95, ?_⟩
  have e : upA (upA (upA I 93 (I 93)) 94 (I 94)) 95 (I 95) = I := by rw [upA_id, upA_id, upA_id]
  rw [e]
  exact h
theorem HR_of {I I2 : hI} (h : ∀ x, x ≠ 90 → x ≠ 91 → x ≠ 92 → x ≠ 93 → x ≠ 94 → x ≠ 95 → x ≠ 101 → x ≠ 102 → x ≠ 82 → I2 x = I x) (h82 : ∀ j, j ≠ 16 → j ≠ 17 → I2 82 j = I 82 j) : HR I I2 := by
  refine ⟨I2 93, I2 94, I2 95, RO_iff.mpr ⟨fun x q1 q2 q3 q4 q5 q6 => ?_, fun j q1 q2 => ?_⟩⟩
  · by_cases e1 : x = 95
    · subst e1; simp [upA]
    · by_cases e2 : x = 94
      · subst e2; simp [upA]
      · by_cases e3 : x = 93
        · subst e3; simp [upA]
        · simp [upA, e1, e2, e3]; exact h x q1 q2 q3 e3 e2 e1 q4 q5 q6
  · simp [upA]; exact h82 j q1 q2
theorem HR_out {I I2 : hI} (h : HR I I2) : (∀ x, x ≠ 90 → x ≠ 91 → x ≠ 92 → x ≠ 93 → x ≠ 94 → x ≠ 95 → x ≠ 101 → x ≠ 102 → x ≠ 82 → I2 x = I x) ∧ ∀ j, j ≠ 16 → j ≠ 17 → I2 82 j = I 82 j := by
  obtain ⟨g1, g2, g3, h⟩ := h
  obtain ⟨h1, h2⟩ := RO_iff.mp h
  refine ⟨fun x q1 q2 q3 q4 q5 q6 q7 q8 q9 => ?_, fun j q1 q2 => ?_⟩
  · rw [h1 x q1 q2 q3 q7 q8 q9]; simp [upA, q4, q5, q6]
  · rw [h2 j q1 q2]; simp [upA]
theorem HR_st {I I2 I3 : hI} {k : Nat} {a b c : Int32} (h : HR I I2) (h2 : RO I2 I3) : HR I (upI (upI (upI I3 95 k a) 93 k b) 94 k c) := by
  obtain ⟨h1, h82⟩ := HR_out h
  obtain ⟨r1, r82⟩ := RO_iff.mp h2
  refine HR_of (fun x q1 q2 q3 q4 q5 q6 q7 q8 q9 => ?_) (fun j q1 q2 => ?_)
  · rw [← h1 x q1 q2 q3 q4 q5 q6 q7 q8 q9, ← r1 x q1 q2 q3 q7 q8 q9]; simp [upI, q4, q5, q6]
  · rw [← h82 j q1 q2, ← r82 j q1 q2]; simp [upI]
theorem wd_L {q : Int32 × Int32} (h1 : q.1.toInt ≤ q.2.toInt) (h2 : q.2.toInt - q.1.toInt ≤ 134) : (q.2 - q.1).toInt64 + nL 1 = nL (wd q) := by
  have h3 : wd q ≤ 135 := by unfold wd; omega
  have e1 : (q.2 - q.1).toInt = q.2.toInt - q.1.toInt := sb_sub (by omega) (by omega)
  have e2 : q.2 - q.1 = nI (wd q - 1) := by
    apply Int32.toInt_inj.mp
    rw [e1, nI_toInt (by omega)]
    unfold wd at *
    omega
  have h4 : 1 ≤ wd q := by unfold wd; omega
  rw [e2, nL_i2l (by omega), nL_add]
  congr 1
  omega
theorem ctr_q {f : Nat → Int32} {k : Nat} (h : ¬ f k = -4) : ctr f (k + 1) = ctr f k := if_neg h
theorem ctr_p {f : Nat → Int32} {k : Nat} (h : f k = -4) : ctr f (k + 1) = 1 := if_pos h
theorem ctr_k {f : Nat → Int32} {k : Nat} (h : ¬ ctr f k = 0) : ctr f (k + 1) = 1 := by
  have := (ctr_0 (f := f) k).2
  by_cases z : f k = -4
  · exact ctr_p z
  · rw [ctr_q z]; omega
def clp (a b : Int64) : Int64 := if a < 0 then 0 else if b < a then b else a
theorem lg_ge (x y : Int64) : 0 ≤ lg_cmp x y ↔ ¬ x < y := by
  unfold lg_cmp
  by_cases h : x > y
  · rw [if_pos h]; exact ⟨fun _ z => Int64.lt_irrefl (Int64.lt_trans z h), fun _ => by decide⟩
  · rw [if_neg h]
    by_cases h2 : x = y
    · rw [if_pos h2]; exact ⟨fun _ => by rw [h2]; exact Int64.lt_irrefl, fun _ => by decide⟩
    · rw [if_neg h2]
      refine ⟨fun z => absurd z (by decide), fun z => ?_⟩
      exfalso
      have a1 := Int64.le_iff_toInt_le.mp (Int64.not_lt.mp z)
      have a2 := Int64.le_iff_toInt_le.mp (Int64.not_lt.mp h)
      exact h2 (L_ext (by omega))
theorem clp_fT {q : Int32 × Int32} {f : Int32} {e : Nat} (he : e ≤ 1) (h1 : q.1.toInt ≤ q.2.toInt) (h2 : q.2.toInt - q.1.toInt ≤ 134) (h3 : q.1.toInt.natAbs ≤ 320000000) (h4 : q.2.toInt.natAbs ≤ 320000000) (hf : f.toInt.natAbs ≤ 330000000) : clp ((f - q.1).toInt64 + nL e) (nL (wd q)) = nL (fT q (f.toInt + e - 1)) := by
  have e1 : (f - q.1).toInt = f.toInt - q.1.toInt := sb_sub (by omega) (by omega)
  have h5 : wd q ≤ 135 := by unfold wd; omega
  have hb : fT q (f.toInt + e - 1) ≤ 135 := by unfold fT; omega
  have e2 : ((f - q.1).toInt64 + nL e).toInt = f.toInt - q.1.toInt + e := by
    rw [Int64.toInt_add, Int32.toInt_toInt64, e1, nL_toInt (by omega)]
    exact Int.bmod_eq_of_le (by simp; omega) (by simp; omega)
  generalize (f - q.1).toInt64 + nL e = g at e2 ⊢
  unfold clp
  have e3 : (nL (wd q)).toInt = wd q := nL_toInt (by omega)
  have z0 : (0 : Int64).toInt = 0 := by decide
  apply L_ext
  rw [nL_toInt (show fT q (f.toInt + e - 1) < 9223372036854775808 by omega)]
  by_cases c : g < 0
  · rw [if_pos c, z0]
    have := Int64.lt_iff_toInt_lt.mp c
    rw [e2, z0] at this
    unfold fT
    omega
  · rw [if_neg c]
    have c1 := Int64.le_iff_toInt_le.mp (Int64.not_lt.mp c)
    rw [e2, z0] at c1
    by_cases c2 : nL (wd q) < g
    · rw [if_pos c2, e3]
      have := Int64.lt_iff_toInt_lt.mp c2
      rw [e2, e3] at this
      unfold fT wd at *
      omega
    · rw [if_neg c2, e2]
      have := Int64.le_iff_toInt_le.mp (Int64.not_lt.mp c2)
      rw [e2, e3] at this
      unfold fT wd at *
      omega
theorem r_within {l : Launch} {dp : Nat} {a b : Int64} {sh : hS} {I : hI} {J : hJ} {R : hR} {Q : hQ} (hQ : Q (some (.long (clp a b))) sh I J R) : HC l mX12_within dp 0 0 [.long a, .long b] sh I J R Q := by
  refine HC.of (by decide +kernel) rfl (Nat.le_of_ble_eq_true rfl) ?_
  show HV l mX12_within dp 0 0 0 [some (.long a), none, some (.long b), none] [] sh I J R Q
  unfold clp at hQ
  refine h_lload_n dX12_within_0 rfl ?_
  refine h_lconst (v := 0) dX12_within_1 rfl ?_
  refine h_lcmp dX12_within_2 ?_
  refine h_ifge (tgt := 10) dX12_within_3 rfl (fun c_3 => ?_) (fun c_3 => ?_)
  · refine h_lload_n dX12_within_10 rfl ?_
    refine h_lload_n dX12_within_11 rfl ?_
    refine h_lcmp dX12_within_12 ?_
    refine h_ifle (tgt := 20) dX12_within_13 rfl (fun c_13 => ?_) (fun c_13 => ?_)
    · refine h_lload_n dX12_within_20 rfl ?_
      refine h_lreturn dX12_within_21 rfl ?_
      rw [if_neg ((lg_ge _ _).mp c_3)] at hQ
      rw [if_neg ((lg_le _ _).mp c_13)] at hQ
      exact hQ
    · refine h_lload_n dX12_within_16 rfl ?_
      refine h_goto (tgt := 21) dX12_within_17 rfl ?_
      refine h_lreturn dX12_within_21 rfl ?_
      rw [if_neg ((lg_ge _ _).mp c_3)] at hQ
      rw [if_pos (Classical.not_not.mp (fun z => c_13 ((lg_le _ _).mpr z)))] at hQ
      exact hQ
  · refine h_lconst (v := 0) dX12_within_6 rfl ?_
    refine h_goto (tgt := 21) dX12_within_7 rfl ?_
    refine h_lreturn dX12_within_21 rfl ?_
    rw [if_pos (Classical.not_not.mp (fun z => c_3 ((lg_ge _ _).mpr z)))] at hQ
    exact hQ
theorem r_highest {l : Launch} {dp : Nat} {ns nl np ml nk nw : Nat} {pl fa fb sl pp pm ki fr tg wh bw : Nat → Nat} {rs sn : Nat → Int32} {fl : Nat → Bool} {qw : Nat → Nat → Nat → Nat → Bool} {I : hI} {J : hJ} {lt tx : Option Nat} {x w : Int32} {Q : hQ} (hG : rG I ns nl np ml nk nw pl fa fb sl pp pm ki fr tg wh bw rs sn fl qw) (hB : ¬ (isIx x np ∧ nI 0 ≤ w ∧ w ≤ nI 1) → Q (some (.long (-1))) hSH I J (hRR lt tx)) (h3 : ∀ p, x = nI p → p < np → spN ns nl np ml nk nw pl fa fb sl pp pm ki fr tg wh bw rs sn fl qw p = none → ∀ I', HR I I' → Q (some (.long (-3))) hSH I' J (hRR lt tx)) (h4 : ∀ p q, x = nI p → p < np → spN ns nl np ml nk nw pl fa fb sl pp pm ki fr tg wh bw rs sn fl qw p = some q → (¬ ∀ r, r < np → ¬ spc (spN ns nl np ml nk nw pl fa fb sl pp pm ki fr tg wh bw rs sn fl qw r) = -4) → ∀ I', HR I I' → Q (some (.long (-4))) hSH I' J (hRR lt tx)) (hO : ∀ p q, x = nI p → p < np → spN ns nl np ml nk nw pl fa fb sl pp pm ki fr tg wh bw rs sn fl qw p = some q → (∀ r, r < np → ¬ spc (spN ns nl np ml nk nw pl fa fb sl pp pm ki fr tg wh bw rs sn fl qw r) = -4) → ∀ I', HR I I' → (w = nI 0 → Q (some (.long (nL (sW (spN ns nl np ml nk nw pl fa fb sl pp pm ki fr tg wh bw rs sn fl qw) p np q.1.toInt (wd q) / Nat.gcd (sW (spN ns nl np ml nk nw pl fa fb sl pp pm ki fr tg wh bw rs sn fl qw) p np q.1.toInt (wd q)) (iA (spN ns nl np ml nk nw pl fa fb sl pp pm ki fr tg wh bw rs sn fl qw) np))))) hSH I' J (hRR lt tx)) ∧ (w = nI 1 → Q (some (.long (nL (iA (spN ns nl np ml nk nw pl fa fb sl pp pm ki fr tg wh bw rs sn fl qw) np / Nat.gcd (sW (spN ns nl np ml nk nw pl fa fb sl pp pm ki fr tg wh bw rs sn fl qw) p np q.1.toInt (wd q)) (iA (spN ns nl np ml nk nw pl fa fb sl pp pm ki fr tg wh bw rs sn fl qw) np))))) hSH I' J (hRR lt tx))) : HC l mX12_highest (dp + 7) 0 0 [.ref 82, .int x, .int w] hSH I J (hRR lt tx) Q := by
  refine HC.of (by decide +kernel) rfl (Nat.le_of_ble_eq_true rfl) ?_
  obtain ⟨hN, hw, ⟨hnp, hml, hnk, hpt, hsi⟩, ⟨hn8, hm2, hn24, hpW, hsW⟩, hL⟩ := id hG
  obtain ⟨hns, hnl, hpl, hlg⟩ := id hN
  obtain ⟨hn6, hl12, hW, hp99, hr99⟩ := id hw
  have Lg : ∀ (p W A : Nat) (I2 : hI), W < 9223372036854775808 → 0 < A → A < 2 ^ 63 → (w = nI 0 ∨ w = nI 1) → ((w = nI 0 → Q (some (.long (nL (W / Nat.gcd W A)))) hSH I2 J (hRR lt tx)) ∧ (w = nI 1 → Q (some (.long (nL (A / Nat.gcd W A)))) hSH I2 J (hRR lt tx))) → ∀ (f a b : Nat), eu f a b → a < 9223372036854775808 → b < 9223372036854775808 → Nat.gcd a b = Nat.gcd W A → ∀ z3 z12 z13, HV l mX12_highest (dp + 7) 0 0 314 [some (.ref 82), some (.int (nI p)), some (.int w), z3, some (.long (nL A)), none, some (.long (nL W)), none, some (.long (nL a)), none, some (.long (nL b)), none, z12, z13] [] hSH I2 J (hRR lt tx) Q := by
    intro p W A I2 hW hA0 hA h01 hX f
    have hg1 : 0 < Nat.gcd W A := Nat.gcd_pos_of_pos_right _ hA0
    have hg2 : Nat.gcd W A ≤ A := Nat.gcd_le_right _ hA0
    induction f with
    | zero =>
      intro a b he ha hb hg z3 z12 z13
      have he : b = 0 := he
      subst he
      refine h_lload dX12_highest_314 rfl ?_
      refine h_lconst (v := 0) dX12_highest_316 rfl ?_
      refine h_lcmp dX12_highest_317 ?_
      refine h_ifeq (tgt := 339) dX12_highest_318 rfl (fun c_318 => ?_) (fun c_318 => ?_)
      · rw [show Nat.gcd a 0 = a from Nat.gcd_zero_right a] at hg
        refine h_iload_n dX12_highest_339 rfl ?_
        refine h_ifne (tgt := 348) dX12_highest_340 rfl (fun c_340 => ?_) (fun c_340 => ?_)
        · refine h_lload dX12_highest_348 rfl ?_
          refine h_lload dX12_highest_350 rfl ?_
          refine h_ldiv dX12_highest_352 (fun z => absurd ((nL_eq (b := 0) (by omega) (by omega)).mp z) (by omega)) ?_
          refine h_lreturn dX12_highest_353 rfl ?_
          rw [hg, nL_div (by omega) (by omega) hg1]
          refine hX.2 (h01.resolve_left (fun z => c_340 (by rw [z]; rfl)))
        · refine h_lload dX12_highest_343 rfl ?_
          refine h_goto (tgt := 350) dX12_highest_345 rfl ?_
          refine h_lload dX12_highest_350 rfl ?_
          refine h_ldiv dX12_highest_352 (fun z => absurd ((nL_eq (b := 0) (by omega) (by omega)).mp z) (by omega)) ?_
          refine h_lreturn dX12_highest_353 rfl ?_
          rw [hg, nL_div (by omega) (by omega) hg1]
          exact hX.1 c_340
      · exact absurd ((lg_0 _ _).mpr rfl) c_318
    | succ f ih =>
      intro a b he ha hb hg z3 z12 z13
      refine h_lload dX12_highest_314 rfl ?_
      refine h_lconst (v := 0) dX12_highest_316 rfl ?_
      refine h_lcmp dX12_highest_317 ?_
      refine h_ifeq (tgt := 339) dX12_highest_318 rfl (fun c_318 => ?_) (fun c_318 => ?_)
      · have hb0 : b = 0 := (nL_eq hb (by omega)).mp ((lg_0 _ _).mp c_318)
        subst hb0
        rw [show Nat.gcd a 0 = a from Nat.gcd_zero_right a] at hg
        refine h_iload_n dX12_highest_339 rfl ?_
        refine h_ifne (tgt := 348) dX12_highest_340 rfl (fun c_340 => ?_) (fun c_340 => ?_)
        · refine h_lload dX12_highest_348 rfl ?_
          refine h_lload dX12_highest_350 rfl ?_
          refine h_ldiv dX12_highest_352 (fun z => absurd ((nL_eq (b := 0) (by omega) (by omega)).mp z) (by omega)) ?_
          refine h_lreturn dX12_highest_353 rfl ?_
          rw [hg, nL_div (by omega) (by omega) hg1]
          refine hX.2 (h01.resolve_left (fun z => c_340 (by rw [z]; rfl)))
        · refine h_lload dX12_highest_343 rfl ?_
          refine h_goto (tgt := 350) dX12_highest_345 rfl ?_
          refine h_lload dX12_highest_350 rfl ?_
          refine h_ldiv dX12_highest_352 (fun z => absurd ((nL_eq (b := 0) (by omega) (by omega)).mp z) (by omega)) ?_
          refine h_lreturn dX12_highest_353 rfl ?_
          rw [hg, nL_div (by omega) (by omega) hg1]
          exact hX.1 c_340
      · have hb0 : ¬ b = 0 := fun z => c_318 ((lg_0 _ _).mpr (by rw [z]; rfl))
        refine h_lload dX12_highest_321 rfl ?_
        refine h_lload dX12_highest_323 rfl ?_
        refine h_lrem dX12_highest_325 (fun z => hb0 ((nL_eq hb (by omega)).mp z)) ?_
        refine h_lstore dX12_highest_326 (Nat.le_of_ble_eq_true rfl) ?_
        refine h_lload dX12_highest_328 rfl ?_
        refine h_lstore dX12_highest_330 (Nat.le_of_ble_eq_true rfl) ?_
        refine h_lload dX12_highest_332 rfl ?_
        refine h_lstore dX12_highest_334 (Nat.le_of_ble_eq_true rfl) ?_
        refine h_goto (tgt := 314) dX12_highest_336 rfl ?_
        have hm : a % b < b := Nat.mod_lt _ (by omega)
        rw [nL_rem ha hb (by omega)]
        exact ih b (a % b) (he.resolve_left hb0) hb (by omega) (gcd_step.trans hg) _ _ _
  have L3 : ∀ (p : Nat) (q : Int32 × Int32) (I2 : hI), p < np → spN ns nl np ml nk nw pl fa fb sl pp pm ki fr tg wh bw rs sn fl qw p = some q → HR I I2 → (∀ r, r < np → spR (spN ns nl np ml nk nw pl fa fb sl pp pm ki fr tg wh bw rs sn fl qw r) (I2 93 r) (I2 94 r) ∧ I2 95 r = if spc (spN ns nl np ml nk nw pl fa fb sl pp pm ki fr tg wh bw rs sn fl qw r) = 0 then nI 1 else nI 0) → OW (spN ns nl np ml nk nw pl fa fb sl pp pm ki fr tg wh bw rs sn fl qw) np → (w = nI 0 ∨ w = nI 1) → ((w = nI 0 → Q (some (.long (nL (sW (spN ns nl np ml nk nw pl fa fb sl pp pm ki fr tg wh bw rs sn fl qw) p np q.1.toInt (wd q) / Nat.gcd (sW (spN ns nl np ml nk nw pl fa fb sl pp pm ki fr tg wh bw rs sn fl qw) p np q.1.toInt (wd q)) (iA (spN ns nl np ml nk nw pl fa fb sl pp pm ki fr tg wh bw rs sn fl qw) np))))) hSH I2 J (hRR lt tx)) ∧ (w = nI 1 → Q (some (.long (nL (iA (spN ns nl np ml nk nw pl fa fb sl pp pm ki fr tg wh bw rs sn fl qw) np / Nat.gcd (sW (spN ns nl np ml nk nw pl fa fb sl pp pm ki fr tg wh bw rs sn fl qw) p np q.1.toInt (wd q)) (iA (spN ns nl np ml nk nw pl fa fb sl pp pm ki fr tg wh bw rs sn fl qw) np))))) hSH I2 J (hRR lt tx))) → ∀ z3 z9 z10 z11 z12 z13, HV l mX12_highest (dp + 7) 0 0 196 [some (.ref 82), some (.int (nI p)), some (.int w), z3, some (.long (nL (iA (spN ns nl np ml nk nw pl fa fb sl pp pm ki fr tg wh bw rs sn fl qw) np))), none, some (.long 0), none, some (.int q.1), z9, z10, z11, z12, z13] [] hSH I2 J (hRR lt tx) Q := by
    intro p q I2 hp hsq hC hF hOW h01 hX
    have hn2 : I2 82 4 = nI np := ((HR_out hC).2 4 (by decide) (by decide)).trans hnp
    obtain ⟨o1, o2, o3, o4⟩ := hOW p hp q hsq
    have hw135 : wd q ≤ 135 := by unfold wd; omega
    have hwe : (wd q : Int) = q.2.toInt - q.1.toInt + 1 := by unfold wd; omega
    unfold bd at o3 o4
    obtain ⟨fy1, fy2⟩ := hF p hp
    rw [hsq] at fy1
    have hfj : ∀ j, j ≤ 136 → (q.1 + nI j).toInt = q.1.toInt + j := fun j hj => by
      have e := nI_toInt (show j < 2147483648 by omega)
      rw [sb_add (by rw [e]; omega) (by rw [e]; omega), e]
    have hWb := sW_b hOW hn8 hp (lo := q.1.toInt) (wd q)
    obtain ⟨hA1, hA2⟩ := iA_b hOW np (by omega)
    have hA3 := p135 hn8
    have hWc : sW (spN ns nl np ml nk nw pl fa fb sl pp pm ki fr tg wh bw rs sn fl qw) p np q.1.toInt (wd q) ≤ 135 * 817215093984375 := Nat.le_trans hWb (Nat.mul_le_mul_right _ hw135)
    have Li : ∀ (j : Nat) (W : Int64), j < wd q → ∀ z3 z12 z13, (HV l mX12_highest (dp + 7) 0 0 196 [some (.ref 82), some (.int (nI p)), some (.int w), z3, some (.long (nL (iA (spN ns nl np ml nk nw pl fa fb sl pp pm ki fr tg wh bw rs sn fl qw) np))), none, some (.long (W + nL (pr (spN ns nl np ml nk nw pl fa fb sl pp pm ki fr tg wh bw rs sn fl qw) p (q.1.toInt + j) np))), none, some (.int (q.1 + nI (j + 1))), some (.long (nL (pr (spN ns nl np ml nk nw pl fa fb sl pp pm ki fr tg wh bw rs sn fl qw) p (q.1.toInt + j) np))), none, some (.int (nI np)), z12, z13] [] hSH I2 J (hRR lt tx) Q) → ∀ (m k : Nat), np - k < m → k ≤ np → HV l mX12_highest (dp + 7) 0 0 213 [some (.ref 82), some (.int (nI p)), some (.int w), z3, some (.long (nL (iA (spN ns nl np ml nk nw pl fa fb sl pp pm ki fr tg wh bw rs sn fl qw) np))), none, some (.long W), none, some (.int (q.1 + nI j)), some (.long (nL (pr (spN ns nl np ml nk nw pl fa fb sl pp pm ki fr tg wh bw rs sn fl qw) p (q.1.toInt + j) k))), none, some (.int (nI k)), z12, z13] [] hSH I2 J (hRR lt tx) Q := by
      intro j W hj z3 z12 z13 hnext m
      induction m with
      | zero => intro k h1 h2; omega
      | succ m ih =>
        intro k h1 h2
        have e1 := hfj j (by omega)
        refine h_iload dX12_highest_213 rfl ?_
        refine h_aload_n dX12_highest_215 rfl ?_
        refine h_getI dX12_highest_216 f_X12_110_10 rfl hn2 ?_
        refine h_icmpge (tgt := 293) dX12_highest_219 rfl (fun c_219 => ?_) (fun c_219 => ?_)
        · rw [nI_leI (by omega) (by omega)] at c_219
          refine h_lload dX12_highest_293 rfl ?_
          refine h_lload dX12_highest_295 rfl ?_
          refine h_ladd dX12_highest_297 ?_
          refine h_lstore dX12_highest_298 (Nat.le_of_ble_eq_true rfl) ?_
          refine h_iinc (v := q.1 + nI (j + 1)) dX12_highest_300 rfl (by rw [← nI_add, ← Int32.add_assoc]; rfl) (Nat.le_of_ble_eq_true rfl) ?_
          refine h_goto (tgt := 196) dX12_highest_303 rfl ?_
          have ek : np = k := by omega
          subst ek
          exact hnext
        · rw [nI_leI (by omega) (by omega)] at c_219
          refine h_iload dX12_highest_222 rfl ?_
          refine h_iload_n dX12_highest_224 rfl ?_
          refine h_icmpeq (tgt := 287) dX12_highest_225 rfl (fun c_225 => ?_) (fun c_225 => ?_)
          · rw [nI_eq (by omega) (by omega)] at c_225
            refine h_iinc (v := nI (k + 1)) dX12_highest_287 rfl (nI_1 _) (Nat.le_of_ble_eq_true rfl) ?_
            refine h_goto (tgt := 213) dX12_highest_290 rfl ?_
            have h3 := ih (k + 1) (by omega) (by omega)
            unfold pr at h3
            rw [if_pos c_225, Nat.mul_one] at h3
            exact h3
          · rw [nI_eq (by omega) (by omega)] at c_225
            refine h_aload_n dX12_highest_228 rfl ?_
            refine h_getR dX12_highest_229 f_X12_46_10 rfl rfl ?_
            refine h_iload dX12_highest_232 rfl ?_
            refine h_zaldN (j := k) dX12_highest_234 rfl rfl (by omega) rfl (hF k (by omega)).2 ?_
            refine h_ifeq (tgt := 287) dX12_highest_235 rfl (fun c_235 => ?_) (fun c_235 => ?_)
            · have hn0 : spN ns nl np ml nk nw pl fa fb sl pp pm ki fr tg wh bw rs sn fl qw k = none := spc_no hOW (show k < np by omega) (fun z => by rw [if_pos z] at c_235; exact absurd c_235 (by decide))
              refine h_iinc (v := nI (k + 1)) dX12_highest_287 rfl (nI_1 _) (Nat.le_of_ble_eq_true rfl) ?_
              refine h_goto (tgt := 213) dX12_highest_290 rfl ?_
              have h3 := ih (k + 1) (by omega) (by omega)
              unfold pr at h3
              rw [if_neg c_225, hn0, show ∀ z, fTO none z = 1 from fun _ => rfl, Nat.mul_one] at h3
              exact h3
            · have hz0 : spc (spN ns nl np ml nk nw pl fa fb sl pp pm ki fr tg wh bw rs sn fl qw k) = 0 := Classical.not_not.mp (fun z => c_235 (by rw [if_neg z]; rfl))
              obtain ⟨r, hsn, hrr⟩ := spE_ok hz0
              obtain ⟨ky, -⟩ := hF k (by omega)
              rw [hsn] at ky
              obtain ⟨p1, p2, p3, p4⟩ := hOW k (by omega) r hsn
              unfold bd at p3 p4
              refine h_lload dX12_highest_238 rfl ?_
              refine h_iload dX12_highest_240 rfl ?_
              refine h_aload_n dX12_highest_242 rfl ?_
              refine h_getR dX12_highest_243 f_X12_40_10 rfl rfl ?_
              refine h_iload dX12_highest_246 rfl ?_
              refine h_ialdN (j := k) dX12_highest_248 rfl rfl (by omega) rfl ky.1 ?_
              refine h_isub dX12_highest_249 ?_
              refine h_i2l dX12_highest_250 ?_
              refine h_iload dX12_highest_251 rfl ?_
              refine h_iload_n dX12_highest_253 rfl ?_
              refine h_icmple (tgt := 261) dX12_highest_254 rfl (fun c_254 => ?_) (fun c_254 => ?_)
              · rw [nI_leI (by omega) (by omega)] at c_254
                refine h_lconst (v := 0) dX12_highest_261 rfl ?_
                refine h_ladd dX12_highest_262 ?_
                refine h_aload_n dX12_highest_263 rfl ?_
                refine h_getR dX12_highest_264 f_X12_43_10 rfl rfl ?_
                refine h_iload dX12_highest_267 rfl ?_
                refine h_ialdN (j := k) dX12_highest_269 rfl rfl (by omega) rfl ky.2 ?_
                refine h_aload_n dX12_highest_270 rfl ?_
                refine h_getR dX12_highest_271 f_X12_40_10 rfl rfl ?_
                refine h_iload dX12_highest_274 rfl ?_
                refine h_ialdN (j := k) dX12_highest_276 rfl rfl (by omega) rfl ky.1 ?_
                refine h_isub dX12_highest_277 ?_
                refine h_i2l dX12_highest_278 ?_
                refine h_lconst (v := 1) dX12_highest_279 rfl ?_
                refine h_ladd dX12_highest_280 ?_
                refine h_cS2 dX12_highest_281 k6_114 oSX12_within rfl ?_
                refine r_within ?_
                refine h_lmul dX12_highest_284 ?_
                refine h_lstore dX12_highest_285 (Nat.le_of_ble_eq_true rfl) ?_
                refine h_iinc (v := nI (k + 1)) dX12_highest_287 rfl (nI_1 _) (Nat.le_of_ble_eq_true rfl) ?_
                refine h_goto (tgt := 213) dX12_highest_290 rfl ?_
                have h3 := ih (k + 1) (by omega) (by omega)
                unfold pr at h3
                rw [if_neg c_225, hsn, if_pos (show k < p by omega), show ∀ z, fTO (some r) z = fT r z from fun _ => rfl, ← nL_mul] at h3
                have e4 : (r.2 - r.1).toInt64 + 1 = nL (wd r) := wd_L p1 p2
                have e5 : clp ((q.1 + nI j - r.1).toInt64 + 0) (nL (wd r)) = nL (fT r (q.1.toInt + j - 1)) := by
                  have := clp_fT (q := r) (f := q.1 + nI j) (e := 0) (by omega) p1 p2 p3 p4 (by rw [e1]; omega)
                  rw [e1, show (q.1.toInt + (j : Int) + ((0 : Nat) : Int) - 1) = q.1.toInt + j - 1 by omega] at this
                  exact this
                rw [e4, e5]
                exact h3
              · rw [nI_leI (by omega) (by omega)] at c_254
                refine h_lconst (v := 1) dX12_highest_257 rfl ?_
                refine h_goto (tgt := 262) dX12_highest_258 rfl ?_
                refine h_ladd dX12_highest_262 ?_
                refine h_aload_n dX12_highest_263 rfl ?_
                refine h_getR dX12_highest_264 f_X12_43_10 rfl rfl ?_
                refine h_iload dX12_highest_267 rfl ?_
                refine h_ialdN (j := k) dX12_highest_269 rfl rfl (by omega) rfl ky.2 ?_
                refine h_aload_n dX12_highest_270 rfl ?_
                refine h_getR dX12_highest_271 f_X12_40_10 rfl rfl ?_
                refine h_iload dX12_highest_274 rfl ?_
                refine h_ialdN (j := k) dX12_highest_276 rfl rfl (by omega) rfl ky.1 ?_
                refine h_isub dX12_highest_277 ?_
                refine h_i2l dX12_highest_278 ?_
                refine h_lconst (v := 1) dX12_highest_279 rfl ?_
                refine h_ladd dX12_highest_280 ?_
                refine h_cS2 dX12_highest_281 k6_114 oSX12_within rfl ?_
                refine r_within ?_
                refine h_lmul dX12_highest_284 ?_
                refine h_lstore dX12_highest_285 (Nat.le_of_ble_eq_true rfl) ?_
                refine h_iinc (v := nI (k + 1)) dX12_highest_287 rfl (nI_1 _) (Nat.le_of_ble_eq_true rfl) ?_
                refine h_goto (tgt := 213) dX12_highest_290 rfl ?_
                have h3 := ih (k + 1) (by omega) (by omega)
                unfold pr at h3
                rw [if_neg c_225, hsn, if_neg (show ¬ k < p by omega), show ∀ z, fTO (some r) z = fT r z from fun _ => rfl, ← nL_mul] at h3
                have e4 : (r.2 - r.1).toInt64 + 1 = nL (wd r) := wd_L p1 p2
                have e5 : clp ((q.1 + nI j - r.1).toInt64 + 1) (nL (wd r)) = nL (fT r (q.1.toInt + j)) := by
                  have := clp_fT (q := r) (f := q.1 + nI j) (e := 1) (by omega) p1 p2 p3 p4 (by rw [e1]; omega)
                  rw [e1, show (q.1.toInt + (j : Int) + ((1 : Nat) : Int) - 1) = q.1.toInt + j by omega] at this
                  exact this
                rw [e4, e5]
                exact h3
    have Lo : ∀ (m j : Nat), wd q - j < m → j ≤ wd q → ∀ z3 z9 z10 z11 z12 z13, HV l mX12_highest (dp + 7) 0 0 196 [some (.ref 82), some (.int (nI p)), some (.int w), z3, some (.long (nL (iA (spN ns nl np ml nk nw pl fa fb sl pp pm ki fr tg wh bw rs sn fl qw) np))), none, some (.long (nL (sW (spN ns nl np ml nk nw pl fa fb sl pp pm ki fr tg wh bw rs sn fl qw) p np q.1.toInt j))), none, some (.int (q.1 + nI j)), z9, z10, z11, z12, z13] [] hSH I2 J (hRR lt tx) Q := by
      intro m
      induction m with
      | zero => intro j h1 h2 z3 z9 z10 z11 z12 z13; omega
      | succ m ih =>
        intro j h1 h2 z3 z9 z10 z11 z12 z13
        have e1 := hfj j (by omega)
        refine h_iload dX12_highest_196 rfl ?_
        refine h_aload_n dX12_highest_198 rfl ?_
        refine h_getR dX12_highest_199 f_X12_43_10 rfl rfl ?_
        refine h_iload_n dX12_highest_202 rfl ?_
        refine h_ialdN (j := p) dX12_highest_203 rfl rfl (by omega) rfl fy1.2 ?_
        refine h_icmpgt (tgt := 306) dX12_highest_204 rfl (fun c_204 => ?_) (fun c_204 => ?_)
        · have c_204 := Int32.lt_iff_toInt_lt.mp c_204
          rw [e1] at c_204
          have ek : j = wd q := by omega
          subst ek
          refine h_lload dX12_highest_306 rfl ?_
          refine h_lstore dX12_highest_308 (Nat.le_of_ble_eq_true rfl) ?_
          refine h_lload dX12_highest_310 rfl ?_
          refine h_lstore dX12_highest_312 (Nat.le_of_ble_eq_true rfl) ?_
          exact Lg p (sW (spN ns nl np ml nk nw pl fa fb sl pp pm ki fr tg wh bw rs sn fl qw) p np q.1.toInt (wd q)) (iA (spN ns nl np ml nk nw pl fa fb sl pp pm ki fr tg wh bw rs sn fl qw) np) I2 (by omega) (by omega) (by omega) h01 hX 126 _ _ (eu_of 63 _ _ (by omega)) (by omega) (by omega) rfl _ _ _
        · have c_204 := Int32.le_iff_toInt_le.mp (Int32.not_lt.mp c_204)
          rw [e1] at c_204
          refine h_lconst (v := 1) dX12_highest_207 rfl ?_
          refine h_lstore dX12_highest_208 (Nat.le_of_ble_eq_true rfl) ?_
          refine h_iconst dX12_highest_210 ci_0 ?_
          refine h_istore dX12_highest_211 (Nat.le_of_ble_eq_true rfl) ?_
          have h3 := ih (j + 1) (by omega) (by omega)
          unfold sW at h3
          rw [← nL_add] at h3
          exact Li j _ (by omega) _ _ _ (h3 _ _ _ _ _ _) (np + 1) 0 (by omega) (by omega)
    intro z3 z9 z10 z11 z12 z13
    have h0 := Lo (wd q + 1) 0 (by omega) (by omega) z3 z9 z10 z11 z12 z13
    rw [show q.1 + nI 0 = q.1 by rw [show nI 0 = (0 : Int32) by decide, Int32.add_zero]] at h0
    exact h0
  have L2 : ∀ (p : Nat) (q : Int32 × Int32) (I2 : hI), p < np → spN ns nl np ml nk nw pl fa fb sl pp pm ki fr tg wh bw rs sn fl qw p = some q → HR I I2 → (∀ r, r < np → spR (spN ns nl np ml nk nw pl fa fb sl pp pm ki fr tg wh bw rs sn fl qw r) (I2 93 r) (I2 94 r) ∧ I2 95 r = if spc (spN ns nl np ml nk nw pl fa fb sl pp pm ki fr tg wh bw rs sn fl qw r) = 0 then nI 1 else nI 0) → OW (spN ns nl np ml nk nw pl fa fb sl pp pm ki fr tg wh bw rs sn fl qw) np → (w = nI 0 ∨ w = nI 1) → ((w = nI 0 → Q (some (.long (nL (sW (spN ns nl np ml nk nw pl fa fb sl pp pm ki fr tg wh bw rs sn fl qw) p np q.1.toInt (wd q) / Nat.gcd (sW (spN ns nl np ml nk nw pl fa fb sl pp pm ki fr tg wh bw rs sn fl qw) p np q.1.toInt (wd q)) (iA (spN ns nl np ml nk nw pl fa fb sl pp pm ki fr tg wh bw rs sn fl qw) np))))) hSH I2 J (hRR lt tx)) ∧ (w = nI 1 → Q (some (.long (nL (iA (spN ns nl np ml nk nw pl fa fb sl pp pm ki fr tg wh bw rs sn fl qw) np / Nat.gcd (sW (spN ns nl np ml nk nw pl fa fb sl pp pm ki fr tg wh bw rs sn fl qw) p np q.1.toInt (wd q)) (iA (spN ns nl np ml nk nw pl fa fb sl pp pm ki fr tg wh bw rs sn fl qw) np))))) hSH I2 J (hRR lt tx))) → ∀ (m k : Nat), np - k < m → k ≤ np → ∀ z3 z7 z8 z9 z10 z11 z12 z13, HV l mX12_highest (dp + 7) 0 0 133 [some (.ref 82), some (.int (nI p)), some (.int w), z3, some (.long (nL (iA (spN ns nl np ml nk nw pl fa fb sl pp pm ki fr tg wh bw rs sn fl qw) k))), none, some (.int (nI k)), z7, z8, z9, z10, z11, z12, z13] [] hSH I2 J (hRR lt tx) Q := by
    intro p q I2 hp hsq hC hF hOW h01 hX m
    have hn2 : I2 82 4 = nI np := ((HR_out hC).2 4 (by decide) (by decide)).trans hnp
    obtain ⟨fy1, fy2⟩ := hF p hp
    rw [hsq] at fy1
    induction m with
    | zero => intro k h1 h2 z3 z7 z8 z9 z10 z11 z12 z13; omega
    | succ m ih =>
      intro k h1 h2 z3 z7 z8 z9 z10 z11 z12 z13
      refine h_iload dX12_highest_133 rfl ?_
      refine h_aload_n dX12_highest_135 rfl ?_
      refine h_getI dX12_highest_136 f_X12_110_10 rfl hn2 ?_
      refine h_icmpge (tgt := 185) dX12_highest_139 rfl (fun c_139 => ?_) (fun c_139 => ?_)
      · rw [nI_leI (by omega) (by omega)] at c_139
        refine h_lconst (v := 0) dX12_highest_185 rfl ?_
        refine h_lstore dX12_highest_186 (Nat.le_of_ble_eq_true rfl) ?_
        refine h_aload_n dX12_highest_188 rfl ?_
        refine h_getR dX12_highest_189 f_X12_40_10 rfl rfl ?_
        refine h_iload_n dX12_highest_192 rfl ?_
        refine h_ialdN (j := p) dX12_highest_193 rfl rfl (by omega) rfl fy1.1 ?_
        refine h_istore dX12_highest_194 (Nat.le_of_ble_eq_true rfl) ?_
        have ek : np = k := by omega
        subst ek
        exact L3 p q I2 hp hsq hC hF hOW h01 hX _ _ _ _ _ _
      · rw [nI_leI (by omega) (by omega)] at c_139
        refine h_lload dX12_highest_142 rfl ?_
        refine h_aload_n dX12_highest_144 rfl ?_
        refine h_getR dX12_highest_145 f_X12_46_10 rfl rfl ?_
        refine h_iload dX12_highest_148 rfl ?_
        refine h_zaldN (j := k) dX12_highest_150 rfl rfl (by omega) rfl (hF k (by omega)).2 ?_
        refine h_ifeq (tgt := 175) dX12_highest_151 rfl (fun c_151 => ?_) (fun c_151 => ?_)
        · have hn0 : spN ns nl np ml nk nw pl fa fb sl pp pm ki fr tg wh bw rs sn fl qw k = none := spc_no hOW (show k < np by omega) (fun z => by rw [if_pos z] at c_151; exact absurd c_151 (by decide))
          refine h_lconst (v := 1) dX12_highest_175 rfl ?_
          refine h_lmul dX12_highest_176 ?_
          refine h_lstore dX12_highest_177 (Nat.le_of_ble_eq_true rfl) ?_
          refine h_iinc (v := nI (k + 1)) dX12_highest_179 rfl (nI_1 _) (Nat.le_of_ble_eq_true rfl) ?_
          refine h_goto (tgt := 133) dX12_highest_182 rfl ?_
          have h3 := ih (k + 1) (by omega) (by omega)
          unfold iA at h3
          rw [hn0, show wdO none = 1 from rfl, ← nL_mul] at h3
          exact h3 _ _ _ _ _ _ _ _
        · have hz0 : spc (spN ns nl np ml nk nw pl fa fb sl pp pm ki fr tg wh bw rs sn fl qw k) = 0 := Classical.not_not.mp (fun z => c_151 (by rw [if_neg z]; rfl))
          obtain ⟨r, hsn, hrr⟩ := spE_ok hz0
          obtain ⟨ky, -⟩ := hF k (by omega)
          rw [hsn] at ky
          obtain ⟨p1, p2, p3, p4⟩ := hOW k (by omega) r hsn
          unfold bd at p3 p4
          refine h_aload_n dX12_highest_154 rfl ?_
          refine h_getR dX12_highest_155 f_X12_43_10 rfl rfl ?_
          refine h_iload dX12_highest_158 rfl ?_
          refine h_ialdN (j := k) dX12_highest_160 rfl rfl (by omega) rfl ky.2 ?_
          refine h_aload_n dX12_highest_161 rfl ?_
          refine h_getR dX12_highest_162 f_X12_40_10 rfl rfl ?_
          refine h_iload dX12_highest_165 rfl ?_
          refine h_ialdN (j := k) dX12_highest_167 rfl rfl (by omega) rfl ky.1 ?_
          refine h_isub dX12_highest_168 ?_
          refine h_i2l dX12_highest_169 ?_
          refine h_lconst (v := 1) dX12_highest_170 rfl ?_
          refine h_ladd dX12_highest_171 ?_
          refine h_goto (tgt := 176) dX12_highest_172 rfl ?_
          refine h_lmul dX12_highest_176 ?_
          refine h_lstore dX12_highest_177 (Nat.le_of_ble_eq_true rfl) ?_
          refine h_iinc (v := nI (k + 1)) dX12_highest_179 rfl (nI_1 _) (Nat.le_of_ble_eq_true rfl) ?_
          refine h_goto (tgt := 133) dX12_highest_182 rfl ?_
          have h3 := ih (k + 1) (by omega) (by omega)
          unfold iA at h3
          rw [hsn, show wdO (some r) = wd r from rfl, ← nL_mul] at h3
          have e4 : (r.2 - r.1).toInt64 + 1 = nL (wd r) := wd_L p1 p2
          rw [e4]
          exact h3 _ _ _ _ _ _ _ _
  have L1 : ∀ (p : Nat) (q : Int32 × Int32), p < np → x = nI p → spN ns nl np ml nk nw pl fa fb sl pp pm ki fr tg wh bw rs sn fl qw p = some q → (w = nI 0 ∨ w = nI 1) → ∀ (m k : Nat) (I2 : hI), HR I I2 → (∀ r, r < k → spR (spN ns nl np ml nk nw pl fa fb sl pp pm ki fr tg wh bw rs sn fl qw r) (I2 93 r) (I2 94 r) ∧ I2 95 r = if spc (spN ns nl np ml nk nw pl fa fb sl pp pm ki fr tg wh bw rs sn fl qw r) = 0 then nI 1 else nI 0) → np - k < m → k ≤ np → ∀ z5 z6 z7 z8 z9 z10 z11 z12 z13, HV l mX12_highest (dp + 7) 0 0 40 [some (.ref 82), some (.int (nI p)), some (.int w), some (.int (nI (ctr (fun r => spc (spN ns nl np ml nk nw pl fa fb sl pp pm ki fr tg wh bw rs sn fl qw r)) k))), some (.int (nI k)), z5, z6, z7, z8, z9, z10, z11, z12, z13] [] hSH I2 J (hRR lt tx) Q := by
    intro p q hp hxp hsq h01 m
    induction m with
    | zero => intro k I2 hC hF h1 h2 z5 z6 z7 z8 z9 z10 z11 z12 z13; omega
    | succ m ih =>
      intro k I2 hC hF h1 h2 z5 z6 z7 z8 z9 z10 z11 z12 z13
      obtain ⟨ct1, ct2⟩ := ctr_0 (f := (fun r => spc (spN ns nl np ml nk nw pl fa fb sl pp pm ki fr tg wh bw rs sn fl qw r))) k
      have hC0 := hC
      obtain ⟨u1, u2, u3, a, b, c, lo, hi, f1, f2, rfl⟩ := hC
      refine h_iload dX12_highest_40 rfl ?_
      refine h_aload_n dX12_highest_42 rfl ?_
      refine h_getI dX12_highest_43 f_X12_110_10 rfl hnp ?_
      refine h_icmpge (tgt := 119) dX12_highest_46 rfl (fun c_46 => ?_) (fun c_46 => ?_)
      · rw [nI_leI (by omega) (by omega)] at c_46
        refine h_iload_n dX12_highest_119 rfl ?_
        refine h_ifeq (tgt := 127) dX12_highest_120 rfl (fun c_120 => ?_) (fun c_120 => ?_)
        · rw [show (0 : Int32) = nI 0 from rfl, nI_eq (by omega) (by omega)] at c_120
          refine h_lconst (v := 1) dX12_highest_127 rfl ?_
          refine h_lstore dX12_highest_128 (Nat.le_of_ble_eq_true rfl) ?_
          refine h_iconst dX12_highest_130 ci_0 ?_
          refine h_istore dX12_highest_131 (Nat.le_of_ble_eq_true rfl) ?_
          have ek : np = k := by omega
          subst ek
          have hno := ct1.mp (by omega)
          have hOW := sp_OW (fl := fl) hw ⟨hn8, hm2, hn24, hpW, hsW⟩ (fun _ _ _ => rW_le hL) hno
          exact L2 p q _ hp hsq hC0 hF hOW h01 (hO p q hxp hp hsq hno _ hC0) (np + 1) 0 (by omega) (by omega) _ _ _ _ _ _ _ _
        · rw [show (0 : Int32) = nI 0 from rfl, nI_eq (by omega) (by omega)] at c_120
          refine h_ldc2 dX12_highest_123 k6_113 ?_
          refine h_lreturn dX12_highest_126 rfl ?_
          have ek : np = k := by omega
          subst ek
          exact h4 p q hxp hp hsq (fun z => c_120 (ct1.mpr z)) _ hC0
      · rw [nI_leI (by omega) (by omega)] at c_46
        refine h_aload_n dX12_highest_49 rfl ?_
        refine h_iload dX12_highest_50 rfl ?_
        refine h_cV1 dX12_highest_52 k6_74 oVX12_noSpan rfl rfl ?_
        refine r_noSpan (I := (rM (upA (upA (upA I 93 u1) 94 u2) 95 u3) a b c lo hi f1 f2)) (p := k) hG (by omega) (fun a2 b2 c2 lo2 hi2 g1 g2 hLv2 y2 => ?_)
        refine h_istore dX12_highest_55 (Nat.le_of_ble_eq_true rfl) ?_
        refine h_iload_n dX12_highest_57 rfl ?_
        refine h_ifne (tgt := 68) dX12_highest_58 rfl (fun c_58 => ?_) (fun c_58 => ?_)
        · rw [show (0 : Int32) = nI 0 from rfl, nI_eq (by omega) (by omega)] at c_58
          refine h_iconst dX12_highest_68 ci_1 ?_
          refine h_goto (tgt := 73) dX12_highest_69 rfl ?_
          refine h_istore_n dX12_highest_73 (Nat.le_of_ble_eq_true rfl) ?_
          refine h_aload_n dX12_highest_74 rfl ?_
          refine h_getR dX12_highest_75 f_X12_46_10 rfl rfl ?_
          refine h_iload dX12_highest_78 rfl ?_
          refine h_iload dX12_highest_80 rfl ?_
          refine h_ifne (tgt := 89) dX12_highest_82 rfl (fun c_82 => ?_) (fun c_82 => ?_)
          · refine h_iconst dX12_highest_89 ci_0 ?_
            refine h_zastN (j := k) dX12_highest_90 rfl rfl (by omega) rfl ?_
            refine h_aload_n dX12_highest_91 rfl ?_
            refine h_getR dX12_highest_92 f_X12_40_10 rfl rfl ?_
            refine h_iload dX12_highest_95 rfl ?_
            refine h_aload_n dX12_highest_97 rfl ?_
            refine h_getI dX12_highest_98 f_X12_200_10 rfl rfl ?_
            refine h_iastN (j := k) dX12_highest_101 rfl rfl (by omega) rfl ?_
            refine h_aload_n dX12_highest_102 rfl ?_
            refine h_getR dX12_highest_103 f_X12_43_10 rfl rfl ?_
            refine h_iload dX12_highest_106 rfl ?_
            refine h_aload_n dX12_highest_108 rfl ?_
            refine h_getI dX12_highest_109 f_X12_203_10 rfl rfl ?_
            refine h_iastN (j := k) dX12_highest_112 rfl rfl (by omega) rfl ?_
            refine h_iinc (v := nI (k + 1)) dX12_highest_113 rfl (nI_1 _) (Nat.le_of_ble_eq_true rfl) ?_
            refine h_goto (tgt := 40) dX12_highest_116 rfl ?_
            have h3 := ih (k + 1) _ (HR_st (k := k) (a := (nI 0 : Int32).toInt8.toInt32) (b := lo2) (c := hi2) hC0 (RO_m _ a2 b2 c2 lo2 hi2 g1 g2)) (fun r hr => by
              by_cases e : r = k
              · subst e
                refine ⟨?_, ?_⟩
                · show spR _ (upd _ r lo2 r) (upd _ r hi2 r)
                  rw [upd_s, upd_s]
                  exact y2
                · show upd _ r _ r = _
                  rw [upd_s]
                  exact (if_neg c_82).symm
              · obtain ⟨w1, w2⟩ := hF r (by omega)
                refine ⟨?_, ?_⟩
                · show spR _ (upd _ k lo2 r) (upd _ k hi2 r)
                  rw [upd_n _ _ e, upd_n _ _ e]
                  exact w1
                · show upd _ k _ r = _
                  rw [upd_n _ _ e]
                  exact w2) (by omega) (by omega)
            rw [ctr_k (f := (fun r => spc (spN ns nl np ml nk nw pl fa fb sl pp pm ki fr tg wh bw rs sn fl qw r))) (k := k) c_58] at h3
            exact h3 _ _ _ _ _ _ _ _ _
          · refine h_iconst dX12_highest_85 ci_1 ?_
            refine h_goto (tgt := 90) dX12_highest_86 rfl ?_
            refine h_zastN (j := k) dX12_highest_90 rfl rfl (by omega) rfl ?_
            refine h_aload_n dX12_highest_91 rfl ?_
            refine h_getR dX12_highest_92 f_X12_40_10 rfl rfl ?_
            refine h_iload dX12_highest_95 rfl ?_
            refine h_aload_n dX12_highest_97 rfl ?_
            refine h_getI dX12_highest_98 f_X12_200_10 rfl rfl ?_
            refine h_iastN (j := k) dX12_highest_101 rfl rfl (by omega) rfl ?_
            refine h_aload_n dX12_highest_102 rfl ?_
            refine h_getR dX12_highest_103 f_X12_43_10 rfl rfl ?_
            refine h_iload dX12_highest_106 rfl ?_
            refine h_aload_n dX12_highest_108 rfl ?_
            refine h_getI dX12_highest_109 f_X12_203_10 rfl rfl ?_
            refine h_iastN (j := k) dX12_highest_112 rfl rfl (by omega) rfl ?_
            refine h_iinc (v := nI (k + 1)) dX12_highest_113 rfl (nI_1 _) (Nat.le_of_ble_eq_true rfl) ?_
            refine h_goto (tgt := 40) dX12_highest_116 rfl ?_
            have h3 := ih (k + 1) _ (HR_st (k := k) (a := (nI 1 : Int32).toInt8.toInt32) (b := lo2) (c := hi2) hC0 (RO_m _ a2 b2 c2 lo2 hi2 g1 g2)) (fun r hr => by
              by_cases e : r = k
              · subst e
                refine ⟨?_, ?_⟩
                · show spR _ (upd _ r lo2 r) (upd _ r hi2 r)
                  rw [upd_s, upd_s]
                  exact y2
                · show upd _ r _ r = _
                  rw [upd_s]
                  exact (if_pos c_82).symm
              · obtain ⟨w1, w2⟩ := hF r (by omega)
                refine ⟨?_, ?_⟩
                · show spR _ (upd _ k lo2 r) (upd _ k hi2 r)
                  rw [upd_n _ _ e, upd_n _ _ e]
                  exact w1
                · show upd _ k _ r = _
                  rw [upd_n _ _ e]
                  exact w2) (by omega) (by omega)
            rw [ctr_k (f := (fun r => spc (spN ns nl np ml nk nw pl fa fb sl pp pm ki fr tg wh bw rs sn fl qw r))) (k := k) c_58] at h3
            exact h3 _ _ _ _ _ _ _ _ _
        · rw [show (0 : Int32) = nI 0 from rfl, nI_eq (by omega) (by omega)] at c_58
          refine h_iload dX12_highest_61 rfl ?_
          refine h_bipush dX12_highest_63 cb_m4 ?_
          refine h_icmpne (tgt := 72) dX12_highest_65 rfl (fun c_65 => ?_) (fun c_65 => ?_)
          · refine h_iconst dX12_highest_72 ci_0 ?_
            refine h_istore_n dX12_highest_73 (Nat.le_of_ble_eq_true rfl) ?_
            refine h_aload_n dX12_highest_74 rfl ?_
            refine h_getR dX12_highest_75 f_X12_46_10 rfl rfl ?_
            refine h_iload dX12_highest_78 rfl ?_
            refine h_iload dX12_highest_80 rfl ?_
            refine h_ifne (tgt := 89) dX12_highest_82 rfl (fun c_82 => ?_) (fun c_82 => ?_)
            · refine h_iconst dX12_highest_89 ci_0 ?_
              refine h_zastN (j := k) dX12_highest_90 rfl rfl (by omega) rfl ?_
              refine h_aload_n dX12_highest_91 rfl ?_
              refine h_getR dX12_highest_92 f_X12_40_10 rfl rfl ?_
              refine h_iload dX12_highest_95 rfl ?_
              refine h_aload_n dX12_highest_97 rfl ?_
              refine h_getI dX12_highest_98 f_X12_200_10 rfl rfl ?_
              refine h_iastN (j := k) dX12_highest_101 rfl rfl (by omega) rfl ?_
              refine h_aload_n dX12_highest_102 rfl ?_
              refine h_getR dX12_highest_103 f_X12_43_10 rfl rfl ?_
              refine h_iload dX12_highest_106 rfl ?_
              refine h_aload_n dX12_highest_108 rfl ?_
              refine h_getI dX12_highest_109 f_X12_203_10 rfl rfl ?_
              refine h_iastN (j := k) dX12_highest_112 rfl rfl (by omega) rfl ?_
              refine h_iinc (v := nI (k + 1)) dX12_highest_113 rfl (nI_1 _) (Nat.le_of_ble_eq_true rfl) ?_
              refine h_goto (tgt := 40) dX12_highest_116 rfl ?_
              have h3 := ih (k + 1) _ (HR_st (k := k) (a := (nI 0 : Int32).toInt8.toInt32) (b := lo2) (c := hi2) hC0 (RO_m _ a2 b2 c2 lo2 hi2 g1 g2)) (fun r hr => by
                by_cases e : r = k
                · subst e
                  refine ⟨?_, ?_⟩
                  · show spR _ (upd _ r lo2 r) (upd _ r hi2 r)
                    rw [upd_s, upd_s]
                    exact y2
                  · show upd _ r _ r = _
                    rw [upd_s]
                    exact (if_neg c_82).symm
                · obtain ⟨w1, w2⟩ := hF r (by omega)
                  refine ⟨?_, ?_⟩
                  · show spR _ (upd _ k lo2 r) (upd _ k hi2 r)
                    rw [upd_n _ _ e, upd_n _ _ e]
                    exact w1
                  · show upd _ k _ r = _
                    rw [upd_n _ _ e]
                    exact w2) (by omega) (by omega)
              rw [(ctr_q (f := (fun r => spc (spN ns nl np ml nk nw pl fa fb sl pp pm ki fr tg wh bw rs sn fl qw r))) (k := k) c_65).trans (show ctr (fun r => spc (spN ns nl np ml nk nw pl fa fb sl pp pm ki fr tg wh bw rs sn fl qw r)) k = 0 by omega)] at h3
              exact h3 _ _ _ _ _ _ _ _ _
            · refine h_iconst dX12_highest_85 ci_1 ?_
              refine h_goto (tgt := 90) dX12_highest_86 rfl ?_
              refine h_zastN (j := k) dX12_highest_90 rfl rfl (by omega) rfl ?_
              refine h_aload_n dX12_highest_91 rfl ?_
              refine h_getR dX12_highest_92 f_X12_40_10 rfl rfl ?_
              refine h_iload dX12_highest_95 rfl ?_
              refine h_aload_n dX12_highest_97 rfl ?_
              refine h_getI dX12_highest_98 f_X12_200_10 rfl rfl ?_
              refine h_iastN (j := k) dX12_highest_101 rfl rfl (by omega) rfl ?_
              refine h_aload_n dX12_highest_102 rfl ?_
              refine h_getR dX12_highest_103 f_X12_43_10 rfl rfl ?_
              refine h_iload dX12_highest_106 rfl ?_
              refine h_aload_n dX12_highest_108 rfl ?_
              refine h_getI dX12_highest_109 f_X12_203_10 rfl rfl ?_
              refine h_iastN (j := k) dX12_highest_112 rfl rfl (by omega) rfl ?_
              refine h_iinc (v := nI (k + 1)) dX12_highest_113 rfl (nI_1 _) (Nat.le_of_ble_eq_true rfl) ?_
              refine h_goto (tgt := 40) dX12_highest_116 rfl ?_
              have h3 := ih (k + 1) _ (HR_st (k := k) (a := (nI 1 : Int32).toInt8.toInt32) (b := lo2) (c := hi2) hC0 (RO_m _ a2 b2 c2 lo2 hi2 g1 g2)) (fun r hr => by
                by_cases e : r = k
                · subst e
                  refine ⟨?_, ?_⟩
                  · show spR _ (upd _ r lo2 r) (upd _ r hi2 r)
                    rw [upd_s, upd_s]
                    exact y2
                  · show upd _ r _ r = _
                    rw [upd_s]
                    exact (if_pos c_82).symm
                · obtain ⟨w1, w2⟩ := hF r (by omega)
                  refine ⟨?_, ?_⟩
                  · show spR _ (upd _ k lo2 r) (upd _ k hi2 r)
                    rw [upd_n _ _ e, upd_n _ _ e]
                    exact w1
                  · show upd _ k _ r = _
                    rw [upd_n _ _ e]
                    exact w2) (by omega) (by omega)
              rw [(ctr_q (f := (fun r => spc (spN ns nl np ml nk nw pl fa fb sl pp pm ki fr tg wh bw rs sn fl qw r))) (k := k) c_65).trans (show ctr (fun r => spc (spN ns nl np ml nk nw pl fa fb sl pp pm ki fr tg wh bw rs sn fl qw r)) k = 0 by omega)] at h3
              exact h3 _ _ _ _ _ _ _ _ _
          · refine h_iconst dX12_highest_68 ci_1 ?_
            refine h_goto (tgt := 73) dX12_highest_69 rfl ?_
            refine h_istore_n dX12_highest_73 (Nat.le_of_ble_eq_true rfl) ?_
            refine h_aload_n dX12_highest_74 rfl ?_
            refine h_getR dX12_highest_75 f_X12_46_10 rfl rfl ?_
            refine h_iload dX12_highest_78 rfl ?_
            refine h_iload dX12_highest_80 rfl ?_
            refine h_ifne (tgt := 89) dX12_highest_82 rfl (fun c_82 => ?_) (fun c_82 => ?_)
            · refine h_iconst dX12_highest_89 ci_0 ?_
              refine h_zastN (j := k) dX12_highest_90 rfl rfl (by omega) rfl ?_
              refine h_aload_n dX12_highest_91 rfl ?_
              refine h_getR dX12_highest_92 f_X12_40_10 rfl rfl ?_
              refine h_iload dX12_highest_95 rfl ?_
              refine h_aload_n dX12_highest_97 rfl ?_
              refine h_getI dX12_highest_98 f_X12_200_10 rfl rfl ?_
              refine h_iastN (j := k) dX12_highest_101 rfl rfl (by omega) rfl ?_
              refine h_aload_n dX12_highest_102 rfl ?_
              refine h_getR dX12_highest_103 f_X12_43_10 rfl rfl ?_
              refine h_iload dX12_highest_106 rfl ?_
              refine h_aload_n dX12_highest_108 rfl ?_
              refine h_getI dX12_highest_109 f_X12_203_10 rfl rfl ?_
              refine h_iastN (j := k) dX12_highest_112 rfl rfl (by omega) rfl ?_
              refine h_iinc (v := nI (k + 1)) dX12_highest_113 rfl (nI_1 _) (Nat.le_of_ble_eq_true rfl) ?_
              refine h_goto (tgt := 40) dX12_highest_116 rfl ?_
              have h3 := ih (k + 1) _ (HR_st (k := k) (a := (nI 0 : Int32).toInt8.toInt32) (b := lo2) (c := hi2) hC0 (RO_m _ a2 b2 c2 lo2 hi2 g1 g2)) (fun r hr => by
                by_cases e : r = k
                · subst e
                  refine ⟨?_, ?_⟩
                  · show spR _ (upd _ r lo2 r) (upd _ r hi2 r)
                    rw [upd_s, upd_s]
                    exact y2
                  · show upd _ r _ r = _
                    rw [upd_s]
                    exact (if_neg c_82).symm
                · obtain ⟨w1, w2⟩ := hF r (by omega)
                  refine ⟨?_, ?_⟩
                  · show spR _ (upd _ k lo2 r) (upd _ k hi2 r)
                    rw [upd_n _ _ e, upd_n _ _ e]
                    exact w1
                  · show upd _ k _ r = _
                    rw [upd_n _ _ e]
                    exact w2) (by omega) (by omega)
              rw [ctr_p (f := (fun r => spc (spN ns nl np ml nk nw pl fa fb sl pp pm ki fr tg wh bw rs sn fl qw r))) (k := k) c_65] at h3
              exact h3 _ _ _ _ _ _ _ _ _
            · refine h_iconst dX12_highest_85 ci_1 ?_
              refine h_goto (tgt := 90) dX12_highest_86 rfl ?_
              refine h_zastN (j := k) dX12_highest_90 rfl rfl (by omega) rfl ?_
              refine h_aload_n dX12_highest_91 rfl ?_
              refine h_getR dX12_highest_92 f_X12_40_10 rfl rfl ?_
              refine h_iload dX12_highest_95 rfl ?_
              refine h_aload_n dX12_highest_97 rfl ?_
              refine h_getI dX12_highest_98 f_X12_200_10 rfl rfl ?_
              refine h_iastN (j := k) dX12_highest_101 rfl rfl (by omega) rfl ?_
              refine h_aload_n dX12_highest_102 rfl ?_
              refine h_getR dX12_highest_103 f_X12_43_10 rfl rfl ?_
              refine h_iload dX12_highest_106 rfl ?_
              refine h_aload_n dX12_highest_108 rfl ?_
              refine h_getI dX12_highest_109 f_X12_203_10 rfl rfl ?_
              refine h_iastN (j := k) dX12_highest_112 rfl rfl (by omega) rfl ?_
              refine h_iinc (v := nI (k + 1)) dX12_highest_113 rfl (nI_1 _) (Nat.le_of_ble_eq_true rfl) ?_
              refine h_goto (tgt := 40) dX12_highest_116 rfl ?_
              have h3 := ih (k + 1) _ (HR_st (k := k) (a := (nI 1 : Int32).toInt8.toInt32) (b := lo2) (c := hi2) hC0 (RO_m _ a2 b2 c2 lo2 hi2 g1 g2)) (fun r hr => by
                by_cases e : r = k
                · subst e
                  refine ⟨?_, ?_⟩
                  · show spR _ (upd _ r lo2 r) (upd _ r hi2 r)
                    rw [upd_s, upd_s]
                    exact y2
                  · show upd _ r _ r = _
                    rw [upd_s]
                    exact (if_pos c_82).symm
                · obtain ⟨w1, w2⟩ := hF r (by omega)
                  refine ⟨?_, ?_⟩
                  · show spR _ (upd _ k lo2 r) (upd _ k hi2 r)
                    rw [upd_n _ _ e, upd_n _ _ e]
                    exact w1
                  · show upd _ k _ r = _
                    rw [upd_n _ _ e]
                    exact w2) (by omega) (by omega)
              rw [ctr_p (f := (fun r => spc (spN ns nl np ml nk nw pl fa fb sl pp pm ki fr tg wh bw rs sn fl qw r))) (k := k) c_65] at h3
              exact h3 _ _ _ _ _ _ _ _ _
  have L0 : (w = nI 0 ∨ w = nI 1) ∨ ¬ (nI 0 ≤ w ∧ w ≤ nI 1) := by
    by_cases h : nI 0 ≤ w ∧ w ≤ nI 1
    · obtain ⟨n, rfl, h1, h2⟩ := rng_ex (by omega) (by omega) h.1 h.2
      rcases (show n = 0 ∨ n = 1 by omega) with rfl | rfl
      · exact .inl (.inl rfl)
      · exact .inl (.inr rfl)
    · exact .inr h
  show HV l mX12_highest (dp + 7) 0 0 0 [some (.ref 82), some (.int x), some (.int w), none, none, none, none, none, none, none, none, none, none, none] [] hSH I J (hRR lt tx) Q
  refine h_aload_n dX12_highest_0 rfl ?_
  refine h_iload_n dX12_highest_1 rfl ?_
  refine h_cV1 dX12_highest_2 k5_238 oVX12_isPoint rfl rfl ?_
  refine r_isPoint (n := np) hnp (by omega) (fun b1 => ?_) (fun b1 => ?_)
  · refine h_ifeq (tgt := 17) dX12_highest_5 rfl (fun c => absurd c (by decide)) (fun _ => ?_)
    refine h_iload_n dX12_highest_8 rfl ?_
    refine h_iconst dX12_highest_9 ci_0 ?_
    refine h_iconst dX12_highest_10 ci_1 ?_
    refine h_cS3 dX12_highest_11 k5_172 oSX12_in rfl ?_
    refine c_X12_in (fun b2 => ?_) (fun b2 => ?_)
    · obtain ⟨p, hp, rfl⟩ := b1
      have h01 := L0.resolve_right (fun z => z b2)
      refine h_ifne (tgt := 21) dX12_highest_14 rfl (fun _ => ?_) (fun c => absurd c (by decide))
      refine h_aload_n dX12_highest_21 rfl ?_
      refine h_iload_n dX12_highest_22 rfl ?_
      refine h_cV1 dX12_highest_23 k6_74 oVX12_noSpan rfl rfl ?_
      refine r_noSpan (p := p) hG hp (fun a b c lo hi g1 g2 hLv y1 => ?_)
      refine h_bipush dX12_highest_26 cb_m3 ?_
      refine h_icmpne (tgt := 35) dX12_highest_28 rfl (fun c_28 => ?_) (fun c_28 => ?_)
      · obtain ⟨q, hsq⟩ : ∃ q, spN ns nl np ml nk nw pl fa fb sl pp pm ki fr tg wh bw rs sn fl qw p = some q := by
          cases e : spN ns nl np ml nk nw pl fa fb sl pp pm ki fr tg wh bw rs sn fl qw p with
          | none => exact absurd (spc_3.mpr e) c_28
          | some q => exact ⟨q, rfl⟩
        refine h_iconst dX12_highest_35 ci_0 ?_
        refine h_istore_n dX12_highest_36 (Nat.le_of_ble_eq_true rfl) ?_
        refine h_iconst dX12_highest_37 ci_0 ?_
        refine h_istore dX12_highest_38 (Nat.le_of_ble_eq_true rfl) ?_
        exact L1 p q hp rfl hsq h01 (np + 1) 0 _ (HR_id (RO_m I a b c lo hi g1 g2)) (fun r hr => by omega) (by omega) (by omega) _ _ _ _ _ _ _ _ _
      · refine h_ldc2 dX12_highest_31 k6_112 ?_
        refine h_lreturn dX12_highest_34 rfl ?_
        exact h3 p rfl hp (spc_3.mp c_28) _ (HR_id (RO_m I a b c lo hi g1 g2))
    · refine h_ifne (tgt := 21) dX12_highest_14 rfl (fun c => absurd (by decide) c) (fun _ => ?_)
      refine h_ldc2 dX12_highest_17 k6_111 ?_
      refine h_lreturn dX12_highest_20 rfl ?_
      exact hB (fun z => b2 z.2)
  · refine h_ifeq (tgt := 17) dX12_highest_5 rfl (fun _ => ?_) (fun c => absurd (by decide) c)
    refine h_ldc2 dX12_highest_17 k6_111 ?_
    refine h_lreturn dX12_highest_20 rfl ?_
    exact hB (fun z => b1 z.1)
