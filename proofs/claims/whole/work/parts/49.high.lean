def nL (n : Nat) : Int64 := Int64.ofNat n
theorem nL_toInt {n : Nat} (h : n < 9223372036854775808) : (nL n).toInt = n := by
  unfold nL
  exact Int64.toInt_ofNat_of_lt (by simpa using h)
theorem nL_add (a b : Nat) : nL a + nL b = nL (a + b) := (Int64.ofNat_add a b).symm
theorem nL_mul (a b : Nat) : nL a * nL b = nL (a * b) := (Int64.ofNat_mul a b).symm
theorem L_ext {x y : Int64} (h : x.toInt = y.toInt) : x = y := Int64.toInt_inj.mp h
theorem nL_eq {a b : Nat} (ha : a < 9223372036854775808) (hb : b < 9223372036854775808) : nL a = nL b ↔ a = b := by
  refine ⟨fun h => ?_, fun h => by rw [h]⟩
  have := congrArg Int64.toInt h
  rw [nL_toInt ha, nL_toInt hb] at this
  omega
theorem nL_lt {a b : Nat} (ha : a < 9223372036854775808) (hb : b < 9223372036854775808) : nL a < nL b ↔ a < b := by
  rw [Int64.lt_iff_toInt_lt, nL_toInt ha, nL_toInt hb]
  omega
theorem nL_i2l {a : Nat} (ha : a < 2147483648) : (nI a).toInt64 = nL a := by
  apply L_ext
  rw [Int32.toInt_toInt64, nI_toInt ha, nL_toInt (by omega)]
theorem nL_div {a b : Nat} (ha : a < 9223372036854775808) (hb : b < 9223372036854775808) (h0 : 0 < b) : nL a / nL b = nL (a / b) := by
  have h1 : a / b ≤ a := Nat.div_le_self _ _
  apply L_ext
  rw [Int64.toInt_div, nL_toInt ha, nL_toInt hb, nL_toInt (by omega)]
  have h2 : ((a : Int).tdiv (b : Int)) = ((a / b : Nat) : Int) := (Int.ofNat_tdiv a b).symm
  rw [h2]
  have h3 : a / b < 9223372036854775808 := by omega
  clear h2 h1
  generalize a / b = c at h3 ⊢
  exact Int.bmod_eq_of_le (by first | omega | simp) (by first | omega | (simp; omega))
theorem nL_rem {a b : Nat} (ha : a < 9223372036854775808) (hb : b < 9223372036854775808) (h0 : 0 < b) : nL a - nL a / nL b * nL b = nL (a % b) := by
  rw [nL_div ha hb h0, nL_mul]
  have h1 : a % b + a / b * b = a := by rw [Nat.mul_comm]; exact Nat.mod_add_div a b
  have h2 : nL a = nL (a % b) + nL (a / b * b) := by rw [nL_add, h1]
  rw [h2, Int64.add_sub_cancel]
theorem lg_0 (x y : Int64) : lg_cmp x y = 0 ↔ x = y := by
  unfold lg_cmp
  by_cases h : x > y
  · rw [if_pos h]
    refine ⟨fun z => absurd z (by decide), fun z => ?_⟩
    subst z
    exact absurd h Int64.lt_irrefl
  · rw [if_neg h]
    by_cases h2 : x = y
    · rw [if_pos h2]; exact ⟨fun _ => h2, fun _ => rfl⟩
    · rw [if_neg h2]; exact ⟨fun z => absurd z (by decide), fun z => absurd z h2⟩
/-- Euclid's steps from a and b end within f -/
def eu : Nat → Nat → Nat → Prop
  | 0, _, b => b = 0
  | f + 1, a, b => b = 0 ∨ eu f b (a % b)
theorem eu_le {f : Nat} : ∀ {a b : Nat}, eu f a b → eu (f + 1) a b := by
  induction f with
  | zero => intro a b h; exact .inl h
  | succ f ih => intro a b h; exact h.imp id ih
theorem eu_of : ∀ (m a b : Nat), b < 2 ^ m → eu (2 * m) a b
  | 0, a, b, h => by show b = 0; simpa using h
  | m + 1, a, b, h => by
    show b = 0 ∨ (a % b = 0 ∨ eu (2 * m) (a % b) (b % (a % b)))
    by_cases hb : b = 0
    · exact .inl hb
    · by_cases hc : a % b = 0
      · exact .inr (.inl hc)
      · refine .inr (.inr (eu_of m _ _ ?_))
        have h1 : a % b < b := Nat.mod_lt _ (by omega)
        have h2 : b % (a % b) < a % b := Nat.mod_lt _ (by omega)
        have h3 := Nat.mod_add_div b (a % b)
        have h4 : 0 < b / (a % b) := Nat.div_pos (by omega) (by omega)
        have h5 : a % b ≤ a % b * (b / (a % b)) := Nat.le_mul_of_pos_right _ h4
        rw [Nat.pow_succ] at h
        omega
theorem gcd_step {a b : Nat} : Nat.gcd b (a % b) = Nat.gcd a b := by
  rw [Nat.gcd_comm a b, Nat.gcd_rec b a, Nat.gcd_comm]
theorem c_sharedDivisor {l : Launch} {dp : Nat} {a b : Nat} {sh : hS} {I : hI} {J : hJ} {R : hR} {Q : hQ} (ha : a < 9223372036854775808) (hb : b < 2 ^ 63) (hQ : Q (some (.long (nL (Nat.gcd a b)))) sh I J R) : HC l mX11_sharedDivisor dp 0 0 [.long (nL a), .long (nL b)] sh I J R Q := by
  refine HC.of (by decide +kernel) rfl (Nat.le_of_ble_eq_true rfl) ?_
  have Lo : ∀ (f k x y : Nat), eu f x y → x < 9223372036854775808 → y < 9223372036854775808 → k + f ≤ 190 → Nat.gcd x y = Nat.gcd a b → ∀ z1 z2 z3 z9 z10, HV l mX11_sharedDivisor dp 0 0 9 [z1, z2, z3, none, some (.long (nL x)), none, some (.long (nL y)), none, some (.int (nI k)), z9, z10] [] sh I J R Q := by
    intro f
    induction f with
    | zero =>
      intro k x y he hx hy hk hg z1 z2 z3 z9 z10
      have he : y = 0 := he
      subst he
      refine h_iload dX11_sharedDivisor_9 rfl ?_
      refine h_sipush dX11_sharedDivisor_11 cs_200 ?_
      refine h_icmpge (tgt := 45) dX11_sharedDivisor_14 rfl (fun c_14 => ?_) (fun c_14 => ?_)
      · rw [nI_leI (by omega) (by omega)] at c_14
        exfalso
        omega
      · rw [nI_leI (by omega) (by omega)] at c_14
        refine h_lload dX11_sharedDivisor_17 rfl ?_
        refine h_lconst (v := 0) dX11_sharedDivisor_19 rfl ?_
        refine h_lcmp dX11_sharedDivisor_20 ?_
        refine h_ifeq (tgt := 45) dX11_sharedDivisor_21 rfl (fun c_21 => ?_) (fun c_21 => ?_)
        · refine h_lload dX11_sharedDivisor_45 rfl ?_
          refine h_lreturn dX11_sharedDivisor_47 rfl ?_
          rw [show Nat.gcd x 0 = x from Nat.gcd_zero_right x] at hg
          rw [← hg] at hQ
          exact hQ
        · exact absurd ((lg_0 _ _).mpr rfl) c_21
    | succ f ih =>
      intro k x y he hx hy hk hg z1 z2 z3 z9 z10
      refine h_iload dX11_sharedDivisor_9 rfl ?_
      refine h_sipush dX11_sharedDivisor_11 cs_200 ?_
      refine h_icmpge (tgt := 45) dX11_sharedDivisor_14 rfl (fun c_14 => ?_) (fun c_14 => ?_)
      · rw [nI_leI (by omega) (by omega)] at c_14
        exfalso
        omega
      · rw [nI_leI (by omega) (by omega)] at c_14
        refine h_lload dX11_sharedDivisor_17 rfl ?_
        refine h_lconst (v := 0) dX11_sharedDivisor_19 rfl ?_
        refine h_lcmp dX11_sharedDivisor_20 ?_
        refine h_ifeq (tgt := 45) dX11_sharedDivisor_21 rfl (fun c_21 => ?_) (fun c_21 => ?_)
        · have hy0 : y = 0 := (nL_eq hy (by omega)).mp ((lg_0 _ _).mp c_21)
          subst hy0
          refine h_lload dX11_sharedDivisor_45 rfl ?_
          refine h_lreturn dX11_sharedDivisor_47 rfl ?_
          rw [show Nat.gcd x 0 = x from Nat.gcd_zero_right x] at hg
          rw [← hg] at hQ
          exact hQ
        · have hy0 : ¬ y = 0 := fun z => c_21 ((lg_0 _ _).mpr (by rw [z]; rfl))
          refine h_lload dX11_sharedDivisor_24 rfl ?_
          refine h_lload dX11_sharedDivisor_26 rfl ?_
          refine h_lrem dX11_sharedDivisor_28 (fun z => hy0 ((nL_eq hy (by omega)).mp z)) ?_
          refine h_lstore dX11_sharedDivisor_29 (Nat.le_of_ble_eq_true rfl) ?_
          refine h_lload dX11_sharedDivisor_31 rfl ?_
          refine h_lstore dX11_sharedDivisor_33 (Nat.le_of_ble_eq_true rfl) ?_
          refine h_lload dX11_sharedDivisor_35 rfl ?_
          refine h_lstore dX11_sharedDivisor_37 (Nat.le_of_ble_eq_true rfl) ?_
          refine h_iinc (v := nI (k + 1)) dX11_sharedDivisor_39 rfl (nI_1 _) (Nat.le_of_ble_eq_true rfl) ?_
          refine h_goto (tgt := 9) dX11_sharedDivisor_42 rfl ?_
          have hm : x % y < y := Nat.mod_lt _ (by omega)
          rw [nL_rem hx hy (by omega)]
          exact ih (k + 1) y (x % y) (he.resolve_left hy0) hy (by omega) (by omega) (gcd_step.trans hg) _ _ _ _ _
  show HV l mX11_sharedDivisor dp 0 0 0 [some (.long (nL a)), none, some (.long (nL b)), none, none, none, none, none, none, none, none] [] sh I J R Q
  refine h_lload_n dX11_sharedDivisor_0 rfl ?_
  refine h_lstore dX11_sharedDivisor_1 (Nat.le_of_ble_eq_true rfl) ?_
  refine h_lload_n dX11_sharedDivisor_3 rfl ?_
  refine h_lstore dX11_sharedDivisor_4 (Nat.le_of_ble_eq_true rfl) ?_
  refine h_iconst dX11_sharedDivisor_6 ci_0 ?_
  refine h_istore dX11_sharedDivisor_7 (Nat.le_of_ble_eq_true rfl) ?_
  exact Lo 126 0 a b (eu_of 63 a b hb) ha hb (by omega) rfl _ _ _ _ _
