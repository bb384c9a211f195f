def sb (b : Nat) : Int32 := (nI b).toInt8.toInt32
theorem sb_32 : ∀ b, b < 256 → (sb b = nI 32 ↔ b = 32) := by decide +kernel
theorem sb_a : ∀ b, b < 256 → (sb b < nI 97 ↔ (b < 97 ∨ 128 ≤ b)) := by decide +kernel
theorem sb_z : ∀ b, b < 256 → (nI 122 < sb b ↔ (122 < b ∧ b < 128)) := by decide +kernel
theorem sb_n0 : ∀ b, b < 256 → (sb b < nI 48 ↔ (b < 48 ∨ 128 ≤ b)) := by decide +kernel
theorem sb_n9 : ∀ b, b < 256 → (nI 57 < sb b ↔ (57 < b ∧ b < 128)) := by decide +kernel
theorem sb_low : ∀ b, b < 128 → sb b = nI b := by decide +kernel
theorem sb_255 : ∀ b, b < 256 → sb b &&& nI 255 = nI b := by decide +kernel
theorem bt_nI (x i : Nat) (hi : i < 32) : bt (nI x) i = x.testBit i := by
  show (BitVec.ofNat 32 x).getLsbD i = _
  rw [BitVec.getLsbD_ofNat]
  simp [hi]
theorem sh8 {x b : Nat} (hb : b < 256) : (nI x <<< (nI 8 &&& 31)) ||| nI b = nI (x * 256 + b) := by
  apply b_ext
  intro i hi
  rw [b_or, b_shl 8 (by omega) _ hi, bt_nI _ _ hi, bt_nI _ _ hi, Nat.mul_comm, show (256 : Nat) = 2 ^ 8 by decide, Nat.testBit_two_pow_mul_add x (show b < 2 ^ 8 by omega) i]
  by_cases h : i < 8
  · rw [if_pos h, decide_eq_false (by omega)]
    simp
  · rw [if_neg h, decide_eq_true (by omega), bt_nI _ _ (by omega), Nat.testBit_lt_two_pow (x := b) (i := i) (Nat.lt_of_lt_of_le (show b < 2 ^ 8 by omega) (Nat.pow_le_pow_right (by omega) (by omega)))]
    simp
theorem upI_I (I : hI) (a j : Nat) (u v : Int32) : upI (upI I a j u) a j v = upI I a j v := by
  rw [upI_A, upI_A, upI_A, upA_s, upA_A, upd_upd]
/-- from p on, past all that P holds of -/
def scf (P : Nat → Bool) : Nat → Nat → Nat
  | 0, p => p
  | f + 1, p => if P p = true then scf P f (p + 1) else p
def scn (P : Nat → Bool) (nt p : Nat) : Nat := scf P (nt - p) p
theorem scn_y {P : Nat → Bool} {nt p : Nat} (h : p < nt) (hP : P p = true) : scn P nt p = scn P nt (p + 1) := by
  unfold scn
  rw [show nt - p = (nt - (p + 1)) + 1 by omega]
  exact if_pos hP
theorem scn_n {P : Nat → Bool} {nt p : Nat} (h : ¬ (p < nt ∧ P p = true)) : scn P nt p = p := by
  unfold scn
  by_cases q : p < nt
  · rw [show nt - p = (nt - (p + 1)) + 1 by omega]
    exact if_neg (fun z => h ⟨q, z⟩)
  · rw [show nt - p = 0 by omega]; rfl
theorem scn_ge {P : Nat → Bool} {nt : Nat} : ∀ (m p : Nat), nt - p < m → p ≤ nt → p ≤ scn P nt p ∧ scn P nt p ≤ nt
  | 0, p, h, _ => by omega
  | m + 1, p, h, hp => by
    by_cases q : p < nt ∧ P p = true
    · rw [scn_y q.1 q.2]
      have := scn_ge (P := P) (nt := nt) m (p + 1) (by omega) (by omega)
      omega
    · rw [scn_n q]; omega
theorem scn_all {P : Nat → Bool} {nt : Nat} : ∀ (m p : Nat), nt - p < m → p ≤ nt → ∀ j, p ≤ j → j < scn P nt p → P j = true
  | 0, p, h, _ => by omega
  | m + 1, p, h, hp => by
    intro j h1 h2
    by_cases q : p < nt ∧ P p = true
    · rw [scn_y q.1 q.2] at h2
      by_cases e : j = p
      · rw [e]; exact q.2
      · exact scn_all m (p + 1) (by omega) (by omega) j (by omega) h2
    · rw [scn_n q] at h2; omega
theorem scn_end {P : Nat → Bool} {nt : Nat} : ∀ (m p : Nat), nt - p < m → p ≤ nt → ¬ (scn P nt p < nt ∧ P (scn P nt p) = true)
  | 0, p, h, _ => by omega
  | m + 1, p, h, hp => by
    by_cases q : p < nt ∧ P p = true
    · rw [scn_y q.1 q.2]
      exact scn_end m (p + 1) (by omega) (by omega)
    · rw [scn_n q]; exact q
def isSp (tp : Nat → Nat) (j : Nat) : Bool := decide (tp j = 32)
def isLt (tp : Nat → Nat) (j : Nat) : Bool := decide (97 ≤ tp j ∧ tp j ≤ 122)
def isDg (tp : Nat → Nat) (j : Nat) : Bool := decide (48 ≤ tp j ∧ tp j ≤ 57)
def pk (tp : Nat → Nat) (s : Nat) : Nat → Nat
  | 0 => 0
  | k + 1 => pk tp s k * 256 + tp (s + k)
def dv (tp : Nat → Nat) (s : Nat) : Nat → Nat
  | 0 => 0
  | k + 1 => dv tp s k * 10 + (tp (s + k) - 48)
def tS (tp : Nat → Nat) (nt e : Nat) : Nat := scn (isSp tp) nt e
def tW (tp : Nat → Nat) (nt e : Nat) : Nat := scn (isLt tp) nt (tS tp nt e)
def tD (tp : Nat → Nat) (nt e : Nat) : Nat := scn (isDg tp) nt (tS tp nt e)
def tE (tp : Nat → Nat) (nt e : Nat) : Nat := if tS tp nt e < tW tp nt e then tW tp nt e else if tS tp nt e < tD tp nt e then tD tp nt e else if tS tp nt e < nt then tS tp nt e + 1 else tS tp nt e
def tI (tp : Nat → Nat) (nt e : Nat) : Int32 := if tS tp nt e < tW tp nt e then (if tW tp nt e - tS tp nt e ≤ 4 then nI (pk tp (tS tp nt e) (tW tp nt e - tS tp nt e)) else -4) else if tS tp nt e < tD tp nt e then (if tD tp nt e - tS tp nt e ≤ 3 then -2 else -3) else if tS tp nt e < nt then nI (tp (tS tp nt e)) else -1
def tV (tp : Nat → Nat) (nt e : Nat) : Nat := dv tp (tS tp nt e) (tD tp nt e - tS tp nt e)
/-- the class's draft stands at the token behind e -/
def CT (I : hI) (tp : Nat → Nat) (nt e : Nat) : Prop := I 55 9 = nI (tS tp nt e) ∧ I 55 10 = nI (tE tp nt e) ∧ I 55 11 = tI tp nt e ∧ (tS tp nt e < tW tp nt e → I 55 12 = tI tp nt e) ∧ (¬ tS tp nt e < tW tp nt e → tS tp nt e < tD tp nt e → tD tp nt e - tS tp nt e ≤ 3 → I 55 12 = nI (tV tp nt e))
/-- the class's draft reads this tape -/
def CX (I : hI) (tp : Nat → Nat) (nt : Nat) : Prop := nt ≤ 200 ∧ I 55 8 = nI nt ∧ ∀ j, j < nt → tp j < 256 ∧ I 61 j = sb (tp j)
theorem dv_lt {tp : Nat → Nat} {s : Nat} : ∀ k, k ≤ 2 → (∀ j, j < k → tp (s + j) ≤ 57) → dv tp s k < 1000
  | 0, _, _ => by show 0 < 1000; omega
  | 1, _, h => by
    have := h 0 (by omega)
    show (0 * 10 + (tp (s + 0) - 48)) < _
    omega
  | 2, _, h => by
    have := h 0 (by omega)
    have := h 1 (by omega)
    show ((0 * 10 + (tp (s + 0) - 48)) * 10 + (tp (s + 1) - 48)) < _
    omega
theorem dv_st {x b : Nat} (hx : x < 100000) (h1 : 48 ≤ b) (h2 : b ≤ 57) : nI x * nI 10 + nI b - nI 48 = nI (x * 10 + (b - 48)) := by
  rw [pk_mul, nI_add, pk_sub (by omega)]
  congr 1
  omega
def SF (I I2 : hI) : Prop := ∃ v55_9 v55_10 v55_11 v55_12, I2 = (upI (upI (upI (upI I 55 9 v55_9) 55 10 v55_10) 55 11 v55_11) 55 12 v55_12)
theorem SF_iff {I I2 : hI} : SF I I2 ↔ (∀ x, x ≠ 55 → I2 x = I x) ∧ ∀ j, j ≠ 9 → j ≠ 10 → j ≠ 11 → j ≠ 12 → I2 55 j = I 55 j := by
  constructor
  · rintro ⟨v55_9, v55_10, v55_11, v55_12, rfl⟩
    refine ⟨fun x h55 => ?_, fun j q9 q10 q11 q12 => ?_⟩
    · simp [upA, upI, h55]
    · simp [upA, upI, upd, q9, q10, q11, q12]
  · rintro ⟨h, f55⟩
    refine ⟨I2 55 9, I2 55 10, I2 55 11, I2 55 12, ?_⟩
    funext x
    by_cases e55 : x = 55
    · subst e55
      funext j
      by_cases q9 : j = 9
      · subst q9; simp [upA, upI, upd]
      · skip
        by_cases q10 : j = 10
        · subst q10; simp [upA, upI, upd]
        · skip
          by_cases q11 : j = 11
          · subst q11; simp [upA, upI, upd]
          · skip
            by_cases q12 : j = 12
            · subst q12; simp [upA, upI, upd]
            · skip
              simp [upA, upI, upd, q9, q10, q11, q12, f55 j q9 q10 q11 q12]
    · skip
      simp [upA, upI, e55, h x e55]
theorem SF_id (I : hI) : SF I I := SF_iff.mpr ⟨fun x _ => rfl, fun j _ _ _ _ => rfl⟩
theorem SF_tr {I I2 I3 : hI} (k1 : SF I I2) (k2 : SF I2 I3) : SF I I3 := SF_iff.mpr ⟨fun x h55 => ((SF_iff.mp k2).1 x h55).trans ((SF_iff.mp k1).1 x h55), fun j q9 q10 q11 q12 => ((SF_iff.mp k2).2 j q9 q10 q11 q12).trans ((SF_iff.mp k1).2 j q9 q10 q11 q12)⟩
theorem c_step {l : Launch} {dp : Nat} {tp : Nat → Nat} {nt e : Nat} {I : hI} {J : hJ} {lt : Option Nat} {Q : hQ} (hX : CX I tp nt) (he : I 55 10 = nI e) (hen : e ≤ nt) (hQ : ∀ I2, SF I I2 → CT I2 tp nt e → Q none hSH I2 J (hRR lt (some 61)))  : HC l mX3_step dp 0 0 [.ref 55] hSH I J (hRR lt (some 61)) Q := by
  refine HC.of (by decide +kernel) rfl (Nat.le_of_ble_eq_true rfl) ?_
  obtain ⟨h200, hsz, htp⟩ := hX
  have hS1 := scn_ge (P := isSp tp) (nt := nt) (nt + 1) e (by omega) hen
  have hS1 : e ≤ tS tp nt e ∧ tS tp nt e ≤ nt := hS1
  have hW1 : tS tp nt e ≤ tW tp nt e ∧ tW tp nt e ≤ nt := scn_ge (P := isLt tp) (nt := nt) (nt + 1) _ (by omega) hS1.2
  have hD1 : tS tp nt e ≤ tD tp nt e ∧ tD tp nt e ≤ nt := scn_ge (P := isDg tp) (nt := nt) (nt + 1) _ (by omega) hS1.2
  have hWa : ∀ j, tS tp nt e ≤ j → j < tW tp nt e → isLt tp j = true := scn_all (P := isLt tp) (nt := nt) (nt + 1) _ (by omega) hS1.2
  have hDa : ∀ j, tS tp nt e ≤ j → j < tD tp nt e → isDg tp j = true := scn_all (P := isDg tp) (nt := nt) (nt + 1) _ (by omega) hS1.2
  have Tw : ∀ (v1 v2 : Int32) (p : Nat), p = tW tp nt e → tS tp nt e < tW tp nt e → (p - tS tp nt e ≤ 4 → v1 = nI (pk tp (tS tp nt e) (p - tS tp nt e))) → HV l mX3_step dp 0 0 216 [some (.ref 55), some (.int v1), some (.int v2), some (.int (nI 1)), none] [] hSH (upI (upI I 55 9 (nI (tS tp nt e))) 55 10 (nI p)) J (hRR lt (some 61)) Q := by
    intro v1 v2 p hp hlt hv
    refine h_aload_n dX3_step_216 rfl ?_
    refine h_getI dX3_step_217 f_X3_44_3 rfl (show _ = nI p from rfl) ?_
    refine h_aload_n dX3_step_220 rfl ?_
    refine h_getI dX3_step_221 f_X3_41_3 rfl (show _ = nI (tS tp nt e) from rfl) ?_
    refine h_isubN dX3_step_224 (by omega) ?_
    refine h_istore dX3_step_225 (Nat.le_of_ble_eq_true rfl) ?_
    refine h_iload_n dX3_step_227 rfl ?_
    refine h_ifeq (tgt := 258) dX3_step_228 rfl (fun c => absurd c (by decide)) (fun _ => ?_)
    refine h_aload_n dX3_step_231 rfl ?_
    refine h_iload dX3_step_232 rfl ?_
    refine h_iconst dX3_step_234 ci_4 ?_
    refine h_icmple (tgt := 243) dX3_step_235 rfl (fun c_235 => ?_) (fun c_235 => ?_)
    · rw [nI_leI (by omega) (by omega)] at c_235
      refine h_iload_n dX3_step_243 rfl ?_
      refine h_putI dX3_step_244 f_X3_47_3 p_X3_3_11 (fun h => by cases h) rfl ?_
      refine h_aload_n dX3_step_247 rfl ?_
      refine h_aload_n dX3_step_248 rfl ?_
      refine h_getI dX3_step_249 f_X3_47_3 rfl rfl ?_
      refine h_putI dX3_step_252 f_X3_50_3 p_X3_3_12 (fun h => by cases h) rfl ?_
      refine h_goto (tgt := 334) dX3_step_255 rfl ?_
      refine h_return dX3_step_334 rfl ?_
      have ht : tI tp nt e = v1 := by unfold tI; rw [if_pos hlt, if_pos (by omega), hv (by omega), hp]
      have hE : tE tp nt e = p := by unfold tE; rw [if_pos hlt, hp]
      exact hQ _ (SF_iff.mpr ⟨fun x h55 => by simp [upI, h55], fun j q9 q10 q11 q12 => by simp [upI, upd, q9, q10, q11, q12]⟩) ⟨rfl, by rw [hE]; rfl, by rw [ht]; rfl, fun _ => by rw [ht]; rfl, fun z => absurd hlt z⟩
    · rw [nI_leI (by omega) (by omega)] at c_235
      refine h_bipush dX3_step_238 cb_m4 ?_
      refine h_goto (tgt := 244) dX3_step_240 rfl ?_
      refine h_putI dX3_step_244 f_X3_47_3 p_X3_3_11 (fun h => by cases h) rfl ?_
      refine h_aload_n dX3_step_247 rfl ?_
      refine h_aload_n dX3_step_248 rfl ?_
      refine h_getI dX3_step_249 f_X3_47_3 rfl rfl ?_
      refine h_putI dX3_step_252 f_X3_50_3 p_X3_3_12 (fun h => by cases h) rfl ?_
      refine h_goto (tgt := 334) dX3_step_255 rfl ?_
      refine h_return dX3_step_334 rfl ?_
      have ht : tI tp nt e = -4 := by unfold tI; rw [if_pos hlt, if_neg (by omega)]
      have hE : tE tp nt e = p := by unfold tE; rw [if_pos hlt, hp]
      exact hQ _ (SF_iff.mpr ⟨fun x h55 => by simp [upI, h55], fun j q9 q10 q11 q12 => by simp [upI, upd, q9, q10, q11, q12]⟩) ⟨rfl, by rw [hE]; rfl, by rw [ht]; rfl, fun _ => by rw [ht]; rfl, fun z => absurd hlt z⟩
  have Tn : ∀ (v1 v2 : Int32) (p : Nat), p = tD tp nt e → ¬ tS tp nt e < tW tp nt e → (p - tS tp nt e ≤ 3 → v2 = nI (dv tp (tS tp nt e) (p - tS tp nt e))) → HV l mX3_step dp 0 0 216 [some (.ref 55), some (.int v1), some (.int v2), some (.int (nI 0)), none] [] hSH (upI (upI I 55 9 (nI (tS tp nt e))) 55 10 (nI p)) J (hRR lt (some 61)) Q := by
    intro v1 v2 p hp hlt hv
    refine h_aload_n dX3_step_216 rfl ?_
    refine h_getI dX3_step_217 f_X3_44_3 rfl (show _ = nI p from rfl) ?_
    refine h_aload_n dX3_step_220 rfl ?_
    refine h_getI dX3_step_221 f_X3_41_3 rfl (show _ = nI (tS tp nt e) from rfl) ?_
    refine h_isubN dX3_step_224 (by omega) ?_
    refine h_istore dX3_step_225 (Nat.le_of_ble_eq_true rfl) ?_
    refine h_iload_n dX3_step_227 rfl ?_
    refine h_ifeq (tgt := 258) dX3_step_228 rfl (fun _ => ?_) (fun c => absurd (by decide) c)
    refine h_iload dX3_step_258 rfl ?_
    refine h_ifle (tgt := 288) dX3_step_260 rfl (fun c_260 => ?_) (fun c_260 => ?_)
    · rw [show (0 : Int32) = nI 0 from rfl, nI_leI (by omega) (by omega)] at c_260
      refine h_aload_n dX3_step_288 rfl ?_
      refine h_getI dX3_step_289 f_X3_41_3 rfl (show _ = nI (tS tp nt e) from rfl) ?_
      refine h_aload_n dX3_step_292 rfl ?_
      refine h_getI dX3_step_293 f_X3_38_3 rfl (show _ = nI nt from hsz) ?_
      refine h_icmpge (tgt := 329) dX3_step_296 rfl (fun c_296 => ?_) (fun c_296 => ?_)
      · rw [nI_leI (by omega) (by omega)] at c_296
        refine h_aload_n dX3_step_329 rfl ?_
        refine h_iconst dX3_step_330 ci_m1 ?_
        refine h_putI dX3_step_331 f_X3_47_3 p_X3_3_11 (fun h => by cases h) rfl ?_
        refine h_return dX3_step_334 rfl ?_
        have hlt2 : ¬ tS tp nt e < tD tp nt e := by omega
        have e8 : p = tS tp nt e := by omega
        subst e8
        have ht : tI tp nt e = -1 := by unfold tI; rw [if_neg hlt, if_neg hlt2, if_neg (by omega)]
        have hE : tE tp nt e = tS tp nt e := by unfold tE; rw [if_neg hlt, if_neg hlt2, if_neg (by omega)]
        exact hQ _ (SF_iff.mpr ⟨fun x h55 => by simp [upI, h55], fun j q9 q10 q11 q12 => by simp [upI, upd, q9, q10, q11, q12]⟩) ⟨rfl, by rw [hE]; rfl, by rw [ht]; rfl, fun z => absurd z hlt, fun _ z => absurd z hlt2⟩
      · rw [nI_leI (by omega) (by omega)] at c_296
        refine h_aload_n dX3_step_299 rfl ?_
        refine h_aload_n dX3_step_300 rfl ?_
        refine h_getR dX3_step_301 f_X3_34_3 rfl rfl ?_
        refine h_aload_n dX3_step_304 rfl ?_
        refine h_getI dX3_step_305 f_X3_41_3 rfl (show _ = nI (tS tp nt e) from rfl) ?_
        refine h_baldN (j := tS tp nt e) dX3_step_308 rfl rfl (by omega) rfl (htp _ (by omega)).2 ?_
        refine h_sipush dX3_step_309 cs_255 ?_
        refine h_iand dX3_step_312 ?_
        refine h_putI dX3_step_313 f_X3_47_3 p_X3_3_11 (fun h => by cases h) rfl ?_
        refine h_aload_n dX3_step_316 rfl ?_
        refine h_dup dX3_step_317 rfl ?_
        refine h_getI dX3_step_318 f_X3_44_3 rfl (show _ = nI p from rfl) ?_
        refine h_iconst dX3_step_321 ci_1 ?_
        refine h_iaddN dX3_step_322 ?_
        refine h_putI dX3_step_323 f_X3_44_3 p_X3_3_10 (fun h => by cases h) rfl ?_
        refine h_goto (tgt := 334) dX3_step_326 rfl ?_
        refine h_return dX3_step_334 rfl ?_
        have hlt2 : ¬ tS tp nt e < tD tp nt e := by omega
        have e8 : p = tS tp nt e := by omega
        subst e8
        have ht : tI tp nt e = nI (tp (tS tp nt e)) := by unfold tI; rw [if_neg hlt, if_neg hlt2, if_pos (by omega)]
        have hE : tE tp nt e = tS tp nt e + 1 := by unfold tE; rw [if_neg hlt, if_neg hlt2, if_pos (by omega)]
        rw [sb_255 _ (htp _ (by omega)).1]
        exact hQ _ (SF_iff.mpr ⟨fun x h55 => by simp [upI, h55], fun j q9 q10 q11 q12 => by simp [upI, upd, q9, q10, q11, q12]⟩) ⟨rfl, by rw [hE]; rfl, by rw [ht]; rfl, fun z => absurd z hlt, fun _ z => absurd z hlt2⟩
    · rw [show (0 : Int32) = nI 0 from rfl, nI_leI (by omega) (by omega)] at c_260
      refine h_aload_n dX3_step_263 rfl ?_
      refine h_iload dX3_step_264 rfl ?_
      refine h_iconst dX3_step_266 ci_3 ?_
      refine h_icmple (tgt := 275) dX3_step_267 rfl (fun c_267 => ?_) (fun c_267 => ?_)
      · rw [nI_leI (by omega) (by omega)] at c_267
        refine h_bipush dX3_step_275 cb_m2 ?_
        refine h_putI dX3_step_277 f_X3_47_3 p_X3_3_11 (fun h => by cases h) rfl ?_
        refine h_aload_n dX3_step_280 rfl ?_
        refine h_iload_n dX3_step_281 rfl ?_
        refine h_putI dX3_step_282 f_X3_50_3 p_X3_3_12 (fun h => by cases h) rfl ?_
        refine h_goto (tgt := 334) dX3_step_285 rfl ?_
        refine h_return dX3_step_334 rfl ?_
        have hlt2 : tS tp nt e < tD tp nt e := by omega
        have ht : tI tp nt e = -2 := by unfold tI; rw [if_neg hlt, if_pos hlt2, if_pos (by omega)]
        have hE : tE tp nt e = p := by unfold tE; rw [if_neg hlt, if_pos hlt2, hp]
        exact hQ _ (SF_iff.mpr ⟨fun x h55 => by simp [upI, h55], fun j q9 q10 q11 q12 => by simp [upI, upd, q9, q10, q11, q12]⟩) ⟨rfl, by rw [hE]; rfl, by rw [ht]; rfl, fun z => absurd z hlt, fun _ _ z => by
          rw [hp] at hv
          exact hv z⟩
      · rw [nI_leI (by omega) (by omega)] at c_267
        refine h_bipush dX3_step_270 cb_m3 ?_
        refine h_goto (tgt := 277) dX3_step_272 rfl ?_
        refine h_putI dX3_step_277 f_X3_47_3 p_X3_3_11 (fun h => by cases h) rfl ?_
        refine h_aload_n dX3_step_280 rfl ?_
        refine h_iload_n dX3_step_281 rfl ?_
        refine h_putI dX3_step_282 f_X3_50_3 p_X3_3_12 (fun h => by cases h) rfl ?_
        refine h_goto (tgt := 334) dX3_step_285 rfl ?_
        refine h_return dX3_step_334 rfl ?_
        have hlt2 : tS tp nt e < tD tp nt e := by omega
        have ht : tI tp nt e = -3 := by unfold tI; rw [if_neg hlt, if_pos hlt2, if_neg (by omega)]
        have hE : tE tp nt e = p := by unfold tE; rw [if_neg hlt, if_pos hlt2, hp]
        exact hQ _ (SF_iff.mpr ⟨fun x h55 => by simp [upI, h55], fun j q9 q10 q11 q12 => by simp [upI, upd, q9, q10, q11, q12]⟩) ⟨rfl, by rw [hE]; rfl, by rw [ht]; rfl, fun z => absurd z hlt, fun _ _ z => absurd z (by omega)⟩
  have Ld : ¬ tS tp nt e < tW tp nt e → ∀ (m p : Nat) (v1 v2 : Int32), nt - p < m → p ≤ nt → tS tp nt e ≤ p → scn (isDg tp) nt p = tD tp nt e → (p - tS tp nt e ≤ 3 → v2 = nI (dv tp (tS tp nt e) (p - tS tp nt e))) → HV l mX3_step dp 0 0 142 [some (.ref 55), some (.int v1), some (.int v2), some (.int (nI 0)), none] [] hSH (upI (upI I 55 9 (nI (tS tp nt e))) 55 10 (nI p)) J (hRR lt (some 61)) Q := by
    intro hlt m
    induction m with
    | zero => intro p v1 v2 h1; omega
    | succ m ih =>
      intro p v1 v2 h1 h2 h3 hs hv
      refine h_iload_n dX3_step_142 rfl ?_
      refine h_ifne (tgt := 216) dX3_step_143 rfl (fun c => absurd (by decide) c) (fun _ => ?_)
      refine h_aload_n dX3_step_146 rfl ?_
      refine h_getI dX3_step_147 f_X3_44_3 rfl (show _ = nI p from rfl) ?_
      refine h_aload_n dX3_step_150 rfl ?_
      refine h_getI dX3_step_151 f_X3_38_3 rfl (show _ = nI nt from hsz) ?_
      refine h_icmpge (tgt := 216) dX3_step_154 rfl (fun c_154 => ?_) (fun c_154 => ?_)
      · rw [nI_leI (by omega) (by omega)] at c_154
        exact Tn v1 v2 p (by rw [← hs, scn_n (fun z => absurd z.1 (by omega))]) hlt hv
      · rw [nI_leI (by omega) (by omega)] at c_154
        refine h_aload_n dX3_step_157 rfl ?_
        refine h_getR dX3_step_158 f_X3_34_3 rfl rfl ?_
        refine h_aload_n dX3_step_161 rfl ?_
        refine h_getI dX3_step_162 f_X3_44_3 rfl (show _ = nI p from rfl) ?_
        refine h_baldN (j := p) dX3_step_165 rfl rfl (by omega) rfl (htp p (by omega)).2 ?_
        refine h_bipush dX3_step_166 cb_48 ?_
        refine h_icmplt (tgt := 216) dX3_step_168 rfl (fun c_168 => ?_) (fun c_168 => ?_)
        · rw [sb_n0 _ (htp p (by omega)).1] at c_168
          exact Tn v1 v2 p (by rw [← hs, scn_n (fun z => by have z2 := of_decide_eq_true z.2; omega)]) hlt hv
        · rw [sb_n0 _ (htp p (by omega)).1] at c_168
          refine h_aload_n dX3_step_171 rfl ?_
          refine h_getR dX3_step_172 f_X3_34_3 rfl rfl ?_
          refine h_aload_n dX3_step_175 rfl ?_
          refine h_getI dX3_step_176 f_X3_44_3 rfl (show _ = nI p from rfl) ?_
          refine h_baldN (j := p) dX3_step_179 rfl rfl (by omega) rfl (htp p (by omega)).2 ?_
          refine h_bipush dX3_step_180 cb_57 ?_
          refine h_icmpgt (tgt := 216) dX3_step_182 rfl (fun c_182 => ?_) (fun c_182 => ?_)
          · rw [sb_n9 _ (htp p (by omega)).1] at c_182
            exact Tn v1 v2 p (by rw [← hs, scn_n (fun z => by have z2 := of_decide_eq_true z.2; omega)]) hlt hv
          · rw [sb_n9 _ (htp p (by omega)).1] at c_182
            refine h_iload_n dX3_step_185 rfl ?_
            refine h_bipush dX3_step_186 cb_10 ?_
            refine h_imul dX3_step_188 ?_
            refine h_aload_n dX3_step_189 rfl ?_
            refine h_getR dX3_step_190 f_X3_34_3 rfl rfl ?_
            refine h_aload_n dX3_step_193 rfl ?_
            refine h_getI dX3_step_194 f_X3_44_3 rfl (show _ = nI p from rfl) ?_
            refine h_baldN (j := p) dX3_step_197 rfl rfl (by omega) rfl (htp p (by omega)).2 ?_
            refine h_iadd dX3_step_198 ?_
            refine h_bipush dX3_step_199 cb_48 ?_
            refine h_isub dX3_step_201 ?_
            refine h_istore_n dX3_step_202 (Nat.le_of_ble_eq_true rfl) ?_
            refine h_aload_n dX3_step_203 rfl ?_
            refine h_dup dX3_step_204 rfl ?_
            refine h_getI dX3_step_205 f_X3_44_3 rfl (show _ = nI p from rfl) ?_
            refine h_iconst dX3_step_208 ci_1 ?_
            refine h_iaddN dX3_step_209 ?_
            refine h_putI dX3_step_210 f_X3_44_3 p_X3_3_10 (fun h => by cases h) rfl ?_
            refine h_goto (tgt := 142) dX3_step_213 rfl ?_
            have hd : isDg tp p = true := decide_eq_true ⟨by omega, by omega⟩
            rw [upI_I]
            refine ih (p + 1) v1 _ (by omega) (by omega) (by omega) (by rw [← scn_y (by omega) hd]; exact hs) (fun z => ?_)
            have hdv : dv tp (tS tp nt e) (p - tS tp nt e) < 1000 := dv_lt (p - tS tp nt e) (by omega) (fun j hj => by
              have z3 := (scn_ge (P := isDg tp) (nt := nt) (nt + 1) p (by omega) h2).1
              have z4 := of_decide_eq_true (hDa (tS tp nt e + j) (by omega) (by rw [← hs]; omega))
              omega)
            rw [hv (by omega), sb_low _ (by omega), dv_st (by omega) (by omega) (by omega), show p + 1 - tS tp nt e = (p - tS tp nt e) + 1 by omega]
            show _ = nI (_ * 10 + (tp (tS tp nt e + (p - tS tp nt e)) - 48))
            rw [show tS tp nt e + (p - tS tp nt e) = p by omega]
  have Lw : ∀ (m p : Nat) (v1 : Int32), nt - p < m → p ≤ nt → tS tp nt e ≤ p → scn (isLt tp) nt p = tW tp nt e → (p - tS tp nt e ≤ 4 → v1 = nI (pk tp (tS tp nt e) (p - tS tp nt e))) → HV l mX3_step dp 0 0 58 [some (.ref 55), some (.int v1), some (.int (nI 0)), none, none] [] hSH (upI (upI I 55 9 (nI (tS tp nt e))) 55 10 (nI p)) J (hRR lt (some 61)) Q := by
    intro m
    induction m with
    | zero => intro p v1 h1; omega
    | succ m ih =>
      intro p v1 h1 h2 h3 hs hv
      refine h_aload_n dX3_step_58 rfl ?_
      refine h_getI dX3_step_59 f_X3_44_3 rfl (show _ = nI p from rfl) ?_
      refine h_aload_n dX3_step_62 rfl ?_
      refine h_getI dX3_step_63 f_X3_38_3 rfl (show _ = nI nt from hsz) ?_
      refine h_icmpge (tgt := 125) dX3_step_66 rfl (fun c_66 => ?_) (fun c_66 => ?_)
      · rw [nI_leI (by omega) (by omega)] at c_66
        refine h_aload_n dX3_step_125 rfl ?_
        refine h_getI dX3_step_126 f_X3_44_3 rfl (show _ = nI p from rfl) ?_
        refine h_aload_n dX3_step_129 rfl ?_
        refine h_getI dX3_step_130 f_X3_41_3 rfl (show _ = nI (tS tp nt e) from rfl) ?_
        refine h_icmple (tgt := 140) dX3_step_133 rfl (fun c_133 => ?_) (fun c_133 => ?_)
        · rw [nI_leI (by omega) (by omega)] at c_133
          refine h_iconst dX3_step_140 ci_0 ?_
          refine h_istore_n dX3_step_141 (Nat.le_of_ble_eq_true rfl) ?_
          have hpw : p = tW tp nt e := by rw [← hs, scn_n (fun z => absurd z.1 (by omega))]
          have hlt : ¬ tS tp nt e < tW tp nt e := by omega
          have e8 : p = tS tp nt e := by omega
          exact Ld hlt (nt + 1) p v1 (nI 0) (by omega) (by omega) (by omega) (by rw [e8]; rfl) (fun _ => by rw [show p - tS tp nt e = 0 by omega]; rfl)
        · rw [nI_leI (by omega) (by omega)] at c_133
          refine h_iconst dX3_step_136 ci_1 ?_
          refine h_goto (tgt := 141) dX3_step_137 rfl ?_
          refine h_istore_n dX3_step_141 (Nat.le_of_ble_eq_true rfl) ?_
          refine h_iload_n dX3_step_142 rfl ?_
          refine h_ifne (tgt := 216) dX3_step_143 rfl (fun _ => ?_) (fun c => absurd c (by decide))
          have hpw : p = tW tp nt e := by rw [← hs, scn_n (fun z => absurd z.1 (by omega))]
          exact Tw v1 (nI 0) p hpw (by omega) hv
      · rw [nI_leI (by omega) (by omega)] at c_66
        refine h_aload_n dX3_step_69 rfl ?_
        refine h_getR dX3_step_70 f_X3_34_3 rfl rfl ?_
        refine h_aload_n dX3_step_73 rfl ?_
        refine h_getI dX3_step_74 f_X3_44_3 rfl (show _ = nI p from rfl) ?_
        refine h_baldN (j := p) dX3_step_77 rfl rfl (by omega) rfl (htp p (by omega)).2 ?_
        refine h_bipush dX3_step_78 cb_97 ?_
        refine h_icmplt (tgt := 125) dX3_step_80 rfl (fun c_80 => ?_) (fun c_80 => ?_)
        · rw [sb_a _ (htp p (by omega)).1] at c_80
          refine h_aload_n dX3_step_125 rfl ?_
          refine h_getI dX3_step_126 f_X3_44_3 rfl (show _ = nI p from rfl) ?_
          refine h_aload_n dX3_step_129 rfl ?_
          refine h_getI dX3_step_130 f_X3_41_3 rfl (show _ = nI (tS tp nt e) from rfl) ?_
          refine h_icmple (tgt := 140) dX3_step_133 rfl (fun c_133 => ?_) (fun c_133 => ?_)
          · rw [nI_leI (by omega) (by omega)] at c_133
            refine h_iconst dX3_step_140 ci_0 ?_
            refine h_istore_n dX3_step_141 (Nat.le_of_ble_eq_true rfl) ?_
            have hpw : p = tW tp nt e := by rw [← hs, scn_n (fun z => by have z2 := of_decide_eq_true z.2; omega)]
            have hlt : ¬ tS tp nt e < tW tp nt e := by omega
            have e8 : p = tS tp nt e := by omega
            exact Ld hlt (nt + 1) p v1 (nI 0) (by omega) (by omega) (by omega) (by rw [e8]; rfl) (fun _ => by rw [show p - tS tp nt e = 0 by omega]; rfl)
          · rw [nI_leI (by omega) (by omega)] at c_133
            refine h_iconst dX3_step_136 ci_1 ?_
            refine h_goto (tgt := 141) dX3_step_137 rfl ?_
            refine h_istore_n dX3_step_141 (Nat.le_of_ble_eq_true rfl) ?_
            refine h_iload_n dX3_step_142 rfl ?_
            refine h_ifne (tgt := 216) dX3_step_143 rfl (fun _ => ?_) (fun c => absurd c (by decide))
            have hpw : p = tW tp nt e := by rw [← hs, scn_n (fun z => by have z2 := of_decide_eq_true z.2; omega)]
            exact Tw v1 (nI 0) p hpw (by omega) hv
        · rw [sb_a _ (htp p (by omega)).1] at c_80
          refine h_aload_n dX3_step_83 rfl ?_
          refine h_getR dX3_step_84 f_X3_34_3 rfl rfl ?_
          refine h_aload_n dX3_step_87 rfl ?_
          refine h_getI dX3_step_88 f_X3_44_3 rfl (show _ = nI p from rfl) ?_
          refine h_baldN (j := p) dX3_step_91 rfl rfl (by omega) rfl (htp p (by omega)).2 ?_
          refine h_bipush dX3_step_92 cb_122 ?_
          refine h_icmpgt (tgt := 125) dX3_step_94 rfl (fun c_94 => ?_) (fun c_94 => ?_)
          · rw [sb_z _ (htp p (by omega)).1] at c_94
            refine h_aload_n dX3_step_125 rfl ?_
            refine h_getI dX3_step_126 f_X3_44_3 rfl (show _ = nI p from rfl) ?_
            refine h_aload_n dX3_step_129 rfl ?_
            refine h_getI dX3_step_130 f_X3_41_3 rfl (show _ = nI (tS tp nt e) from rfl) ?_
            refine h_icmple (tgt := 140) dX3_step_133 rfl (fun c_133 => ?_) (fun c_133 => ?_)
            · rw [nI_leI (by omega) (by omega)] at c_133
              refine h_iconst dX3_step_140 ci_0 ?_
              refine h_istore_n dX3_step_141 (Nat.le_of_ble_eq_true rfl) ?_
              have hpw : p = tW tp nt e := by rw [← hs, scn_n (fun z => by have z2 := of_decide_eq_true z.2; omega)]
              have hlt : ¬ tS tp nt e < tW tp nt e := by omega
              have e8 : p = tS tp nt e := by omega
              exact Ld hlt (nt + 1) p v1 (nI 0) (by omega) (by omega) (by omega) (by rw [e8]; rfl) (fun _ => by rw [show p - tS tp nt e = 0 by omega]; rfl)
            · rw [nI_leI (by omega) (by omega)] at c_133
              refine h_iconst dX3_step_136 ci_1 ?_
              refine h_goto (tgt := 141) dX3_step_137 rfl ?_
              refine h_istore_n dX3_step_141 (Nat.le_of_ble_eq_true rfl) ?_
              refine h_iload_n dX3_step_142 rfl ?_
              refine h_ifne (tgt := 216) dX3_step_143 rfl (fun _ => ?_) (fun c => absurd c (by decide))
              have hpw : p = tW tp nt e := by rw [← hs, scn_n (fun z => by have z2 := of_decide_eq_true z.2; omega)]
              exact Tw v1 (nI 0) p hpw (by omega) hv
          · rw [sb_z _ (htp p (by omega)).1] at c_94
            refine h_iload_n dX3_step_97 rfl ?_
            refine h_bipush dX3_step_98 cb_8 ?_
            refine h_ishl dX3_step_100 ?_
            refine h_aload_n dX3_step_101 rfl ?_
            refine h_getR dX3_step_102 f_X3_34_3 rfl rfl ?_
            refine h_aload_n dX3_step_105 rfl ?_
            refine h_getI dX3_step_106 f_X3_44_3 rfl (show _ = nI p from rfl) ?_
            refine h_baldN (j := p) dX3_step_109 rfl rfl (by omega) rfl (htp p (by omega)).2 ?_
            refine h_ior dX3_step_110 ?_
            refine h_istore_n dX3_step_111 (Nat.le_of_ble_eq_true rfl) ?_
            refine h_aload_n dX3_step_112 rfl ?_
            refine h_dup dX3_step_113 rfl ?_
            refine h_getI dX3_step_114 f_X3_44_3 rfl (show _ = nI p from rfl) ?_
            refine h_iconst dX3_step_117 ci_1 ?_
            refine h_iaddN dX3_step_118 ?_
            refine h_putI dX3_step_119 f_X3_44_3 p_X3_3_10 (fun h => by cases h) rfl ?_
            refine h_goto (tgt := 58) dX3_step_122 rfl ?_
            have hd : isLt tp p = true := decide_eq_true ⟨by omega, by omega⟩
            rw [upI_I]
            refine ih (p + 1) _ (by omega) (by omega) (by omega) (by rw [← scn_y (by omega) hd]; exact hs) (fun z => ?_)
            rw [hv (by omega), sb_low _ (by omega), sh8 (by omega), show p + 1 - tS tp nt e = (p - tS tp nt e) + 1 by omega]
            show _ = nI (_ * 256 + tp (tS tp nt e + (p - tS tp nt e)))
            rw [show tS tp nt e + (p - tS tp nt e) = p by omega]
  have Ls : ∀ (m p : Nat), nt - p < m → p ≤ nt → e ≤ p → scn (isSp tp) nt p = tS tp nt e → HV l mX3_step dp 0 0 8 [some (.ref 55), none, none, none, none] [] hSH (upI I 55 9 (nI p)) J (hRR lt (some 61)) Q := by
    intro m
    induction m with
    | zero => intro p h1; omega
    | succ m ih =>
      intro p h1 h2 h3 hs
      refine h_aload_n dX3_step_8 rfl ?_
      refine h_getI dX3_step_9 f_X3_41_3 rfl (show _ = nI p from rfl) ?_
      refine h_aload_n dX3_step_12 rfl ?_
      refine h_getI dX3_step_13 f_X3_38_3 rfl (show _ = nI nt from hsz) ?_
      refine h_icmpge (tgt := 46) dX3_step_16 rfl (fun c_16 => ?_) (fun c_16 => ?_)
      · rw [nI_leI (by omega) (by omega)] at c_16
        refine h_aload_n dX3_step_46 rfl ?_
        refine h_aload_n dX3_step_47 rfl ?_
        refine h_getI dX3_step_48 f_X3_41_3 rfl (show _ = nI p from rfl) ?_
        refine h_putI dX3_step_51 f_X3_44_3 p_X3_3_10 (fun h => by cases h) rfl ?_
        refine h_iconst dX3_step_54 ci_0 ?_
        refine h_istore_n dX3_step_55 (Nat.le_of_ble_eq_true rfl) ?_
        refine h_iconst dX3_step_56 ci_0 ?_
        refine h_istore_n dX3_step_57 (Nat.le_of_ble_eq_true rfl) ?_
        have hps : p = tS tp nt e := by rw [← hs, scn_n (fun z => absurd z.1 (by omega))]
        subst hps
        exact Lw (nt + 1) _ (nI 0) (by omega) (by omega) (by omega) rfl (fun _ => by rw [Nat.sub_self]; rfl)
      · rw [nI_leI (by omega) (by omega)] at c_16
        refine h_aload_n dX3_step_19 rfl ?_
        refine h_getR dX3_step_20 f_X3_34_3 rfl rfl ?_
        refine h_aload_n dX3_step_23 rfl ?_
        refine h_getI dX3_step_24 f_X3_41_3 rfl (show _ = nI p from rfl) ?_
        refine h_baldN (j := p) dX3_step_27 rfl rfl (by omega) rfl (htp p (by omega)).2 ?_
        refine h_bipush dX3_step_28 cb_32 ?_
        refine h_icmpne (tgt := 46) dX3_step_30 rfl (fun c_30 => ?_) (fun c_30 => ?_)
        · rw [sb_32 _ (htp p (by omega)).1] at c_30
          refine h_aload_n dX3_step_46 rfl ?_
          refine h_aload_n dX3_step_47 rfl ?_
          refine h_getI dX3_step_48 f_X3_41_3 rfl (show _ = nI p from rfl) ?_
          refine h_putI dX3_step_51 f_X3_44_3 p_X3_3_10 (fun h => by cases h) rfl ?_
          refine h_iconst dX3_step_54 ci_0 ?_
          refine h_istore_n dX3_step_55 (Nat.le_of_ble_eq_true rfl) ?_
          refine h_iconst dX3_step_56 ci_0 ?_
          refine h_istore_n dX3_step_57 (Nat.le_of_ble_eq_true rfl) ?_
          have hps : p = tS tp nt e := by rw [← hs, scn_n (fun z => c_30 (of_decide_eq_true z.2))]
          subst hps
          exact Lw (nt + 1) _ (nI 0) (by omega) (by omega) (by omega) rfl (fun _ => by rw [Nat.sub_self]; rfl)
        · rw [sb_32 _ (htp p (by omega)).1] at c_30
          refine h_aload_n dX3_step_33 rfl ?_
          refine h_dup dX3_step_34 rfl ?_
          refine h_getI dX3_step_35 f_X3_41_3 rfl (show _ = nI p from rfl) ?_
          refine h_iconst dX3_step_38 ci_1 ?_
          refine h_iaddN dX3_step_39 ?_
          refine h_putI dX3_step_40 f_X3_41_3 p_X3_3_9 (fun h => by cases h) rfl ?_
          refine h_goto (tgt := 8) dX3_step_43 rfl ?_
          rw [upI_I]
          exact ih (p + 1) (by omega) (by omega) (by omega) (by rw [← scn_y (by omega) (decide_eq_true c_30)]; exact hs)
  show HV l mX3_step dp 0 0 0 [some (.ref 55), none, none, none, none] [] hSH I J (hRR lt (some 61)) Q
  refine h_aload_n dX3_step_0 rfl ?_
  refine h_aload_n dX3_step_1 rfl ?_
  refine h_getI dX3_step_2 f_X3_44_3 rfl he ?_
  refine h_putI dX3_step_5 f_X3_41_3 p_X3_3_9 (fun h => by cases h) rfl ?_
  exact Ls (nt + 1) e (by omega) (by omega) (by omega) rfl
