def w27 (tp : Nat → Nat) (s : Nat) : Nat → Nat
  | 0 => 0
  | k + 1 => w27 tp s k * 27 + (tp (s + k) - 96)
theorem upJ_J (J : hJ) (a j : Nat) (u v : Int64) : upJ (upJ J a j u) a j v = upJ J a j v := by
  funext x
  unfold upJ
  by_cases h : x = a
  · subst h
    rw [if_pos rfl, if_pos rfl]
    funext i
    unfold vp_updL
    rw [if_pos rfl]
    by_cases q : i = j
    · rw [if_pos q, if_pos q]
    · rw [if_neg q, if_neg q, if_neg q]
  · rw [if_neg h, if_neg h, if_neg h]
theorem nL_sub {a b : Nat} (h : b ≤ a) : nL a - nL b = nL (a - b) := by
  have e : nL a = nL (a - b) + nL b := by rw [nL_add]; congr 1; omega
  rw [e]
  exact Int64.add_sub_cancel _ _
theorem w27_st {x b : Nat} (hb : b < 256) (h : 96 ≤ b) : (27 : Int64) * nL x + (nI b).toInt64 - 96 = nL (x * 27 + (b - 96)) := by
  rw [show (27 : Int64) = nL 27 from rfl, show (96 : Int64) = nL 96 from rfl, nL_i2l (by omega), nL_mul, nL_add, nL_sub (by omega)]
  congr 1
  omega
theorem d10_st {x b : Nat} (hb : b < 256) (h : 48 ≤ b) : (10 : Int64) * nL x + (nI b).toInt64 - 48 = nL (x * 10 + (b - 48)) := by
  rw [show (10 : Int64) = nL 10 from rfl, show (48 : Int64) = nL 48 from rfl, nL_i2l (by omega), nL_mul, nL_add, nL_sub (by omega)]
  congr 1
  omega
/-- the reference stands at the token behind e -/
def RK (I : hI) (J : hJ) (tp : Nat → Nat) (nt e : Nat) : Prop := I 82 24 = nI (tS tp nt e) ∧ I 82 25 = nI (tE tp nt e) ∧ (tS tp nt e < tW tp nt e → I 82 23 = nI 1 ∧ J 82 26 = if tW tp nt e - tS tp nt e ≤ 8 then nL (w27 tp (tS tp nt e) (tW tp nt e - tS tp nt e)) else 0) ∧ (¬ tS tp nt e < tW tp nt e → tS tp nt e < tD tp nt e → I 82 23 = nI 2 ∧ (tD tp nt e - tS tp nt e ≤ 3 → J 82 26 = nL (tV tp nt e))) ∧ (¬ tS tp nt e < tW tp nt e → ¬ tS tp nt e < tD tp nt e → tS tp nt e < nt → I 82 23 = nI 3 ∧ J 82 26 = nL (tp (tS tp nt e))) ∧ (¬ tS tp nt e < nt → I 82 23 = nI 0)
theorem r_isLetter {l : Launch} {dp : Nat} {b : Nat} {sh : hS} {I : hI} {J : hJ} {R : hR} {Q : hQ} (hb : b < 256) (h1 : (97 ≤ b ∧ b ≤ 122) → Q (some (.int (nI 1))) sh I J R) (h0 : ¬ (97 ≤ b ∧ b ≤ 122) → Q (some (.int (nI 0))) sh I J R)  : HC l mX12_isLetter dp 0 0 [.int (nI b)] sh I J R Q := by
  refine HC.of (by decide +kernel) rfl (Nat.le_of_ble_eq_true rfl) ?_
  show HV l mX12_isLetter dp 0 0 0 [some (.int (nI b))] [] sh I J R Q
  refine h_iload_n dX12_isLetter_0 rfl ?_
  refine h_bipush dX12_isLetter_1 cb_97 ?_
  refine h_icmplt (tgt := 16) dX12_isLetter_3 rfl (fun c_3 => ?_) (fun c_3 => ?_)
  · rw [nI_ltI (by omega) (by omega)] at c_3
    refine h_iconst dX12_isLetter_16 ci_0 ?_
    refine h_zreturn dX12_isLetter_17 rfl (by decide) ?_
    exact h0 (by omega)
  · rw [nI_ltI (by omega) (by omega)] at c_3
    refine h_iload_n dX12_isLetter_6 rfl ?_
    refine h_bipush dX12_isLetter_7 cb_122 ?_
    refine h_icmpgt (tgt := 16) dX12_isLetter_9 rfl (fun c_9 => ?_) (fun c_9 => ?_)
    · rw [nI_ltI (by omega) (by omega)] at c_9
      refine h_iconst dX12_isLetter_16 ci_0 ?_
      refine h_zreturn dX12_isLetter_17 rfl (by decide) ?_
      exact h0 (by omega)
    · rw [nI_ltI (by omega) (by omega)] at c_9
      refine h_iconst dX12_isLetter_12 ci_1 ?_
      refine h_goto (tgt := 17) dX12_isLetter_13 rfl ?_
      refine h_zreturn dX12_isLetter_17 rfl (by decide) ?_
      exact h1 (by omega)
theorem r_isDigit {l : Launch} {dp : Nat} {b : Nat} {sh : hS} {I : hI} {J : hJ} {R : hR} {Q : hQ} (hb : b < 256) (h1 : (48 ≤ b ∧ b ≤ 57) → Q (some (.int (nI 1))) sh I J R) (h0 : ¬ (48 ≤ b ∧ b ≤ 57) → Q (some (.int (nI 0))) sh I J R)  : HC l mX12_isDigit dp 0 0 [.int (nI b)] sh I J R Q := by
  refine HC.of (by decide +kernel) rfl (Nat.le_of_ble_eq_true rfl) ?_
  show HV l mX12_isDigit dp 0 0 0 [some (.int (nI b))] [] sh I J R Q
  refine h_iload_n dX12_isDigit_0 rfl ?_
  refine h_bipush dX12_isDigit_1 cb_48 ?_
  refine h_icmplt (tgt := 16) dX12_isDigit_3 rfl (fun c_3 => ?_) (fun c_3 => ?_)
  · rw [nI_ltI (by omega) (by omega)] at c_3
    refine h_iconst dX12_isDigit_16 ci_0 ?_
    refine h_zreturn dX12_isDigit_17 rfl (by decide) ?_
    exact h0 (by omega)
  · rw [nI_ltI (by omega) (by omega)] at c_3
    refine h_iload_n dX12_isDigit_6 rfl ?_
    refine h_bipush dX12_isDigit_7 cb_57 ?_
    refine h_icmpgt (tgt := 16) dX12_isDigit_9 rfl (fun c_9 => ?_) (fun c_9 => ?_)
    · rw [nI_ltI (by omega) (by omega)] at c_9
      refine h_iconst dX12_isDigit_16 ci_0 ?_
      refine h_zreturn dX12_isDigit_17 rfl (by decide) ?_
      exact h0 (by omega)
    · rw [nI_ltI (by omega) (by omega)] at c_9
      refine h_iconst dX12_isDigit_12 ci_1 ?_
      refine h_goto (tgt := 17) dX12_isDigit_13 rfl ?_
      refine h_zreturn dX12_isDigit_17 rfl (by decide) ?_
      exact h1 (by omega)
def SR (I I2 : hI) : Prop := ∃ v82_23 v82_24 v82_25, I2 = (upI (upI (upI I 82 23 v82_23) 82 24 v82_24) 82 25 v82_25)
theorem SR_iff {I I2 : hI} : SR I I2 ↔ (∀ x, x ≠ 82 → I2 x = I x) ∧ ∀ j, j ≠ 23 → j ≠ 24 → j ≠ 25 → I2 82 j = I 82 j := by
  constructor
  · rintro ⟨v82_23, v82_24, v82_25, rfl⟩
    refine ⟨fun x h82 => ?_, fun j q23 q24 q25 => ?_⟩
    · simp [upA, upI, h82]
    · simp [upA, upI, upd, q23, q24, q25]
  · rintro ⟨h, f82⟩
    refine ⟨I2 82 23, I2 82 24, I2 82 25, ?_⟩
    funext x
    by_cases e82 : x = 82
    · subst e82
      funext j
      by_cases q23 : j = 23
      · subst q23; simp [upA, upI, upd]
      · skip
        by_cases q24 : j = 24
        · subst q24; simp [upA, upI, upd]
        · skip
          by_cases q25 : j = 25
          · subst q25; simp [upA, upI, upd]
          · skip
            simp [upA, upI, upd, q23, q24, q25, f82 j q23 q24 q25]
    · skip
      simp [upA, upI, e82, h x e82]
theorem SR_id (I : hI) : SR I I := SR_iff.mpr ⟨fun x _ => rfl, fun j _ _ _ => rfl⟩
theorem SR_tr {I I2 I3 : hI} (k1 : SR I I2) (k2 : SR I2 I3) : SR I I3 := SR_iff.mpr ⟨fun x h82 => ((SR_iff.mp k2).1 x h82).trans ((SR_iff.mp k1).1 x h82), fun j q23 q24 q25 => ((SR_iff.mp k2).2 j q23 q24 q25).trans ((SR_iff.mp k1).2 j q23 q24 q25)⟩
theorem r_advance {l : Launch} {dp : Nat} {tp : Nat → Nat} {nt e : Nat} {I : hI} {J : hJ} {lt tx : Option Nat} {Q : hQ} (hT : rT I nt tp) (he : I 82 25 = nI e) (hen : e ≤ nt) (hQ : ∀ I2 v, SR I I2 → RK I2 (upJ J 82 26 v) tp nt e → Q none hSH I2 (upJ J 82 26 v) (hRR lt tx))  : HC l mX12_advance (dp + 1) 0 0 [.ref 82] hSH I J (hRR lt tx) Q := by
  refine HC.of (by decide +kernel) rfl (Nat.le_of_ble_eq_true rfl) ?_
  obtain ⟨hsz, h200, htp⟩ := hT
  have hS1 : e ≤ tS tp nt e ∧ tS tp nt e ≤ nt := scn_ge (P := isSp tp) (nt := nt) (nt + 1) e (by omega) hen
  have hW1 : tS tp nt e ≤ tW tp nt e ∧ tW tp nt e ≤ nt := scn_ge (P := isLt tp) (nt := nt) (nt + 1) _ (by omega) hS1.2
  have hD1 : tS tp nt e ≤ tD tp nt e ∧ tD tp nt e ≤ nt := scn_ge (P := isDg tp) (nt := nt) (nt + 1) _ (by omega) hS1.2
  have Lw : tS tp nt e < tW tp nt e → ∀ (m p : Nat) (v : Int64), nt - p < m → p ≤ nt → tS tp nt e ≤ p → scn (isLt tp) nt p = tW tp nt e → (p - tS tp nt e ≤ 8 → v = nL (w27 tp (tS tp nt e) (p - tS tp nt e))) → HV l mX12_advance (dp + 1) 0 0 73 [some (.ref 82), some (.int (nI p))] [] hSH (upI (upI I 82 24 (nI (tS tp nt e))) 82 23 (nI 1)) (upJ J 82 26 v) (hRR lt tx) Q := by
    intro hlt m
    induction m with
    | zero => intro p v h1; omega
    | succ m ih =>
      intro p v h1 h2 h3 hs hv
      refine h_iload_n dX12_advance_73 rfl ?_
      refine h_aload_n dX12_advance_74 rfl ?_
      refine h_getI dX12_advance_75 f_X12_223_10 rfl (show _ = nI nt from hsz) ?_
      refine h_icmpge (tgt := 138) dX12_advance_78 rfl (fun c_78 => ?_) (fun c_78 => ?_)
      · rw [nI_leI (by omega) (by omega)] at c_78
        refine h_aload_n dX12_advance_138 rfl ?_
        refine h_iload_n dX12_advance_139 rfl ?_
        refine h_aload_n dX12_advance_140 rfl ?_
        refine h_getI dX12_advance_141 f_X12_231_10 rfl (show _ = nI (tS tp nt e) from rfl) ?_
        refine h_isubN dX12_advance_144 (by omega) ?_
        refine h_bipush dX12_advance_145 cb_8 ?_
        refine h_icmple (tgt := 154) dX12_advance_147 rfl (fun c_147 => ?_) (fun c_147 => ?_)
        · rw [nI_leI (by omega) (by omega)] at c_147
          refine h_aload_n dX12_advance_154 rfl ?_
          refine h_getL dX12_advance_155 f_X12_234_10 rfl (show _ = v from rfl) ?_
          refine h_putL dX12_advance_158 f_X12_234_10 p_X12_10_26 (fun h => by cases h) rfl ?_
          refine h_goto (tgt := 267) dX12_advance_161 rfl ?_
          refine h_aload_n dX12_advance_267 rfl ?_
          refine h_iload_n dX12_advance_268 rfl ?_
          refine h_putI dX12_advance_269 f_X12_228_10 p_X12_10_25 (fun h => by cases h) rfl ?_
          refine h_return dX12_advance_272 rfl ?_
          rw [upJ_J]
          have hpw : p = tW tp nt e := by rw [← hs, scn_n (fun z => absurd z.1 (by omega))]
          subst hpw
          have hE : tE tp nt e = tW tp nt e := by unfold tE; rw [if_pos hlt]
          exact hQ _ _ (SR_iff.mpr ⟨fun x h82 => by simp [upI, h82], fun j q23 q24 q25 => by simp [upI, upd, q23, q24, q25]⟩) ⟨rfl, by rw [hE]; rfl, fun _ => ⟨rfl, by rw [if_pos (by omega)]; exact hv (by omega)⟩, fun z => absurd hlt z, fun z => absurd hlt z, fun z => absurd z (by omega)⟩
        · rw [nI_leI (by omega) (by omega)] at c_147
          refine h_lconst (v := 0) dX12_advance_150 rfl ?_
          refine h_goto (tgt := 158) dX12_advance_151 rfl ?_
          refine h_putL dX12_advance_158 f_X12_234_10 p_X12_10_26 (fun h => by cases h) rfl ?_
          refine h_goto (tgt := 267) dX12_advance_161 rfl ?_
          refine h_aload_n dX12_advance_267 rfl ?_
          refine h_iload_n dX12_advance_268 rfl ?_
          refine h_putI dX12_advance_269 f_X12_228_10 p_X12_10_25 (fun h => by cases h) rfl ?_
          refine h_return dX12_advance_272 rfl ?_
          rw [upJ_J]
          have hpw : p = tW tp nt e := by rw [← hs, scn_n (fun z => absurd z.1 (by omega))]
          subst hpw
          have hE : tE tp nt e = tW tp nt e := by unfold tE; rw [if_pos hlt]
          exact hQ _ _ (SR_iff.mpr ⟨fun x h82 => by simp [upI, h82], fun j q23 q24 q25 => by simp [upI, upd, q23, q24, q25]⟩) ⟨rfl, by rw [hE]; rfl, fun _ => ⟨rfl, by rw [if_neg (by omega)]; rfl⟩, fun z => absurd hlt z, fun z => absurd hlt z, fun z => absurd z (by omega)⟩
      · rw [nI_leI (by omega) (by omega)] at c_78
        refine h_aload_n dX12_advance_81 rfl ?_
        refine h_getR dX12_advance_82 f_X12_50_10 rfl rfl ?_
        refine h_iload_n dX12_advance_85 rfl ?_
        refine h_ialdN (j := p) dX12_advance_86 rfl rfl (by omega) rfl (htp _ (by omega)).2 ?_
        refine h_cS1 dX12_advance_87 k6_138 oSX12_isLetter rfl ?_
        refine r_isLetter (htp p (by omega)).1 (fun b1 => ?_) (fun b1 => ?_)
        · refine h_ifeq (tgt := 138) dX12_advance_90 rfl (fun c => absurd c (by decide)) (fun _ => ?_)
          refine h_aload_n dX12_advance_93 rfl ?_
          refine h_iload_n dX12_advance_94 rfl ?_
          refine h_aload_n dX12_advance_95 rfl ?_
          refine h_getI dX12_advance_96 f_X12_231_10 rfl (show _ = nI (tS tp nt e) from rfl) ?_
          refine h_isubN dX12_advance_99 (by omega) ?_
          refine h_bipush dX12_advance_100 cb_8 ?_
          refine h_icmpge (tgt := 128) dX12_advance_102 rfl (fun c_102 => ?_) (fun c_102 => ?_)
          · rw [nI_leI (by omega) (by omega)] at c_102
            refine h_lconst (v := 0) dX12_advance_128 rfl ?_
            refine h_putL dX12_advance_129 f_X12_234_10 p_X12_10_26 (fun h => by cases h) rfl ?_
            refine h_iinc (v := nI (p + 1)) dX12_advance_132 rfl (nI_1 _) (Nat.le_of_ble_eq_true rfl) ?_
            refine h_goto (tgt := 73) dX12_advance_135 rfl ?_
            rw [upJ_J]
            have hd : isLt tp p = true := decide_eq_true b1
            refine ih (p + 1) _ (by omega) (by omega) (by omega) (by rw [← scn_y (by omega) hd]; exact hs) (fun z => ?_)
            exact absurd z (by omega)
          · rw [nI_leI (by omega) (by omega)] at c_102
            refine h_ldc2 dX12_advance_105 k6_141 ?_
            refine h_aload_n dX12_advance_108 rfl ?_
            refine h_getL dX12_advance_109 f_X12_234_10 rfl (show _ = v from rfl) ?_
            refine h_lmul dX12_advance_112 ?_
            refine h_aload_n dX12_advance_113 rfl ?_
            refine h_getR dX12_advance_114 f_X12_50_10 rfl rfl ?_
            refine h_iload_n dX12_advance_117 rfl ?_
            refine h_ialdN (j := p) dX12_advance_118 rfl rfl (by omega) rfl (htp _ (by omega)).2 ?_
            refine h_i2l dX12_advance_119 ?_
            refine h_ladd dX12_advance_120 ?_
            refine h_ldc2 dX12_advance_121 k6_142 ?_
            refine h_lsub dX12_advance_124 ?_
            refine h_goto (tgt := 129) dX12_advance_125 rfl ?_
            refine h_putL dX12_advance_129 f_X12_234_10 p_X12_10_26 (fun h => by cases h) rfl ?_
            refine h_iinc (v := nI (p + 1)) dX12_advance_132 rfl (nI_1 _) (Nat.le_of_ble_eq_true rfl) ?_
            refine h_goto (tgt := 73) dX12_advance_135 rfl ?_
            rw [upJ_J]
            have hd : isLt tp p = true := decide_eq_true b1
            refine ih (p + 1) _ (by omega) (by omega) (by omega) (by rw [← scn_y (by omega) hd]; exact hs) (fun z => ?_)
            rw [hv (by omega), w27_st (htp p (by omega)).1 (by omega), show p + 1 - tS tp nt e = (p - tS tp nt e) + 1 by omega]
            show _ = nL (_ * 27 + (tp (tS tp nt e + (p - tS tp nt e)) - 96))
            rw [show tS tp nt e + (p - tS tp nt e) = p by omega]
        · refine h_ifeq (tgt := 138) dX12_advance_90 rfl (fun _ => ?_) (fun c => absurd (by decide) c)
          refine h_aload_n dX12_advance_138 rfl ?_
          refine h_iload_n dX12_advance_139 rfl ?_
          refine h_aload_n dX12_advance_140 rfl ?_
          refine h_getI dX12_advance_141 f_X12_231_10 rfl (show _ = nI (tS tp nt e) from rfl) ?_
          refine h_isubN dX12_advance_144 (by omega) ?_
          refine h_bipush dX12_advance_145 cb_8 ?_
          refine h_icmple (tgt := 154) dX12_advance_147 rfl (fun c_147 => ?_) (fun c_147 => ?_)
          · rw [nI_leI (by omega) (by omega)] at c_147
            refine h_aload_n dX12_advance_154 rfl ?_
            refine h_getL dX12_advance_155 f_X12_234_10 rfl (show _ = v from rfl) ?_
            refine h_putL dX12_advance_158 f_X12_234_10 p_X12_10_26 (fun h => by cases h) rfl ?_
            refine h_goto (tgt := 267) dX12_advance_161 rfl ?_
            refine h_aload_n dX12_advance_267 rfl ?_
            refine h_iload_n dX12_advance_268 rfl ?_
            refine h_putI dX12_advance_269 f_X12_228_10 p_X12_10_25 (fun h => by cases h) rfl ?_
            refine h_return dX12_advance_272 rfl ?_
            rw [upJ_J]
            have hpw : p = tW tp nt e := by rw [← hs, scn_n (fun z => b1 (of_decide_eq_true z.2))]
            subst hpw
            have hE : tE tp nt e = tW tp nt e := by unfold tE; rw [if_pos hlt]
            exact hQ _ _ (SR_iff.mpr ⟨fun x h82 => by simp [upI, h82], fun j q23 q24 q25 => by simp [upI, upd, q23, q24, q25]⟩) ⟨rfl, by rw [hE]; rfl, fun _ => ⟨rfl, by rw [if_pos (by omega)]; exact hv (by omega)⟩, fun z => absurd hlt z, fun z => absurd hlt z, fun z => absurd z (by omega)⟩
          · rw [nI_leI (by omega) (by omega)] at c_147
            refine h_lconst (v := 0) dX12_advance_150 rfl ?_
            refine h_goto (tgt := 158) dX12_advance_151 rfl ?_
            refine h_putL dX12_advance_158 f_X12_234_10 p_X12_10_26 (fun h => by cases h) rfl ?_
            refine h_goto (tgt := 267) dX12_advance_161 rfl ?_
            refine h_aload_n dX12_advance_267 rfl ?_
            refine h_iload_n dX12_advance_268 rfl ?_
            refine h_putI dX12_advance_269 f_X12_228_10 p_X12_10_25 (fun h => by cases h) rfl ?_
            refine h_return dX12_advance_272 rfl ?_
            rw [upJ_J]
            have hpw : p = tW tp nt e := by rw [← hs, scn_n (fun z => b1 (of_decide_eq_true z.2))]
            subst hpw
            have hE : tE tp nt e = tW tp nt e := by unfold tE; rw [if_pos hlt]
            exact hQ _ _ (SR_iff.mpr ⟨fun x h82 => by simp [upI, h82], fun j q23 q24 q25 => by simp [upI, upd, q23, q24, q25]⟩) ⟨rfl, by rw [hE]; rfl, fun _ => ⟨rfl, by rw [if_neg (by omega)]; rfl⟩, fun z => absurd hlt z, fun z => absurd hlt z, fun z => absurd z (by omega)⟩
  have Ld : ¬ tS tp nt e < tW tp nt e → tS tp nt e < tD tp nt e → ∀ (m p : Nat) (v : Int64), nt - p < m → p ≤ nt → tS tp nt e ≤ p → scn (isDg tp) nt p = tD tp nt e → (p - tS tp nt e ≤ 3 → v = nL (dv tp (tS tp nt e) (p - tS tp nt e))) → HV l mX12_advance (dp + 1) 0 0 181 [some (.ref 82), some (.int (nI p))] [] hSH (upI (upI I 82 24 (nI (tS tp nt e))) 82 23 (nI 2)) (upJ J 82 26 v) (hRR lt tx) Q := by
    intro hlt hlt2 m
    induction m with
    | zero => intro p v h1; omega
    | succ m ih =>
      intro p v h1 h2 h3 hs hv
      refine h_iload_n dX12_advance_181 rfl ?_
      refine h_aload_n dX12_advance_182 rfl ?_
      refine h_getI dX12_advance_183 f_X12_223_10 rfl (show _ = nI nt from hsz) ?_
      refine h_icmpge (tgt := 267) dX12_advance_186 rfl (fun c_186 => ?_) (fun c_186 => ?_)
      · rw [nI_leI (by omega) (by omega)] at c_186
        refine h_aload_n dX12_advance_267 rfl ?_
        refine h_iload_n dX12_advance_268 rfl ?_
        refine h_putI dX12_advance_269 f_X12_228_10 p_X12_10_25 (fun h => by cases h) rfl ?_
        refine h_return dX12_advance_272 rfl ?_
        have hpw : p = tD tp nt e := by rw [← hs, scn_n (fun z => absurd z.1 (by omega))]
        subst hpw
        have hE : tE tp nt e = tD tp nt e := by unfold tE; rw [if_neg hlt, if_pos hlt2]
        exact hQ _ _ (SR_iff.mpr ⟨fun x h82 => by simp [upI, h82], fun j q23 q24 q25 => by simp [upI, upd, q23, q24, q25]⟩) ⟨rfl, by rw [hE]; rfl, fun z => absurd z hlt, fun _ _ => ⟨rfl, fun z => hv z⟩, fun _ z => absurd hlt2 z, fun z => absurd z (by omega)⟩
      · rw [nI_leI (by omega) (by omega)] at c_186
        refine h_aload_n dX12_advance_189 rfl ?_
        refine h_getR dX12_advance_190 f_X12_50_10 rfl rfl ?_
        refine h_iload_n dX12_advance_193 rfl ?_
        refine h_ialdN (j := p) dX12_advance_194 rfl rfl (by omega) rfl (htp _ (by omega)).2 ?_
        refine h_cS1 dX12_advance_195 k6_143 oSX12_isDigit rfl ?_
        refine r_isDigit (htp p (by omega)).1 (fun b1 => ?_) (fun b1 => ?_)
        · refine h_ifeq (tgt := 267) dX12_advance_198 rfl (fun c => absurd c (by decide)) (fun _ => ?_)
          refine h_aload_n dX12_advance_201 rfl ?_
          refine h_iload_n dX12_advance_202 rfl ?_
          refine h_aload_n dX12_advance_203 rfl ?_
          refine h_getI dX12_advance_204 f_X12_231_10 rfl (show _ = nI (tS tp nt e) from rfl) ?_
          refine h_isubN dX12_advance_207 (by omega) ?_
          refine h_iconst dX12_advance_208 ci_3 ?_
          refine h_icmpge (tgt := 235) dX12_advance_209 rfl (fun c_209 => ?_) (fun c_209 => ?_)
          · rw [nI_leI (by omega) (by omega)] at c_209
            refine h_aload_n dX12_advance_235 rfl ?_
            refine h_getL dX12_advance_236 f_X12_234_10 rfl (show _ = v from rfl) ?_
            refine h_putL dX12_advance_239 f_X12_234_10 p_X12_10_26 (fun h => by cases h) rfl ?_
            refine h_iinc (v := nI (p + 1)) dX12_advance_242 rfl (nI_1 _) (Nat.le_of_ble_eq_true rfl) ?_
            refine h_goto (tgt := 181) dX12_advance_245 rfl ?_
            rw [upJ_J]
            have hd : isDg tp p = true := decide_eq_true b1
            refine ih (p + 1) _ (by omega) (by omega) (by omega) (by rw [← scn_y (by omega) hd]; exact hs) (fun z => ?_)
            exact absurd z (by omega)
          · rw [nI_leI (by omega) (by omega)] at c_209
            refine h_ldc2 dX12_advance_212 k6_146 ?_
            refine h_aload_n dX12_advance_215 rfl ?_
            refine h_getL dX12_advance_216 f_X12_234_10 rfl (show _ = v from rfl) ?_
            refine h_lmul dX12_advance_219 ?_
            refine h_aload_n dX12_advance_220 rfl ?_
            refine h_getR dX12_advance_221 f_X12_50_10 rfl rfl ?_
            refine h_iload_n dX12_advance_224 rfl ?_
            refine h_ialdN (j := p) dX12_advance_225 rfl rfl (by omega) rfl (htp _ (by omega)).2 ?_
            refine h_i2l dX12_advance_226 ?_
            refine h_ladd dX12_advance_227 ?_
            refine h_ldc2 dX12_advance_228 k6_147 ?_
            refine h_lsub dX12_advance_231 ?_
            refine h_goto (tgt := 239) dX12_advance_232 rfl ?_
            refine h_putL dX12_advance_239 f_X12_234_10 p_X12_10_26 (fun h => by cases h) rfl ?_
            refine h_iinc (v := nI (p + 1)) dX12_advance_242 rfl (nI_1 _) (Nat.le_of_ble_eq_true rfl) ?_
            refine h_goto (tgt := 181) dX12_advance_245 rfl ?_
            rw [upJ_J]
            have hd : isDg tp p = true := decide_eq_true b1
            refine ih (p + 1) _ (by omega) (by omega) (by omega) (by rw [← scn_y (by omega) hd]; exact hs) (fun z => ?_)
            rw [hv (by omega), d10_st (htp p (by omega)).1 (by omega), show p + 1 - tS tp nt e = (p - tS tp nt e) + 1 by omega]
            show _ = nL (_ * 10 + (tp (tS tp nt e + (p - tS tp nt e)) - 48))
            rw [show tS tp nt e + (p - tS tp nt e) = p by omega]
        · refine h_ifeq (tgt := 267) dX12_advance_198 rfl (fun _ => ?_) (fun c => absurd (by decide) c)
          refine h_aload_n dX12_advance_267 rfl ?_
          refine h_iload_n dX12_advance_268 rfl ?_
          refine h_putI dX12_advance_269 f_X12_228_10 p_X12_10_25 (fun h => by cases h) rfl ?_
          refine h_return dX12_advance_272 rfl ?_
          have hpw : p = tD tp nt e := by rw [← hs, scn_n (fun z => b1 (of_decide_eq_true z.2))]
          subst hpw
          have hE : tE tp nt e = tD tp nt e := by unfold tE; rw [if_neg hlt, if_pos hlt2]
          exact hQ _ _ (SR_iff.mpr ⟨fun x h82 => by simp [upI, h82], fun j q23 q24 q25 => by simp [upI, upd, q23, q24, q25]⟩) ⟨rfl, by rw [hE]; rfl, fun z => absurd z hlt, fun _ _ => ⟨rfl, fun z => hv z⟩, fun _ z => absurd hlt2 z, fun z => absurd z (by omega)⟩
  have L30 : HV l mX12_advance (dp + 1) 0 0 30 [some (.ref 82), some (.int (nI (tS tp nt e)))] [] hSH I J (hRR lt tx) Q := by
    refine h_aload_n dX12_advance_30 rfl ?_
    refine h_iload_n dX12_advance_31 rfl ?_
    refine h_putI dX12_advance_32 f_X12_231_10 p_X12_10_24 (fun h => by cases h) rfl ?_
    refine h_aload_n dX12_advance_35 rfl ?_
    refine h_lconst (v := 0) dX12_advance_36 rfl ?_
    refine h_putL dX12_advance_37 f_X12_234_10 p_X12_10_26 (fun h => by cases h) rfl ?_
    refine h_iload_n dX12_advance_40 rfl ?_
    refine h_aload_n dX12_advance_41 rfl ?_
    refine h_getI dX12_advance_42 f_X12_223_10 rfl (show _ = nI nt from hsz) ?_
    refine h_icmpne (tgt := 56) dX12_advance_45 rfl (fun c_45 => ?_) (fun c_45 => ?_)
    · rw [nI_eq (by omega) (by omega)] at c_45
      refine h_aload_n dX12_advance_56 rfl ?_
      refine h_getR dX12_advance_57 f_X12_50_10 rfl rfl ?_
      refine h_iload_n dX12_advance_60 rfl ?_
      refine h_ialdN (j := tS tp nt e) dX12_advance_61 rfl rfl (by omega) rfl (htp _ (by omega)).2 ?_
      refine h_cS1 dX12_advance_62 k6_138 oSX12_isLetter rfl ?_
      refine r_isLetter (htp _ (by omega)).1 (fun b1 => ?_) (fun b1 => ?_)
      · have hlt : tS tp nt e < tW tp nt e := by
          show _ < scn (isLt tp) nt (tS tp nt e)
          rw [scn_y (by omega) (decide_eq_true b1)]
          have := (scn_ge (P := isLt tp) (nt := nt) (nt + 1) (tS tp nt e + 1) (by omega) (by omega)).1
          omega
        refine h_ifeq (tgt := 164) dX12_advance_65 rfl (fun c => absurd c (by decide)) (fun _ => ?_)
        refine h_aload_n dX12_advance_68 rfl ?_
        refine h_iconst dX12_advance_69 ci_1 ?_
        refine h_putI dX12_advance_70 f_X12_238_10 p_X12_10_23 (fun h => by cases h) rfl ?_
        exact Lw hlt (nt + 1) _ _ (by omega) (by omega) (by omega) rfl (fun _ => by rw [Nat.sub_self]; rfl)
      · have hlt : ¬ tS tp nt e < tW tp nt e := by
          show ¬ _ < scn (isLt tp) nt (tS tp nt e)
          rw [scn_n (fun z => b1 (of_decide_eq_true z.2))]
          omega
        refine h_ifeq (tgt := 164) dX12_advance_65 rfl (fun _ => ?_) (fun c => absurd (by decide) c)
        refine h_aload_n dX12_advance_164 rfl ?_
        refine h_getR dX12_advance_165 f_X12_50_10 rfl rfl ?_
        refine h_iload_n dX12_advance_168 rfl ?_
        refine h_ialdN (j := tS tp nt e) dX12_advance_169 rfl rfl (by omega) rfl (htp _ (by omega)).2 ?_
        refine h_cS1 dX12_advance_170 k6_143 oSX12_isDigit rfl ?_
        refine r_isDigit (htp _ (by omega)).1 (fun b2 => ?_) (fun b2 => ?_)
        · have hlt2 : tS tp nt e < tD tp nt e := by
            show _ < scn (isDg tp) nt (tS tp nt e)
            rw [scn_y (by omega) (decide_eq_true b2)]
            have := (scn_ge (P := isDg tp) (nt := nt) (nt + 1) (tS tp nt e + 1) (by omega) (by omega)).1
            omega
          refine h_ifeq (tgt := 248) dX12_advance_173 rfl (fun c => absurd c (by decide)) (fun _ => ?_)
          refine h_aload_n dX12_advance_176 rfl ?_
          refine h_iconst dX12_advance_177 ci_2 ?_
          refine h_putI dX12_advance_178 f_X12_238_10 p_X12_10_23 (fun h => by cases h) rfl ?_
          exact Ld hlt hlt2 (nt + 1) _ _ (by omega) (by omega) (by omega) rfl (fun _ => by rw [Nat.sub_self]; rfl)
        · have hlt2 : ¬ tS tp nt e < tD tp nt e := by
            show ¬ _ < scn (isDg tp) nt (tS tp nt e)
            rw [scn_n (fun z => b2 (of_decide_eq_true z.2))]
            omega
          refine h_ifeq (tgt := 248) dX12_advance_173 rfl (fun _ => ?_) (fun c => absurd (by decide) c)
          refine h_aload_n dX12_advance_248 rfl ?_
          refine h_iconst dX12_advance_249 ci_3 ?_
          refine h_putI dX12_advance_250 f_X12_238_10 p_X12_10_23 (fun h => by cases h) rfl ?_
          refine h_aload_n dX12_advance_253 rfl ?_
          refine h_aload_n dX12_advance_254 rfl ?_
          refine h_getR dX12_advance_255 f_X12_50_10 rfl rfl ?_
          refine h_iload_n dX12_advance_258 rfl ?_
          refine h_ialdN (j := tS tp nt e) dX12_advance_259 rfl rfl (by omega) rfl (htp _ (by omega)).2 ?_
          refine h_i2l dX12_advance_260 ?_
          refine h_putL dX12_advance_261 f_X12_234_10 p_X12_10_26 (fun h => by cases h) rfl ?_
          refine h_iinc (v := nI (tS tp nt e + 1)) dX12_advance_264 rfl (nI_1 _) (Nat.le_of_ble_eq_true rfl) ?_
          refine h_aload_n dX12_advance_267 rfl ?_
          refine h_iload_n dX12_advance_268 rfl ?_
          refine h_putI dX12_advance_269 f_X12_228_10 p_X12_10_25 (fun h => by cases h) rfl ?_
          refine h_return dX12_advance_272 rfl ?_
          rw [upJ_J]
          have hE : tE tp nt e = tS tp nt e + 1 := by unfold tE; rw [if_neg hlt, if_neg hlt2, if_pos (by omega)]
          exact hQ _ _ (SR_iff.mpr ⟨fun x h82 => by simp [upI, h82], fun j q23 q24 q25 => by simp [upI, upd, q23, q24, q25]⟩) ⟨rfl, by rw [hE]; rfl, fun z => absurd z hlt, fun _ z => absurd z hlt2, fun _ _ _ => ⟨rfl, nL_i2l (by have := (htp (tS tp nt e) (by omega)).1; omega)⟩, fun z => absurd z (by omega)⟩
    · rw [nI_eq (by omega) (by omega)] at c_45
      refine h_aload_n dX12_advance_48 rfl ?_
      refine h_iconst dX12_advance_49 ci_0 ?_
      refine h_putI dX12_advance_50 f_X12_238_10 p_X12_10_23 (fun h => by cases h) rfl ?_
      refine h_goto (tgt := 267) dX12_advance_53 rfl ?_
      refine h_aload_n dX12_advance_267 rfl ?_
      refine h_iload_n dX12_advance_268 rfl ?_
      refine h_putI dX12_advance_269 f_X12_228_10 p_X12_10_25 (fun h => by cases h) rfl ?_
      refine h_return dX12_advance_272 rfl ?_
      have hE : tE tp nt e = tS tp nt e := by unfold tE; rw [if_neg (by omega), if_neg (by omega), if_neg (by omega)]
      exact hQ _ _ (SR_iff.mpr ⟨fun x h82 => by simp [upI, h82], fun j q23 q24 q25 => by simp [upI, upd, q23, q24, q25]⟩) ⟨rfl, by rw [hE]; rfl, fun z => absurd z (by omega), fun _ z => absurd z (by omega), fun _ _ z => absurd z (by omega), fun _ => rfl⟩
  have Ls : ∀ (m p : Nat), nt - p < m → p ≤ nt → e ≤ p → scn (isSp tp) nt p = tS tp nt e → HV l mX12_advance (dp + 1) 0 0 5 [some (.ref 82), some (.int (nI p))] [] hSH I J (hRR lt tx) Q := by
    intro m
    induction m with
    | zero => intro p h1; omega
    | succ m ih =>
      intro p h1 h2 h3 hs
      refine h_iload_n dX12_advance_5 rfl ?_
      refine h_aload_n dX12_advance_6 rfl ?_
      refine h_getI dX12_advance_7 f_X12_223_10 rfl (show _ = nI nt from hsz) ?_
      refine h_icmpge (tgt := 30) dX12_advance_10 rfl (fun c_10 => ?_) (fun c_10 => ?_)
      · rw [nI_leI (by omega) (by omega)] at c_10
        have hps : p = tS tp nt e := by rw [← hs, scn_n (fun z => absurd z.1 (by omega))]
        subst hps
        exact L30
      · rw [nI_leI (by omega) (by omega)] at c_10
        have hbp := (htp p (by omega)).1
        refine h_aload_n dX12_advance_13 rfl ?_
        refine h_getR dX12_advance_14 f_X12_50_10 rfl rfl ?_
        refine h_iload_n dX12_advance_17 rfl ?_
        refine h_ialdN (j := p) dX12_advance_18 rfl rfl (by omega) rfl (htp _ (by omega)).2 ?_
        refine h_bipush dX12_advance_19 cb_32 ?_
        refine h_icmpne (tgt := 30) dX12_advance_21 rfl (fun c_21 => ?_) (fun c_21 => ?_)
        · rw [nI_eq (by omega) (by omega)] at c_21
          have hps : p = tS tp nt e := by rw [← hs, scn_n (fun z => c_21 (of_decide_eq_true z.2))]
          subst hps
          exact L30
        · rw [nI_eq (by omega) (by omega)] at c_21
          refine h_iinc (v := nI (p + 1)) dX12_advance_24 rfl (nI_1 _) (Nat.le_of_ble_eq_true rfl) ?_
          refine h_goto (tgt := 5) dX12_advance_27 rfl ?_
          exact ih (p + 1) (by omega) (by omega) (by omega) (by rw [← scn_y (by omega) (decide_eq_true c_21)]; exact hs)
  show HV l mX12_advance (dp + 1) 0 0 0 [some (.ref 82), none] [] hSH I J (hRR lt tx) Q
  refine h_aload_n dX12_advance_0 rfl ?_
  refine h_getI dX12_advance_1 f_X12_228_10 rfl he ?_
  refine h_istore_n dX12_advance_4 (Nat.le_of_ble_eq_true rfl) ?_
  exact Ls (nt + 1) e (by omega) (by omega) (by omega) rfl
