theorem bit_le (b : Bool) : bit b ≤ 1 := by cases b <;> decide
theorem cev_1 {sg lf rt : Nat → Int32} {ki aw wh i : Nat} {v : Int32} : cev sg lf rt ki aw wh 1 i v = cst1 ki aw wh (sg i) (lf i) (rt i) v := rfl
/-- a step more -/
def noted (I I2 : hI) (m : Nat) (sg lf rt : Int32) : Prop := PB I I2 m ∧ I2 58 m = sg ∧ I2 59 m = lf ∧ I2 60 m = rt
theorem CP_not {I I2 : hI} {m m2 B : Nat} {P : qP} {lf rt : Int32} (hB : B ≤ 512) (h : CP I m m2 B P) (hn : noted I I2 m2 (nI 7237492) lf rt) : CP I2 m (m2 + 1) B (fun x y z => !(P x y z)) := by
  have h2 := CP_fr h hn.1
  refine ⟨by have := h.1; omega, fun ki aw wh q1 q2 q3 x hx => ?_⟩
  have hm := h.1
  have e := h2.2 ki aw wh q1 q2 q3 x hx
  rw [show m2 + 1 - m = (m2 - m) + 1 by omega, cev_add, e, cev_1, show m + (m2 - m) = m2 by omega, hn.2.1]
  have b := bit_le (P ki aw wh)
  show cst1 0 0 0 7237492 0 0 _ = _
  rw [st_not _ (by omega)]
  show _ = nI (2 * x + bit (!(P ki aw wh)))
  cases P ki aw wh
  · show nI (2 * ((2 * x + 0) / 2) + (1 - (2 * x + 0) % 2)) = nI (2 * x + 1)
    congr 1; omega
  · show nI (2 * ((2 * x + 1) / 2) + (1 - (2 * x + 1) % 2)) = nI (2 * x + 0)
    congr 1; omega
theorem CP_and {I I2 : hI} {m m1 m2 B : Nat} {P P2 : qP} {lf rt : Int32} (hB : B ≤ 256) (h : CP I m m1 B P) (h2 : CP I m1 m2 (2 * B) P2) (hn : noted I I2 m2 (nI 6385252) lf rt) : CP I2 m (m2 + 1) B (fun x y z => P x y z && P2 x y z) := by
  have g1 := CP_fr h (fun j hj => hn.1 j (by have := h2.1; omega))
  have g2 := CP_fr h2 hn.1
  have l1 := h.1
  have l2 := h2.1
  refine ⟨by omega, fun ki aw wh q1 q2 q3 x hx => ?_⟩
  have b := bit_le (P ki aw wh)
  have b2 := bit_le (P2 ki aw wh)
  have e := g1.2 ki aw wh q1 q2 q3 x hx
  have e2 := g2.2 ki aw wh q1 q2 q3 (2 * x + bit (P ki aw wh)) (by omega)
  rw [show m2 + 1 - m = (m1 - m) + ((m2 - m1) + 1) by omega, cev_add, e, cev_add, show m + (m1 - m) = m1 by omega, e2, cev_1, show m1 + (m2 - m1) = m2 by omega, hn.2.1]
  show cst1 0 0 0 6385252 0 0 _ = _
  rw [st_and _ (by omega)]
  show _ = nI (2 * x + bit (P ki aw wh && P2 ki aw wh))
  cases P ki aw wh <;> cases P2 ki aw wh
  · show nI (2 * ((2 * (2 * x + 0) + 0) / 4) + (if (2 * (2 * x + 0) + 0) / 2 % 2 = 1 ∧ (2 * (2 * x + 0) + 0) % 2 = 1 then 1 else 0)) = nI (2 * x + 0)
    rw [if_neg (by omega)]; congr 1; omega
  · show nI (2 * ((2 * (2 * x + 0) + 1) / 4) + (if (2 * (2 * x + 0) + 1) / 2 % 2 = 1 ∧ (2 * (2 * x + 0) + 1) % 2 = 1 then 1 else 0)) = nI (2 * x + 0)
    rw [if_neg (by omega)]; congr 1; omega
  · show nI (2 * ((2 * (2 * x + 1) + 0) / 4) + (if (2 * (2 * x + 1) + 0) / 2 % 2 = 1 ∧ (2 * (2 * x + 1) + 0) % 2 = 1 then 1 else 0)) = nI (2 * x + 0)
    rw [if_neg (by omega)]; congr 1; omega
  · show nI (2 * ((2 * (2 * x + 1) + 1) / 4) + (if (2 * (2 * x + 1) + 1) / 2 % 2 = 1 ∧ (2 * (2 * x + 1) + 1) % 2 = 1 then 1 else 0)) = nI (2 * x + 1)
    rw [if_pos (by omega)]; congr 1; omega
theorem CP_or {I I2 : hI} {m m1 m2 B : Nat} {P P2 : qP} {lf rt : Int32} (hB : B ≤ 256) (h : CP I m m1 B P) (h2 : CP I m1 m2 (2 * B) P2) (hn : noted I I2 m2 (nI 28530) lf rt) : CP I2 m (m2 + 1) B (fun x y z => P x y z || P2 x y z) := by
  have g1 := CP_fr h (fun j hj => hn.1 j (by have := h2.1; omega))
  have g2 := CP_fr h2 hn.1
  have l1 := h.1
  have l2 := h2.1
  refine ⟨by omega, fun ki aw wh q1 q2 q3 x hx => ?_⟩
  have b := bit_le (P ki aw wh)
  have b2 := bit_le (P2 ki aw wh)
  have e := g1.2 ki aw wh q1 q2 q3 x hx
  have e2 := g2.2 ki aw wh q1 q2 q3 (2 * x + bit (P ki aw wh)) (by omega)
  rw [show m2 + 1 - m = (m1 - m) + ((m2 - m1) + 1) by omega, cev_add, e, cev_add, show m + (m1 - m) = m1 by omega, e2, cev_1, show m1 + (m2 - m1) = m2 by omega, hn.2.1]
  show cst1 0 0 0 28530 0 0 _ = _
  rw [st_or _ (by omega)]
  show _ = nI (2 * x + bit (P ki aw wh || P2 ki aw wh))
  cases P ki aw wh <;> cases P2 ki aw wh
  · show nI (2 * ((2 * (2 * x + 0) + 0) / 4) + (if (2 * (2 * x + 0) + 0) / 2 % 2 = 1 ∨ (2 * (2 * x + 0) + 0) % 2 = 1 then 1 else 0)) = nI (2 * x + 0)
    rw [if_neg (by omega)]; congr 1; omega
  · show nI (2 * ((2 * (2 * x + 0) + 1) / 4) + (if (2 * (2 * x + 0) + 1) / 2 % 2 = 1 ∨ (2 * (2 * x + 0) + 1) % 2 = 1 then 1 else 0)) = nI (2 * x + 1)
    rw [if_pos (by omega)]; congr 1; omega
  · show nI (2 * ((2 * (2 * x + 1) + 0) / 4) + (if (2 * (2 * x + 1) + 0) / 2 % 2 = 1 ∨ (2 * (2 * x + 1) + 0) % 2 = 1 then 1 else 0)) = nI (2 * x + 1)
    rw [if_pos (by omega)]; congr 1; omega
  · show nI (2 * ((2 * (2 * x + 1) + 1) / 4) + (if (2 * (2 * x + 1) + 1) / 2 % 2 = 1 ∨ (2 * (2 * x + 1) + 1) % 2 = 1 then 1 else 0)) = nI (2 * x + 1)
    rw [if_pos (by omega)]; congr 1; omega
theorem CP_cmp {I2 : hI} {I : hI} {m B : Nat} {tp : Nat → Nat} {nt e : Nat} (hB : B ≤ 2048) (h : e ≤ nt) (hb : ∀ j, j < nt → tp j < 256) (h1 : isV (tC tp nt e)) (h2 : 80 ≤ tC tp nt (tE tp nt e) ∧ tC tp nt (tE tp nt e) ≤ 82) (h3 : isV (tC tp nt (tE tp nt (tE tp nt e)))) (hn : noted I I2 m (tI tp nt (tE tp nt e)) (vI tp nt e) (vI tp nt (tE tp nt (tE tp nt e)))) : CP I2 m (m + 1) B (cmpP tp nt e) := by
  have he1 := (tE_rng tp h).2.1
  have he2 := (tE_rng tp he1).2.1
  refine ⟨by omega, fun ki aw wh q1 q2 q3 x hx => ?_⟩
  rw [show m + 1 - m = 1 by omega, cev_1, hn.2.1, hn.2.2.1, hn.2.2.2]
  have a := ask_v (ki := ki) (aw := aw) (wh := wh) h hb h1
  have b := ask_v (ki := ki) (aw := aw) (wh := wh) he2 hb h3
  have v1 := vF_lt (ki := ki) (aw := aw) (wh := wh) h h1 q1 q2 q3
  have v2 := vF_lt (ki := ki) (aw := aw) (wh := wh) he2 h3 q1 q2 q3
  have g := agr_v he1 hb h2 v1 v2
  have n1 : ¬ tI tp nt (tE tp nt e) = 28530 := fun z => by
    have := (tI_3 he1 hb).mp z
    omega
  have n2 : ¬ tI tp nt (tE tp nt e) = 6385252 := fun z => by
    have := (tI_4 he1 hb).mp z
    omega
  have n3 : ¬ tI tp nt (tE tp nt e) = 7237492 := fun z => by
    have := (tI_5 he1 hb).mp z
    omega
  unfold cst1
  rw [if_neg n1, if_neg n2, if_neg n3, a, b, g]
  have s := st_sh x (by omega)
  show _ = nI (2 * x + bit (cmq (tC tp nt (tE tp nt e)) (vF tp nt e ki aw wh) (vF tp nt (tE tp nt (tE tp nt e)) ki aw wh)))
  cases cmq (tC tp nt (tE tp nt e)) (vF tp nt e ki aw wh) (vF tp nt (tE tp nt (tE tp nt e)) ki aw wh)
  · rw [if_neg (by decide)]; exact s.2
  · rw [if_pos rfl]; exact s.1
def NF (I I2 : hI) : Prop := ∃ g58 g59 g60 v55_3, I2 = (upI (upA (upA (upA I 58 g58) 59 g59) 60 g60) 55 3 v55_3)
theorem NF_iff {I I2 : hI} : NF I I2 ↔ (∀ x, x ≠ 58 → x ≠ 59 → x ≠ 60 → x ≠ 55 → I2 x = I x) ∧ ∀ j, j ≠ 3 → I2 55 j = I 55 j := by
  constructor
  · rintro ⟨g58, g59, g60, v55_3, rfl⟩
    refine ⟨fun x h58 h59 h60 h55 => ?_, fun j q3 => ?_⟩
    · simp [upA, upI, h58, h59, h60, h55]
    · simp [upA, upI, upd, q3]
  · rintro ⟨h, f55⟩
    refine ⟨I2 58, I2 59, I2 60, I2 55 3, ?_⟩
    funext x
    by_cases e58 : x = 58
    · subst e58; simp [upA, upI]
    · skip
      by_cases e59 : x = 59
      · subst e59; simp [upA, upI]
      · skip
        by_cases e60 : x = 60
        · subst e60; simp [upA, upI]
        · skip
          by_cases e55 : x = 55
          · subst e55
            funext j
            by_cases q3 : j = 3
            · subst q3; simp [upA, upI, upd]
            · skip
              simp [upA, upI, upd, q3, f55 j q3]
          · skip
            simp [upA, upI, e58, e59, e60, e55, h x e58 e59 e60 e55]
theorem NF_id (I : hI) : NF I I := NF_iff.mpr ⟨fun x _ _ _ _ => rfl, fun j _ => rfl⟩
theorem NF_tr {I I2 I3 : hI} (k1 : NF I I2) (k2 : NF I2 I3) : NF I I3 := NF_iff.mpr ⟨fun x h58 h59 h60 h55 => ((NF_iff.mp k2).1 x h58 h59 h60 h55).trans ((NF_iff.mp k1).1 x h58 h59 h60 h55), fun j q3 => ((NF_iff.mp k2).2 j q3).trans ((NF_iff.mp k1).2 j q3)⟩
theorem c_note {l : Launch} {dp : Nat} {m : Nat} {sg lf rt : Int32} {I : hI} {J : hJ} {lt : Option Nat} {Q : hQ} (hm : I 55 3 = nI m) (hm1 : m < 100) (hQ : ∀ I2, NF I I2 → I2 55 3 = nI (m + 1) → noted I I2 m sg lf rt → Q none hSH I2 J (hRR lt (some 61)))  : HC l mX3_note dp 0 0 [.ref 55, .int sg, .int lf, .int rt] hSH I J (hRR lt (some 61)) Q := by
  refine HC.of (by decide +kernel) rfl (Nat.le_of_ble_eq_true rfl) ?_
  show HV l mX3_note dp 0 0 0 [some (.ref 55), some (.int sg), some (.int lf), some (.int rt)] [] hSH I J (hRR lt (some 61)) Q
  refine h_aload_n dX3_note_0 rfl ?_
  refine h_getI dX3_note_1 f_X3_22_3 rfl (show _ = nI m from hm) ?_
  refine h_bipush dX3_note_4 cb_100 ?_
  refine h_icmpge (tgt := 49) dX3_note_6 rfl (fun c_6 => ?_) (fun c_6 => ?_)
  · rw [nI_leI (by omega) (by omega)] at c_6
    omega
  · rw [nI_leI (by omega) (by omega)] at c_6
    refine h_aload_n dX3_note_9 rfl ?_
    refine h_getR dX3_note_10 f_X3_25_3 rfl rfl ?_
    refine h_aload_n dX3_note_13 rfl ?_
    refine h_getI dX3_note_14 f_X3_22_3 rfl (show _ = nI m from hm) ?_
    refine h_iload_n dX3_note_17 rfl ?_
    refine h_iastN (j := m) dX3_note_18 rfl rfl (by omega) rfl ?_
    refine h_aload_n dX3_note_19 rfl ?_
    refine h_getR dX3_note_20 f_X3_28_3 rfl rfl ?_
    refine h_aload_n dX3_note_23 rfl ?_
    refine h_getI dX3_note_24 f_X3_22_3 rfl (show _ = nI m from hm) ?_
    refine h_iload_n dX3_note_27 rfl ?_
    refine h_iastN (j := m) dX3_note_28 rfl rfl (by omega) rfl ?_
    refine h_aload_n dX3_note_29 rfl ?_
    refine h_getR dX3_note_30 f_X3_31_3 rfl rfl ?_
    refine h_aload_n dX3_note_33 rfl ?_
    refine h_getI dX3_note_34 f_X3_22_3 rfl (show _ = nI m from hm) ?_
    refine h_iload_n dX3_note_37 rfl ?_
    refine h_iastN (j := m) dX3_note_38 rfl rfl (by omega) rfl ?_
    refine h_aload_n dX3_note_39 rfl ?_
    refine h_dup dX3_note_40 rfl ?_
    refine h_getI dX3_note_41 f_X3_22_3 rfl (show _ = nI m from hm) ?_
    refine h_iconst dX3_note_44 ci_1 ?_
    refine h_iaddN dX3_note_45 ?_
    refine h_putI dX3_note_46 f_X3_22_3 p_X3_3_3 (fun h => by cases h) rfl ?_
    refine h_return dX3_note_49 rfl ?_
    exact hQ _ (NF_iff.mpr ⟨fun x h58 h59 h60 h55 => by simp [upI, h58, h59, h60, h55], fun j q3 => by simp [upI, upd, q3]⟩) rfl ⟨fun j hj => ⟨upd_n _ _ (by omega), upd_n _ _ (by omega), upd_n _ _ (by omega)⟩, upd_s _ _ _, upd_s _ _ _, upd_s _ _ _⟩
theorem c_noteF {l : Launch} {dp : Nat} {m : Nat} {sg lf rt : Int32} {I : hI} {J : hJ} {lt : Option Nat} {Q : hQ} (hm : I 55 3 = nI m) (hm1 : m ≤ 100) (hQ : ∀ I2 m2, NF I I2 → I2 55 3 = nI m2 → m2 ≤ 100 → Q none hSH I2 J (hRR lt (some 61)))  : HC l mX3_note dp 0 0 [.ref 55, .int sg, .int lf, .int rt] hSH I J (hRR lt (some 61)) Q := by
  refine HC.of (by decide +kernel) rfl (Nat.le_of_ble_eq_true rfl) ?_
  show HV l mX3_note dp 0 0 0 [some (.ref 55), some (.int sg), some (.int lf), some (.int rt)] [] hSH I J (hRR lt (some 61)) Q
  refine h_aload_n dX3_note_0 rfl ?_
  refine h_getI dX3_note_1 f_X3_22_3 rfl (show _ = nI m from hm) ?_
  refine h_bipush dX3_note_4 cb_100 ?_
  refine h_icmpge (tgt := 49) dX3_note_6 rfl (fun c_6 => ?_) (fun c_6 => ?_)
  · rw [nI_leI (by omega) (by omega)] at c_6
    refine h_return dX3_note_49 rfl ?_
    exact hQ _ m (NF_id I) hm hm1
  · rw [nI_leI (by omega) (by omega)] at c_6
    refine h_aload_n dX3_note_9 rfl ?_
    refine h_getR dX3_note_10 f_X3_25_3 rfl rfl ?_
    refine h_aload_n dX3_note_13 rfl ?_
    refine h_getI dX3_note_14 f_X3_22_3 rfl (show _ = nI m from hm) ?_
    refine h_iload_n dX3_note_17 rfl ?_
    refine h_iastN (j := m) dX3_note_18 rfl rfl (by omega) rfl ?_
    refine h_aload_n dX3_note_19 rfl ?_
    refine h_getR dX3_note_20 f_X3_28_3 rfl rfl ?_
    refine h_aload_n dX3_note_23 rfl ?_
    refine h_getI dX3_note_24 f_X3_22_3 rfl (show _ = nI m from hm) ?_
    refine h_iload_n dX3_note_27 rfl ?_
    refine h_iastN (j := m) dX3_note_28 rfl rfl (by omega) rfl ?_
    refine h_aload_n dX3_note_29 rfl ?_
    refine h_getR dX3_note_30 f_X3_31_3 rfl rfl ?_
    refine h_aload_n dX3_note_33 rfl ?_
    refine h_getI dX3_note_34 f_X3_22_3 rfl (show _ = nI m from hm) ?_
    refine h_iload_n dX3_note_37 rfl ?_
    refine h_iastN (j := m) dX3_note_38 rfl rfl (by omega) rfl ?_
    refine h_aload_n dX3_note_39 rfl ?_
    refine h_dup dX3_note_40 rfl ?_
    refine h_getI dX3_note_41 f_X3_22_3 rfl (show _ = nI m from hm) ?_
    refine h_iconst dX3_note_44 ci_1 ?_
    refine h_iaddN dX3_note_45 ?_
    refine h_putI dX3_note_46 f_X3_22_3 p_X3_3_3 (fun h => by cases h) rfl ?_
    refine h_return dX3_note_49 rfl ?_
    exact hQ _ (m + 1) (NF_iff.mpr ⟨fun x h58 h59 h60 h55 => by simp [upI, h58, h59, h60, h55], fun j q3 => by simp [upI, upd, q3]⟩) rfl (by omega)
theorem c_fail {l : Launch} {dp : Nat} {f : Nat} {I : hI} {J : hJ} {lt : Option Nat} {Q : hQ} (hf : I 55 13 = -1) (hs : I 55 9 = nI f) (hQ : Q none hSH (upI I 55 13 (nI f)) J (hRR lt (some 61)))  : HC l mX3_fail dp 0 0 [.ref 55] hSH I J (hRR lt (some 61)) Q := by
  refine HC.of (by decide +kernel) rfl (Nat.le_of_ble_eq_true rfl) ?_
  show HV l mX3_fail dp 0 0 0 [some (.ref 55)] [] hSH I J (hRR lt (some 61)) Q
  refine h_aload_n dX3_fail_0 rfl ?_
  refine h_getI dX3_fail_1 f_X3_53_3 rfl hf ?_
  refine h_iconst dX3_fail_4 ci_m1 ?_
  refine h_icmpne (tgt := 16) dX3_fail_5 rfl (fun c => absurd (by decide) c) (fun _ => ?_)
  refine h_aload_n dX3_fail_8 rfl ?_
  refine h_aload_n dX3_fail_9 rfl ?_
  refine h_getI dX3_fail_10 f_X3_41_3 rfl hs ?_
  refine h_putI dX3_fail_13 f_X3_53_3 p_X3_3_13 (fun h => by cases h) rfl ?_
  refine h_return dX3_fail_16 rfl ?_
  exact hQ
theorem c_isValue {l : Launch} {dp : Nat} {tp : Nat → Nat} {nt e : Nat} {I : hI} {J : hJ} {lt : Option Nat} {Q : hQ} (h : e ≤ nt) (hb : ∀ j, j < nt → tp j < 256) (hT : I 55 11 = tI tp nt e) (h1 : isV (tC tp nt e) → Q (some (.int (nI 1))) hSH I J (hRR lt (some 61))) (h0 : ¬ isV (tC tp nt e) → Q (some (.int (nI 0))) hSH I J (hRR lt (some 61)))  : HC l mX3_isValue dp 0 0 [.ref 55] hSH I J (hRR lt (some 61)) Q := by
  refine HC.of (by decide +kernel) rfl (Nat.le_of_ble_eq_true rfl) ?_
  show HV l mX3_isValue dp 0 0 0 [some (.ref 55)] [] hSH I J (hRR lt (some 61)) Q
  refine h_aload_n dX3_isValue_0 rfl ?_
  refine h_getI dX3_isValue_1 f_X3_47_3 rfl hT ?_
  refine h_bipush dX3_isValue_4 cb_m2 ?_
  refine h_icmpeq (tgt := 45) dX3_isValue_6 rfl (fun c_6 => ?_) (fun c_6 => ?_)
  · refine h_iconst dX3_isValue_45 ci_1 ?_
    refine h_goto (tgt := 50) dX3_isValue_46 rfl ?_
    refine h_zreturn dX3_isValue_50 rfl (by decide) ?_
    exact h1 (.inr ((tI_num h hb).mp c_6))
  · refine h_aload_n dX3_isValue_9 rfl ?_
    refine h_getI dX3_isValue_10 f_X3_47_3 rfl hT ?_
    refine h_ldc (v := nI 1751474548) dX3_isValue_13 k4_2 ?_
    refine h_icmpeq (tgt := 45) dX3_isValue_15 rfl (fun c_15 => ?_) (fun c_15 => ?_)
    · refine h_iconst dX3_isValue_45 ci_1 ?_
      refine h_goto (tgt := 50) dX3_isValue_46 rfl ?_
      refine h_zreturn dX3_isValue_50 rfl (by decide) ?_
      exact h1 (.inl (by have := (tI_6 h hb).mp c_15; omega))
    · refine h_aload_n dX3_isValue_18 rfl ?_
      refine h_getI dX3_isValue_19 f_X3_47_3 rfl hT ?_
      refine h_ldc (v := nI 1752135026) dX3_isValue_22 k4_3 ?_
      refine h_icmpeq (tgt := 45) dX3_isValue_24 rfl (fun c_24 => ?_) (fun c_24 => ?_)
      · refine h_iconst dX3_isValue_45 ci_1 ?_
        refine h_goto (tgt := 50) dX3_isValue_46 rfl ?_
        refine h_zreturn dX3_isValue_50 rfl (by decide) ?_
        exact h1 (.inl (by have := (tI_7 h hb).mp c_24; omega))
      · refine h_aload_n dX3_isValue_27 rfl ?_
        refine h_getI dX3_isValue_28 f_X3_47_3 rfl hT ?_
        refine h_ldc (v := nI 1635213689) dX3_isValue_31 k4_4 ?_
        refine h_icmpeq (tgt := 45) dX3_isValue_33 rfl (fun c_33 => ?_) (fun c_33 => ?_)
        · refine h_iconst dX3_isValue_45 ci_1 ?_
          refine h_goto (tgt := 50) dX3_isValue_46 rfl ?_
          refine h_zreturn dX3_isValue_50 rfl (by decide) ?_
          exact h1 (.inl (by have := (tI_8 h hb).mp c_33; omega))
        · refine h_aload_n dX3_isValue_36 rfl ?_
          refine h_getI dX3_isValue_37 f_X3_47_3 rfl hT ?_
          refine h_ldc (v := nI 1802071652) dX3_isValue_40 k4_5 ?_
          refine h_icmpne (tgt := 49) dX3_isValue_42 rfl (fun c_42 => ?_) (fun c_42 => ?_)
          · refine h_iconst dX3_isValue_49 ci_0 ?_
            refine h_zreturn dX3_isValue_50 rfl (by decide) ?_
            exact h0 (fun z => by
              have a1 := fun q => c_6 ((tI_num h hb).mpr q)
              have a2 := fun q => c_15 ((tI_6 h hb).mpr q)
              have a3 := fun q => c_24 ((tI_7 h hb).mpr q)
              have a4 := fun q => c_33 ((tI_8 h hb).mpr q)
              have a5 := fun q => c_42 ((tI_9 h hb).mpr q)
              rcases z with z | z
              · by_cases z6 : tC tp nt e = 6
                · exact a2 z6
                · by_cases z7 : tC tp nt e = 7
                  · exact a3 z7
                  · by_cases z8 : tC tp nt e = 8
                    · exact a4 z8
                    · exact a5 (by omega)
              · exact a1 z)
          · refine h_iconst dX3_isValue_45 ci_1 ?_
            refine h_goto (tgt := 50) dX3_isValue_46 rfl ?_
            refine h_zreturn dX3_isValue_50 rfl (by decide) ?_
            exact h1 (.inl (by have := (tI_9 h hb).mp c_42; omega))
