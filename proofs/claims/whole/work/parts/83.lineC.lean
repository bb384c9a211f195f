def pq (p : Option qP) : qP := match p with
  | none => fun _ _ _ => true
  | some p => p
def upq (f : Nat → qP) (k : Nat) (v : qP) : Nat → qP := fun x => if x = k then v else f x
/-- the class's draft holds n lines, m steps -/
def DR (I : hI) (n m : Nat) (bw : Nat → Nat) (qw : Nat → qP) : Prop := I 55 0 = nI n ∧ n ≤ 8 ∧ I 55 3 = nI m ∧ ∃ en : Nat → Nat, stl en n = m ∧ (∀ c, c < n → I 57 c = nI (en c) ∧ en c ≤ m ∧ I 56 c = nI (bw c) ∧ bw c ≤ 99) ∧ ∀ c, c < n → ∀ ki aw wh, ki ≤ 5 → aw ≤ 999 → wh ≤ 2340 → (cev (I 58) (I 59) (I 60) ki aw wh (en c - stl en c) (stl en c) (nI 1) &&& nI 1 = nI 1 ↔ qw c ki aw wh = true)
theorem DR_cL {I : hI} {n m : Nat} {bw : Nat → Nat} {qw : Nat → qP} (h : DR I n m bw qw) (hm : m ≤ 100) : cL I 55 n bw qw := by
  obtain ⟨h1, h2, h3, en, h4, h5, h6⟩ := h
  exact ⟨h1, h2, en, fun c hc => ⟨(h5 c hc).1, by have := (h5 c hc).2.1; omega, (h5 c hc).2.2⟩, h6⟩
theorem stl_le {en : Nat → Nat} {n m c : Nat} (h5 : ∀ c, c < n → en c ≤ m) (hc : c < n) : stl en c ≤ m := by
  unfold stl
  by_cases h : c = 0
  · rw [if_pos h]; omega
  · rw [if_neg h]; exact h5 _ (by omega)
theorem stl_up {en : Nat → Nat} {n c v : Nat} (hc : c ≤ n) : stl (upn en n v) c = stl en c := by
  unfold stl
  by_cases h : c = 0
  · rw [if_pos h, if_pos h]
  · rw [if_neg h, if_neg h]; exact if_neg (by omega)
theorem DR_fr {I I5 : hI} {n m : Nat} {bw : Nat → Nat} {qw : Nat → qP} (hD : DR I n m bw qw) (h0 : I5 55 0 = I 55 0) (h3 : I5 55 3 = I 55 3) (h56 : I5 56 = I 56) (h57 : I5 57 = I 57) (h58 : I5 58 = I 58) (h59 : I5 59 = I 59) (h60 : I5 60 = I 60) : DR I5 n m bw qw := by
  unfold DR
  rw [h0, h3, h56, h57, h58, h59, h60]
  exact hD
theorem DR_ln {I I5 : hI} {n m m2 b : Nat} {bw : Nat → Nat} {qw : Nat → qP} {p : Option qP} (hD : DR I n m bw qw) (hn : n < 8) (hb : b ≤ 99) (h56 : I5 56 = I 56) (h57 : I5 57 = I 57) (hm : I5 55 3 = nI m2) (hP : PB I I5 m) (hmm : m ≤ m2) (hp : ∀ ki aw wh, ki ≤ 5 → aw ≤ 999 → wh ≤ 2340 → (cev (I5 58) (I5 59) (I5 60) ki aw wh (m2 - m) m (nI 1) &&& nI 1 = nI 1 ↔ pq p ki aw wh = true)) : DR (upI (upI (upI I5 56 n (nI b)) 57 n (nI m2)) 55 0 (nI (n + 1))) (n + 1) m2 (upn bw n b) (upq qw n (pq p)) := by
  obtain ⟨h1, h2, h3, en, h4, h5, h6⟩ := hD
  refine ⟨rfl, by omega, hm, upn en n m2, if_pos rfl, fun c hc => ?_, fun c hc ki aw wh q1 q2 q3 => ?_⟩
  · show upd (I5 57) n (nI m2) c = _ ∧ _ ∧ upd (I5 56) n (nI b) c = _ ∧ _
    rw [h56, h57]
    by_cases e : c = n
    · subst e
      exact ⟨(upd_s _ _ _).trans (congrArg nI (if_pos rfl).symm), Nat.le_of_eq (if_pos rfl), (upd_s _ _ _).trans (congrArg nI (if_pos rfl).symm), by rw [show upn bw c b c = b from if_pos rfl]; exact hb⟩
    · obtain ⟨a1, a2, a3, a4⟩ := h5 c (by omega)
      rw [upd_n _ _ e, upd_n _ _ e, show upn en n m2 c = en c from if_neg e, show upn bw n b c = bw c from if_neg e]
      exact ⟨a1, by omega, a3, a4⟩
  · show cev (I5 58) (I5 59) (I5 60) ki aw wh _ _ (nI 1) &&& nI 1 = nI 1 ↔ _
    rw [stl_up (by omega)]
    by_cases e : c = n
    · subst e
      rw [show upn en c m2 c = m2 from if_pos rfl, h4, show upq qw c (pq p) c = pq p from if_pos rfl]
      exact hp ki aw wh q1 q2 q3
    · have a2 := (h5 c (by omega)).2.1
      have a3 := stl_le (fun c hc => (h5 c hc).2.1) (show c < n by omega)
      rw [show upn en n m2 c = en c from if_neg e, show upq qw n (pq p) c = qw c from if_neg e, cev_congr (sg := I 58) (lf := I 59) (rt := I 60) _ _ _ (fun j j1 j2 => hP j (by omega))]
      exact h6 c (by omega) ki aw wh q1 q2 q3
theorem bit_1 {b : Bool} : nI (2 * 1 + bit b) &&& nI 1 = nI 1 ↔ b = true := by cases b <;> decide
theorem CP_1 {I : hI} {m m2 : Nat} {P : qP} (h : CP I m m2 2 P) : ∀ ki aw wh, ki ≤ 5 → aw ≤ 999 → wh ≤ 2340 → (cev (I 58) (I 59) (I 60) ki aw wh (m2 - m) m (nI 1) &&& nI 1 = nI 1 ↔ pq (some P) ki aw wh = true) := fun ki aw wh q1 q2 q3 => by
  rw [h.2 ki aw wh q1 q2 q3 1 (by omega)]
  exact bit_1
theorem CP_0 {I : hI} {m : Nat} : ∀ ki aw wh, ki ≤ 5 → aw ≤ 999 → wh ≤ 2340 → (cev (I 58) (I 59) (I 60) ki aw wh (m - m) m (nI 1) &&& nI 1 = nI 1 ↔ pq none ki aw wh = true) := fun ki aw wh q1 q2 q3 => by
  rw [Nat.sub_self]
  exact ⟨fun _ => rfl, fun _ => by show nI 1 &&& nI 1 = nI 1; decide⟩
def LF (I I2 : hI) : Prop := (∀ a, a < 55 ∨ 60 < a → I2 a = I a) ∧ I2 55 8 = I 55 8
theorem LF_tr {I I2 I3 : hI} (h : LF I I2) (h2 : LF I2 I3) : LF I I3 := ⟨fun a ha => (h2.1 a ha).trans (h.1 a ha), h2.2.trans h.2⟩
theorem LF_id (I : hI) : LF I I := ⟨fun _ _ => rfl, rfl⟩
theorem PF_lf {I I2 : hI} (h : PF I I2) : LF I I2 := ⟨fun a ha => (PF_iff.mp h).1 a (by omega) (by omega) (by omega) (by omega), (PF_iff.mp h).2 8 (by decide) (by decide) (by decide) (by decide) (by decide) (by decide)⟩
theorem CX_lf {I I2 : hI} {tp : Nat → Nat} {nt : Nat} (h : LF I I2) (hX : CX I tp nt) : CX I2 tp nt := by
  refine ⟨hX.1, h.2.trans hX.2.1, fun j hj => ⟨(hX.2.2 j hj).1, ?_⟩⟩
  rw [h.1 61 (by omega)]
  exact (hX.2.2 j hj).2
theorem LN_lf {I : hI} {n : Nat} {u v w : Int32} : LF I (upI (upI (upI I 56 n u) 57 n v) 55 0 w) := ⟨fun a ha => by rw [upI_n _ _ _ (by omega), upI_n _ _ _ (by omega), upI_n _ _ _ (by omega)], rfl⟩
theorem PF_a {I I2 : hI} (h : PF I I2) {a : Nat} (h1 : a < 55 ∨ a = 56 ∨ a = 57 ∨ 60 < a) : I2 a = I a := (PF_iff.mp h).1 a (by omega) (by omega) (by omega) (by omega)
theorem PF_0 {I I2 : hI} (h : PF I I2) : I2 55 0 = I 55 0 := (PF_iff.mp h).2 0 (by decide) (by decide) (by decide) (by decide) (by decide) (by decide)
theorem CT_ln {I : hI} {tp : Nat → Nat} {nt e n : Nat} {u v w : Int32} (hT : CT I tp nt e) : CT (upI (upI (upI I 56 n u) 57 n v) 55 0 w) tp nt e := hT
theorem c_readLine {l : Launch} {dp : Nat} {tp : Nat → Nat} {nt e m n : Nat} {bw : Nat → Nat} {qw : Nat → qP} {I : hI} {J : hJ} {lt : Option Nat} {Q : hQ} (hX : CX I tp nt) (h : e ≤ nt) (hT : CT I tp nt e) (hf : I 55 13 = -1) (hD : DR I n m bw qw) (h5 : 5 * m ≤ 2 * e) (hF : ∀ I2 f, lnF tp nt n e = Sum.inl f → f ≤ 200 → LF I I2 → I2 55 13 = nI f → Q none hSH I2 J (hRR lt (some 61))) (hO : ∀ I2 e2 b p m2, lnF tp nt n e = Sum.inr (e2, b, p) → e2 ≤ nt → 5 * m2 ≤ 2 * e2 → LF I I2 → CT I2 tp nt e2 → I2 55 13 = -1 → DR I2 (n + 1) m2 (upn bw n b) (upq qw n (pq p)) → Q none hSH I2 J (hRR lt (some 61)))  : HC l mX3_readLine (dp + 17) 0 0 [.ref 55] hSH I J (hRR lt (some 61)) Q := by
  refine HC.of (by decide +kernel) rfl (Nat.le_of_ble_eq_true rfl) ?_
  show HV l mX3_readLine (dp + 17) 0 0 0 [some (.ref 55), none] [] hSH I J (hRR lt (some 61)) Q
  have hb : ∀ j, j < nt → tp j < 256 := fun j hj => (hX.2.2 j hj).1
  have h200 := hX.1
  have hm := hD.2.2.1
  have hn8 := hD.2.1
  have he1 := (tE_rng tp h).2.1
  have he2 := (tE_rng tp he1).2.1
  have he3 := (tE_rng tp he2).2.1
  have s0 := tk_rng tp h
  have s1 := (tk_rng tp he1).1
  have s2 := (tk_rng tp he2).1
  have l0 := (tE_rng tp h).1
  have l1 := (tE_rng tp he1).1
  have l2 := (tE_rng tp he2).1
  refine h_aload_n dX3_readLine_0 rfl ?_
  refine h_getI dX3_readLine_1 f_X3_47_3 rfl hT.2.2.1 ?_
  refine h_ldc (v := nI 1650814564) dX3_readLine_4 k3_212 ?_
  refine h_icmpne (tgt := 18) dX3_readLine_6 rfl (fun c_6 => ?_) (fun c_6 => ?_)
  · refine h_aload_n dX3_readLine_18 rfl ?_
    refine h_cV0 dX3_readLine_19 k3_213 oVX3_fail rfl rfl ?_
    refine c_fail hf hT.1 ?_
    refine h_return dX3_readLine_22 rfl ?_
    exact hF _ _ (ln_1 (fun z => c_6 ((tI_1 h hb).mpr z.1))) (by omega) (PF_lf FF_pf) rfl
  · refine h_aload_n dX3_readLine_9 rfl ?_
    refine h_getI dX3_readLine_10 f_X3_9_3 rfl hD.1 ?_
    refine h_bipush dX3_readLine_13 cb_8 ?_
    refine h_icmplt (tgt := 23) dX3_readLine_15 rfl (fun c_15 => ?_) (fun c_15 => ?_)
    · rw [nI_ltI (by omega) (by omega)] at c_15
      refine h_aload_n dX3_readLine_23 rfl ?_
      refine h_cV0 dX3_readLine_24 k3_204 oVX3_step rfl rfl ?_
      have hnn : n < 8 := by omega
      have hl1 : tC tp nt e = 1 ∧ n < 8 := ⟨(tI_1 h hb).mp c_6, hnn⟩
      refine c_step hX hT.2.1 he1 (fun I2 hS2 hT2 => ?_)
      have hX2 := CX_pf (SF_pf hS2) hX
      have hf2 : I2 55 13 = -1 := (SF_k hS2 (by decide) (by decide) (by decide) (by decide)).trans hf
      have hm2 : I2 55 3 = nI m := (SF_k hS2 (by decide) (by decide) (by decide) (by decide)).trans hm
      have hP2 : PF I I2 := SF_pf hS2
      have hn2 : I2 55 0 = nI n := (PF_0 hP2).trans hD.1
      refine h_aload_n dX3_readLine_27 rfl ?_
      refine h_getI dX3_readLine_28 f_X3_47_3 rfl hT2.2.2.1 ?_
      refine h_bipush dX3_readLine_31 cb_m2 ?_
      refine h_icmpne (tgt := 45) dX3_readLine_33 rfl (fun c_33 => ?_) (fun c_33 => ?_)
      · refine h_aload_n dX3_readLine_45 rfl ?_
        refine h_cV0 dX3_readLine_46 k3_213 oVX3_fail rfl rfl ?_
        refine c_fail hf2 hT2.1 ?_
        refine h_return dX3_readLine_49 rfl ?_
        exact hF _ _ (ln_2 hl1 (fun z => c_33 ((tI_num he1 hb).mpr z.1))) (by have := (tk_rng tp he1).2.1; omega) (PF_lf (PF_tr hP2 FF_pf)) rfl
      · have t11c := (tI_num he1 hb).mp c_33
        have t11 := tC_11 he1 t11c
        refine h_aload_n dX3_readLine_36 rfl ?_
        refine h_getI dX3_readLine_37 f_X3_50_3 rfl (hT2.2.2.2.2 t11.1 t11.2.1 t11.2.2.1) ?_
        refine h_bipush dX3_readLine_40 cb_99 ?_
        refine h_icmple (tgt := 50) dX3_readLine_42 rfl (fun c_42 => ?_) (fun c_42 => ?_)
        · rw [nI_leI (by omega) (by omega)] at c_42
          refine h_aload_n dX3_readLine_50 rfl ?_
          refine h_getI dX3_readLine_51 f_X3_50_3 rfl (hT2.2.2.2.2 t11.1 t11.2.1 t11.2.2.1) ?_
          refine h_istore_n dX3_readLine_54 (Nat.le_of_ble_eq_true rfl) ?_
          refine h_aload_n dX3_readLine_55 rfl ?_
          refine h_cV0 dX3_readLine_56 k3_204 oVX3_step rfl rfl ?_
          have hl2 : tC tp nt (tE tp nt e) = 11 ∧ tV tp nt (tE tp nt e) ≤ 99 := ⟨t11c, by omega⟩
          refine c_step hX2 hT2.2.1 he2 (fun I3 hS3 hT3 => ?_)
          have hX3 := CX_pf (SF_pf hS3) hX2
          have hf3 : I3 55 13 = -1 := (SF_k hS3 (by decide) (by decide) (by decide) (by decide)).trans hf2
          have hm3 : I3 55 3 = nI m := (SF_k hS3 (by decide) (by decide) (by decide) (by decide)).trans hm2
          have hP3 : PF I I3 := PF_tr hP2 (SF_pf hS3)
          have hn3 : I3 55 0 = nI n := (PF_0 hP3).trans hD.1
          refine h_aload_n dX3_readLine_59 rfl ?_
          refine h_getI dX3_readLine_60 f_X3_47_3 rfl hT3.2.2.1 ?_
          refine h_sipush dX3_readLine_63 cs_26982 ?_
          refine h_icmpne (tgt := 78) dX3_readLine_66 rfl (fun c_66 => ?_) (fun c_66 => ?_)
          · have hl3 : ¬ tC tp nt (tE tp nt (tE tp nt e)) = 2 := fun z => c_66 ((tI_2 he2 hb).mpr z)
            refine h_aload_n dX3_readLine_78 rfl ?_
            refine h_getI dX3_readLine_79 f_X3_53_3 rfl hf3 ?_
            refine h_iconst dX3_readLine_82 ci_m1 ?_
            refine h_icmpeq (tgt := 87) dX3_readLine_83 rfl (fun _ => ?_) (fun c => absurd (by decide) c)
            refine h_aload_n dX3_readLine_87 rfl ?_
            refine h_getI dX3_readLine_88 f_X3_47_3 rfl hT3.2.2.1 ?_
            refine h_bipush dX3_readLine_91 cb_59 ?_
            refine h_icmpeq (tgt := 101) dX3_readLine_93 rfl (fun c_93 => ?_) (fun c_93 => ?_)
            · refine h_aload_n dX3_readLine_101 rfl ?_
              refine h_cV0 dX3_readLine_102 k3_204 oVX3_step rfl rfl ?_
              refine c_step hX3 hT3.2.1 (tE_rng tp he2).2.1 (fun I6 hS6 hT6 => ?_)
              have hf6 : I6 55 13 = -1 := (SF_k hS6 (by decide) (by decide) (by decide) (by decide)).trans hf3
              have hm6 : I6 55 3 = nI m := (SF_k hS6 (by decide) (by decide) (by decide) (by decide)).trans hm3
              have hn6 : I6 55 0 = nI n := (SF_k hS6 (by decide) (by decide) (by decide) (by decide)).trans hn3
              refine h_aload_n dX3_readLine_105 rfl ?_
              refine h_getR dX3_readLine_106 f_X3_15_3 rfl rfl ?_
              refine h_aload_n dX3_readLine_109 rfl ?_
              refine h_getI dX3_readLine_110 f_X3_9_3 rfl (show _ = nI n from hn6) ?_
              refine h_iload_n dX3_readLine_113 rfl ?_
              refine h_iastN (j := n) dX3_readLine_114 rfl rfl (by omega) rfl ?_
              refine h_aload_n dX3_readLine_115 rfl ?_
              refine h_getR dX3_readLine_116 f_X3_19_3 rfl rfl ?_
              refine h_aload_n dX3_readLine_119 rfl ?_
              refine h_getI dX3_readLine_120 f_X3_9_3 rfl (show _ = nI n from hn6) ?_
              refine h_aload_n dX3_readLine_123 rfl ?_
              refine h_getI dX3_readLine_124 f_X3_22_3 rfl (show _ = nI m from hm6) ?_
              refine h_iastN (j := n) dX3_readLine_127 rfl rfl (by omega) rfl ?_
              refine h_aload_n dX3_readLine_128 rfl ?_
              refine h_dup dX3_readLine_129 rfl ?_
              refine h_getI dX3_readLine_130 f_X3_9_3 rfl (show _ = nI n from hn6) ?_
              refine h_iconst dX3_readLine_133 ci_1 ?_
              refine h_iaddN dX3_readLine_134 ?_
              refine h_putI dX3_readLine_135 f_X3_9_3 p_X3_3_0 (fun h => by cases h) rfl ?_
              refine h_return dX3_readLine_138 rfl ?_
              have hc9 := (tI_m59 he2 hb).mp c_93
              exact hO _ _ _ _ m (ln_4 hl1 hl2 hc9) (tE_rng tp he2).2.1 (by omega) (LF_tr (PF_lf (PF_tr hP3 (SF_pf hS6))) LN_lf) (CT_ln hT6) hf6 (DR_ln hD hnn hl2.2 (PF_a (PF_tr hP3 (SF_pf hS6)) (by omega)) (PF_a (PF_tr hP3 (SF_pf hS6)) (by omega)) hm6 (PB_tr (PB_tr (SF_b hS2 m) (SF_b hS3 m) (Nat.le_refl m)) (SF_b hS6 m) (Nat.le_refl m)) (Nat.le_refl m) CP_0)
            · refine h_aload_n dX3_readLine_96 rfl ?_
              refine h_cV0 dX3_readLine_97 k3_213 oVX3_fail rfl rfl ?_
              refine c_fail hf3 hT3.1 ?_
              refine h_return dX3_readLine_100 rfl ?_
              exact hF _ _ (ln_3 hl1 hl2 hl3 (fun z => c_93 ((tI_m59 he2 hb).mpr z))) (by have := (tk_rng tp he2).2.1; omega) (PF_lf (PF_tr hP3 FF_pf)) rfl
          · refine h_aload_n dX3_readLine_69 rfl ?_
            refine h_cV0 dX3_readLine_70 k3_204 oVX3_step rfl rfl ?_
            have hl3 : tC tp nt (tE tp nt (tE tp nt e)) = 2 := (tI_2 he2 hb).mp c_66
            refine c_step hX3 hT3.2.1 he3 (fun I4 hS4 hT4 => ?_)
            have hX4 := CX_pf (SF_pf hS4) hX3
            have hf4 : I4 55 13 = -1 := (SF_k hS4 (by decide) (by decide) (by decide) (by decide)).trans hf3
            have hm4 : I4 55 3 = nI m := (SF_k hS4 (by decide) (by decide) (by decide) (by decide)).trans hm3
            have hP4 : PF I I4 := PF_tr hP3 (SF_pf hS4)
            have hn4 : I4 55 0 = nI n := (PF_0 hP4).trans hD.1
            refine h_aload_n dX3_readLine_73 rfl ?_
            refine h_iconst dX3_readLine_74 ci_0 ?_
            refine h_cV1 dX3_readLine_75 k3_217 oVX3_readCond rfl rfl ?_
            refine rcW_3 tp nt (tE tp nt (tE tp nt (tE tp nt e))) m (nt + 1) 2 0 [] _ I4 J lt _ hX4 he3 hT4 hf4 hm4 (by omega) (by omega) (by decide) rfl rfl rfl (fun I5 f m5 hrf hf200 hP5 hf5 hm5 hm5b => ?_) (fun I5 e5 N5 m5 o5 a5 v5 hr5 n3 n4 hN5 he5 hP5 hT5 hf5 hm5 hq5 hb5 hc5 => ?_)
            · refine h_aload_n dX3_readLine_78 rfl ?_
              refine h_getI dX3_readLine_79 f_X3_53_3 rfl hf5 ?_
              refine h_iconst dX3_readLine_82 ci_m1 ?_
              refine h_icmpeq (tgt := 87) dX3_readLine_83 rfl (fun c_83 => ?_) (fun c_83 => ?_)
              · exact absurd c_83 (nI_nn (by omega) (by decide))
              · refine h_return dX3_readLine_86 rfl ?_
                exact hF _ f (ln_5 hl1 hl2 hl3 hrf) hf200 (PF_lf (PF_tr hP4 hP5)) hf5
            · have hX5 := CX_pf hP5 hX4
              have hn5 : I5 55 0 = nI n := (PF_0 hP5).trans hn4
              obtain ⟨N5, rfl⟩ : ∃ q, N5 = q + 1 := ⟨N5 - 1, by omega⟩
              rw [run_end n4 n3] at hr5
              have hr5 := hr5.symm
              refine h_aload_n dX3_readLine_78 rfl ?_
              refine h_getI dX3_readLine_79 f_X3_53_3 rfl hf5 ?_
              refine h_iconst dX3_readLine_82 ci_m1 ?_
              refine h_icmpeq (tgt := 87) dX3_readLine_83 rfl (fun _ => ?_) (fun c => absurd (by decide) c)
              refine h_aload_n dX3_readLine_87 rfl ?_
              refine h_getI dX3_readLine_88 f_X3_47_3 rfl hT5.2.2.1 ?_
              refine h_bipush dX3_readLine_91 cb_59 ?_
              refine h_icmpeq (tgt := 101) dX3_readLine_93 rfl (fun c_93 => ?_) (fun c_93 => ?_)
              · refine h_aload_n dX3_readLine_101 rfl ?_
                refine h_cV0 dX3_readLine_102 k3_204 oVX3_step rfl rfl ?_
                refine c_step hX5 hT5.2.1 (tE_rng tp he5).2.1 (fun I6 hS6 hT6 => ?_)
                have hf6 : I6 55 13 = -1 := (SF_k hS6 (by decide) (by decide) (by decide) (by decide)).trans hf5
                have hm6 : I6 55 3 = nI m5 := (SF_k hS6 (by decide) (by decide) (by decide) (by decide)).trans hm5
                have hn6 : I6 55 0 = nI n := (SF_k hS6 (by decide) (by decide) (by decide) (by decide)).trans hn5
                refine h_aload_n dX3_readLine_105 rfl ?_
                refine h_getR dX3_readLine_106 f_X3_15_3 rfl rfl ?_
                refine h_aload_n dX3_readLine_109 rfl ?_
                refine h_getI dX3_readLine_110 f_X3_9_3 rfl (show _ = nI n from hn6) ?_
                refine h_iload_n dX3_readLine_113 rfl ?_
                refine h_iastN (j := n) dX3_readLine_114 rfl rfl (by omega) rfl ?_
                refine h_aload_n dX3_readLine_115 rfl ?_
                refine h_getR dX3_readLine_116 f_X3_19_3 rfl rfl ?_
                refine h_aload_n dX3_readLine_119 rfl ?_
                refine h_getI dX3_readLine_120 f_X3_9_3 rfl (show _ = nI n from hn6) ?_
                refine h_aload_n dX3_readLine_123 rfl ?_
                refine h_getI dX3_readLine_124 f_X3_22_3 rfl (show _ = nI m5 from hm6) ?_
                refine h_iastN (j := n) dX3_readLine_127 rfl rfl (by omega) rfl ?_
                refine h_aload_n dX3_readLine_128 rfl ?_
                refine h_dup dX3_readLine_129 rfl ?_
                refine h_getI dX3_readLine_130 f_X3_9_3 rfl (show _ = nI n from hn6) ?_
                refine h_iconst dX3_readLine_133 ci_1 ?_
                refine h_iaddN dX3_readLine_134 ?_
                refine h_putI dX3_readLine_135 f_X3_9_3 p_X3_3_0 (fun h => by cases h) rfl ?_
                refine h_return dX3_readLine_138 rfl ?_
                have hc9 := (tI_m59 he5 hb).mp c_93
                have l5 := (tE_rng tp he5).2.2.1 (by omega)
                have s5 := (tk_rng tp he5).1
                exact hO _ _ _ _ m5 (ln_7 hl1 hl2 hl3 hr5 hc9) (tE_rng tp he5).2.1 (by omega) (LF_tr (PF_lf (PF_tr hP4 (PF_tr hP5 (SF_pf hS6)))) LN_lf) (CT_ln hT6) hf6 (DR_ln hD hnn hl2.2 (PF_a (PF_tr hP4 (PF_tr hP5 (SF_pf hS6))) (by omega)) (PF_a (PF_tr hP4 (PF_tr hP5 (SF_pf hS6))) (by omega)) hm6 (PB_tr (PB_tr (PB_tr (PB_tr (PB_tr (SF_b hS2 m) (SF_b hS3 m) (Nat.le_refl m)) (SF_b hS4 m) (Nat.le_refl m)) (fun j hj => hb5 j hj) (Nat.le_refl m)) (SF_b hS6 m) (Nat.le_refl m)) (fun _ _ => ⟨rfl, rfl, rfl⟩) (Nat.le_refl m)) hc5.1 (CP_1 (CP_fr hc5 (SF_b hS6 m5))))
              · refine h_aload_n dX3_readLine_96 rfl ?_
                refine h_cV0 dX3_readLine_97 k3_213 oVX3_fail rfl rfl ?_
                refine c_fail hf5 hT5.1 ?_
                refine h_return dX3_readLine_100 rfl ?_
                exact hF _ _ (ln_6 hl1 hl2 hl3 hr5 (fun z => c_93 ((tI_m59 he5 hb).mpr z))) (by have := (tk_rng tp he5).2.1; omega) (PF_lf (PF_tr hP4 (PF_tr hP5 FF_pf))) rfl
        · rw [nI_leI (by omega) (by omega)] at c_42
          refine h_aload_n dX3_readLine_45 rfl ?_
          refine h_cV0 dX3_readLine_46 k3_213 oVX3_fail rfl rfl ?_
          refine c_fail hf2 hT2.1 ?_
          refine h_return dX3_readLine_49 rfl ?_
          exact hF _ _ (ln_2 hl1 (fun z => absurd z.2 (by omega))) (by have := (tk_rng tp he1).2.1; omega) (PF_lf (PF_tr hP2 FF_pf)) rfl
    · rw [nI_ltI (by omega) (by omega)] at c_15
      refine h_aload_n dX3_readLine_18 rfl ?_
      refine h_cV0 dX3_readLine_19 k3_213 oVX3_fail rfl rfl ?_
      refine c_fail hf hT.1 ?_
      refine h_return dX3_readLine_22 rfl ?_
      exact hF _ _ (ln_1 (fun z => absurd z.2 (by omega))) (by omega) (PF_lf FF_pf) rfl
