def RM (I I2 : hI) : Prop := ∃ g97 g98 g99 g100 v82_22 v82_23 v82_24 v82_25 v82_27 v82_32 v82_33, I2 = (upI (upI (upI (upI (upI (upI (upI (upA (upA (upA (upA I 97 g97) 98 g98) 99 g99) 100 g100) 82 22 v82_22) 82 23 v82_23) 82 24 v82_24) 82 25 v82_25) 82 27 v82_27) 82 32 v82_32) 82 33 v82_33)
theorem RM_iff {I I2 : hI} : RM I I2 ↔ (∀ x, x ≠ 97 → x ≠ 98 → x ≠ 99 → x ≠ 100 → x ≠ 82 → I2 x = I x) ∧ ∀ j, j ≠ 22 → j ≠ 23 → j ≠ 24 → j ≠ 25 → j ≠ 27 → j ≠ 32 → j ≠ 33 → I2 82 j = I 82 j := by
  constructor
  · rintro ⟨g97, g98, g99, g100, v82_22, v82_23, v82_24, v82_25, v82_27, v82_32, v82_33, rfl⟩
    refine ⟨fun x h97 h98 h99 h100 h82 => ?_, fun j q22 q23 q24 q25 q27 q32 q33 => ?_⟩
    · simp [upA, upI, h97, h98, h99, h100, h82]
    · simp [upA, upI, upd, q22, q23, q24, q25, q27, q32, q33]
  · rintro ⟨h, f82⟩
    refine ⟨I2 97, I2 98, I2 99, I2 100, I2 82 22, I2 82 23, I2 82 24, I2 82 25, I2 82 27, I2 82 32, I2 82 33, ?_⟩
    funext x
    by_cases e97 : x = 97
    · subst e97; simp [upA, upI]
    · skip
      by_cases e98 : x = 98
      · subst e98; simp [upA, upI]
      · skip
        by_cases e99 : x = 99
        · subst e99; simp [upA, upI]
        · skip
          by_cases e100 : x = 100
          · subst e100; simp [upA, upI]
          · skip
            by_cases e82 : x = 82
            · subst e82
              funext j
              by_cases q22 : j = 22
              · subst q22; simp [upA, upI, upd]
              · skip
                by_cases q23 : j = 23
                · subst q23; simp [upA, upI, upd]
                · skip
                  by_cases q24 : j = 24
                  · subst q24; simp [upA, upI, upd]
                  · skip
                    by_cases q25 : j = 25
                    · subst q25; simp [upA, upI, upd]
                    · skip
                      by_cases q27 : j = 27
                      · subst q27; simp [upA, upI, upd]
                      · skip
                        by_cases q32 : j = 32
                        · subst q32; simp [upA, upI, upd]
                        · skip
                          by_cases q33 : j = 33
                          · subst q33; simp [upA, upI, upd]
                          · skip
                            simp [upA, upI, upd, q22, q23, q24, q25, q27, q32, q33, f82 j q22 q23 q24 q25 q27 q32 q33]
            · skip
              simp [upA, upI, e97, e98, e99, e100, e82, h x e97 e98 e99 e100 e82]
theorem RM_id (I : hI) : RM I I := RM_iff.mpr ⟨fun x _ _ _ _ _ => rfl, fun j _ _ _ _ _ _ _ => rfl⟩
theorem RM_tr {I I2 I3 : hI} (k1 : RM I I2) (k2 : RM I2 I3) : RM I I3 := RM_iff.mpr ⟨fun x h97 h98 h99 h100 h82 => ((RM_iff.mp k2).1 x h97 h98 h99 h100 h82).trans ((RM_iff.mp k1).1 x h97 h98 h99 h100 h82), fun j q22 q23 q24 q25 q27 q32 q33 => ((RM_iff.mp k2).2 j q22 q23 q24 q25 q27 q32 q33).trans ((RM_iff.mp k1).2 j q22 q23 q24 q25 q27 q32 q33)⟩
def RD (I I2 : hI) : Prop := ∃ g87 g88 g89 g97 g98 g99 g100 v82_9 v82_22 v82_23 v82_24 v82_25 v82_27 v82_32 v82_33, I2 = (upI (upI (upI (upI (upI (upI (upI (upI (upA (upA (upA (upA (upA (upA (upA I 87 g87) 88 g88) 89 g89) 97 g97) 98 g98) 99 g99) 100 g100) 82 9 v82_9) 82 22 v82_22) 82 23 v82_23) 82 24 v82_24) 82 25 v82_25) 82 27 v82_27) 82 32 v82_32) 82 33 v82_33)
theorem RD_iff {I I2 : hI} : RD I I2 ↔ (∀ x, x ≠ 87 → x ≠ 88 → x ≠ 89 → x ≠ 97 → x ≠ 98 → x ≠ 99 → x ≠ 100 → x ≠ 82 → I2 x = I x) ∧ ∀ j, j ≠ 9 → j ≠ 22 → j ≠ 23 → j ≠ 24 → j ≠ 25 → j ≠ 27 → j ≠ 32 → j ≠ 33 → I2 82 j = I 82 j := by
  constructor
  · rintro ⟨g87, g88, g89, g97, g98, g99, g100, v82_9, v82_22, v82_23, v82_24, v82_25, v82_27, v82_32, v82_33, rfl⟩
    refine ⟨fun x h87 h88 h89 h97 h98 h99 h100 h82 => ?_, fun j q9 q22 q23 q24 q25 q27 q32 q33 => ?_⟩
    · simp [upA, upI, h87, h88, h89, h97, h98, h99, h100, h82]
    · simp [upA, upI, upd, q9, q22, q23, q24, q25, q27, q32, q33]
  · rintro ⟨h, f82⟩
    refine ⟨I2 87, I2 88, I2 89, I2 97, I2 98, I2 99, I2 100, I2 82 9, I2 82 22, I2 82 23, I2 82 24, I2 82 25, I2 82 27, I2 82 32, I2 82 33, ?_⟩
    funext x
    by_cases e87 : x = 87
    · subst e87; simp [upA, upI]
    · skip
      by_cases e88 : x = 88
      · subst e88; simp [upA, upI]
      · skip
        by_cases e89 : x = 89
        · subst e89; simp [upA, upI]
        · skip
          by_cases e97 : x = 97
          · subst e97; simp [upA, upI]
          · skip
            by_cases e98 : x = 98
            · subst e98; simp [upA, upI]
            · skip
              by_cases e99 : x = 99
              · subst e99; simp [upA, upI]
              · skip
                by_cases e100 : x = 100
                · subst e100; simp [upA, upI]
                · skip
                  by_cases e82 : x = 82
                  · subst e82
                    funext j
                    by_cases q9 : j = 9
                    · subst q9; simp [upA, upI, upd]
                    · skip
                      by_cases q22 : j = 22
                      · subst q22; simp [upA, upI, upd]
                      · skip
                        by_cases q23 : j = 23
                        · subst q23; simp [upA, upI, upd]
                        · skip
                          by_cases q24 : j = 24
                          · subst q24; simp [upA, upI, upd]
                          · skip
                            by_cases q25 : j = 25
                            · subst q25; simp [upA, upI, upd]
                            · skip
                              by_cases q27 : j = 27
                              · subst q27; simp [upA, upI, upd]
                              · skip
                                by_cases q32 : j = 32
                                · subst q32; simp [upA, upI, upd]
                                · skip
                                  by_cases q33 : j = 33
                                  · subst q33; simp [upA, upI, upd]
                                  · skip
                                    simp [upA, upI, upd, q9, q22, q23, q24, q25, q27, q32, q33, f82 j q9 q22 q23 q24 q25 q27 q32 q33]
                  · skip
                    simp [upA, upI, e87, e88, e89, e97, e98, e99, e100, e82, h x e87 e88 e89 e97 e98 e99 e100 e82]
theorem RD_id (I : hI) : RD I I := RD_iff.mpr ⟨fun x _ _ _ _ _ _ _ _ => rfl, fun j _ _ _ _ _ _ _ _ => rfl⟩
theorem RD_tr {I I2 I3 : hI} (k1 : RD I I2) (k2 : RD I2 I3) : RD I I3 := RD_iff.mpr ⟨fun x h87 h88 h89 h97 h98 h99 h100 h82 => ((RD_iff.mp k2).1 x h87 h88 h89 h97 h98 h99 h100 h82).trans ((RD_iff.mp k1).1 x h87 h88 h89 h97 h98 h99 h100 h82), fun j q9 q22 q23 q24 q25 q27 q32 q33 => ((RD_iff.mp k2).2 j q9 q22 q23 q24 q25 q27 q32 q33).trans ((RD_iff.mp k1).2 j q9 q22 q23 q24 q25 q27 q32 q33)⟩
theorem RF_rm {I I2 : hI} (h : RF I I2) : RM I I2 := RM_iff.mpr ⟨fun x h97 h98 _ _ h82 => (RF_iff.mp h).1 x h97 h98 h82, fun j _ q23 q24 q25 q27 q32 q33 => (RF_iff.mp h).2 j q23 q24 q25 q27 q32 q33⟩
theorem LQ_rm {I : hI} {n : Nat} {u v : Int32} : RM I (upI (upI I 99 n u) 100 n v) := RM_iff.mpr ⟨fun x _ _ h99 h100 _ => by rw [upI_n _ _ _ h100, upI_n _ _ _ h99], fun j _ _ _ _ _ _ _ => by rw [upI_n _ _ _ (by decide), upI_n _ _ _ (by decide)]⟩
theorem F1_rm {I : hI} {j : Nat} {v : Int32} (h : j = 22 ∨ j = 25 ∨ j = 27 ∨ j = 32) : RM I (upI I 82 j v) := RM_iff.mpr ⟨fun x _ _ _ _ h82 => upI_n _ _ _ h82, fun i q22 _ _ q25 q27 q32 _ => upI_f (by omega)⟩
theorem RM_rd {I I2 : hI} (h : RM I I2) : RD I I2 := RD_iff.mpr ⟨fun x _ _ _ h97 h98 h99 h100 h82 => (RM_iff.mp h).1 x h97 h98 h99 h100 h82, fun j _ q22 q23 q24 q25 q27 q32 q33 => (RM_iff.mp h).2 j q22 q23 q24 q25 q27 q32 q33⟩
/-- the reference's draft holds n lines, fm signs -/
def DQ (I : hI) (n fm : Nat) (bw : Nat → Nat) (qw : Nat → qP) : Prop := n ≤ 8 ∧ I 82 32 = nI fm ∧ (∀ i, i < fm → I 97 i = nI (cm I i) ∧ cm I i < 5000) ∧ ∃ en : Nat → Nat, stl en n = fm ∧ (∀ c, c < n → I 99 c = nI (en c) ∧ en c ≤ fm ∧ I 100 c = nI (bw c) ∧ bw c ≤ 99) ∧ ∀ c, c < n → (stl en c = en c ∧ ∀ ki aw wh, qw c ki aw wh = true) ∨ (stl en c < en c ∧ ∀ ki aw wh, ki ≤ 5 → aw ≤ 999 → wh ≤ 2340 → ∃ b, rev (cm I) ki aw wh (en c - stl en c) (stl en c) [] = some [b] ∧ (b = nI 1 ↔ qw c ki aw wh = true))
theorem DQ_fr {I I2 : hI} {n fm : Nat} {bw : Nat → Nat} {qw : Nat → qP} (h : DQ I n fm bw qw) (h32 : I2 82 32 = I 82 32) (h97 : I2 97 = I 97) (h99 : I2 99 = I 99) (h100 : I2 100 = I 100) : DQ I2 n fm bw qw := by
  unfold DQ cm
  rw [h32, h97, h99, h100]
  exact h
theorem DQ_ev {I : hI} {n fm : Nat} {bw : Nat → Nat} {qw : Nat → qP} (h : DQ I n fm bw qw) : EV (I 97) I fm fm (fun _ _ _ => []) := ⟨Nat.le_refl _, fun _ _ => rfl, h.2.2.1, fun ki aw wh _ _ _ => by rw [Nat.sub_self]; rfl⟩
theorem DQ_ln {I I6 : hI} {n fm fm2 b : Nat} {bw : Nat → Nat} {qw : Nat → qP} {p : Option qP} (hD : DQ I n fm bw qw) (hn : n < 8) (hb : b ≤ 99) (h99 : I6 99 = I 99) (h100 : I6 100 = I 100) (h32 : I6 82 32 = nI fm2) (hff : fm ≤ fm2) (h97 : ∀ j, j < fm → I6 97 j = I 97 j) (hc : ∀ i, i < fm2 → I6 97 i = nI (cm I6 i) ∧ cm I6 i < 5000) (hp : (fm = fm2 ∧ ∀ ki aw wh, pq p ki aw wh = true) ∨ (fm < fm2 ∧ ∀ ki aw wh, ki ≤ 5 → aw ≤ 999 → wh ≤ 2340 → ∃ b, rev (cm I6) ki aw wh (fm2 - fm) fm [] = some [b] ∧ (b = nI 1 ↔ pq p ki aw wh = true))) : DQ (upI (upI I6 99 n (nI fm2)) 100 n (nI b)) (n + 1) fm2 (upn bw n b) (upq qw n (pq p)) := by
  obtain ⟨h1, h2, h3, en, h4, h5, h6⟩ := hD
  refine ⟨by omega, h32, hc, upn en n fm2, if_pos rfl, fun c hc => ?_, fun c hc => ?_⟩
  · show upd (I6 99) n (nI fm2) c = _ ∧ _ ∧ upd (I6 100) n (nI b) c = _ ∧ _
    rw [h99, h100]
    by_cases e : c = n
    · subst e
      exact ⟨(upd_s _ _ _).trans (congrArg nI (if_pos rfl).symm), Nat.le_of_eq (if_pos rfl), (upd_s _ _ _).trans (congrArg nI (if_pos rfl).symm), by rw [show upn bw c b c = b from if_pos rfl]; exact hb⟩
    · obtain ⟨a1, a2, a3, a4⟩ := h5 c (by omega)
      rw [upd_n _ _ e, upd_n _ _ e, show upn en n fm2 c = en c from if_neg e, show upn bw n b c = bw c from if_neg e]
      exact ⟨a1, by omega, a3, a4⟩
  · show (_ ∧ _) ∨ (_ ∧ ∀ ki aw wh, _ → _ → _ → ∃ b, rev (cm I6) ki aw wh _ _ [] = some [b] ∧ _)
    rw [stl_up (by omega)]
    by_cases e : c = n
    · subst e
      rw [show upn en c fm2 c = fm2 from if_pos rfl, h4, show upq qw c (pq p) c = pq p from if_pos rfl]
      exact hp
    · have a2 := (h5 c (by omega)).2.1
      have a3 := stl_le (fun c hc => (h5 c hc).2.1) (show c < n by omega)
      rw [show upn en n fm2 c = en c from if_neg e, show upq qw n (pq p) c = qw c from if_neg e]
      rcases h6 c (by omega) with q | ⟨q1, q2⟩
      · exact .inl q
      · refine .inr ⟨q1, fun ki aw wh r1 r2 r3 => ?_⟩
        rw [rev_congr (cw := cm I) _ _ _ (fun j j1 j2 => by unfold cm; rw [h97 j (by omega)])]
        exact q2 ki aw wh r1 r2 r3
theorem bit_e {b : Bool} : nI (bit b) = nI 1 ↔ b = true := by cases b <;> decide
theorem EV_hp {g : Nat → Int32} {I : hI} {s fm : Nat} {p : qP} (h : EV g I s fm (bS p (fun _ _ _ => []))) : s < fm ∧ ∀ ki aw wh, ki ≤ 5 → aw ≤ 999 → wh ≤ 2340 → ∃ b, rev (cm I) ki aw wh (fm - s) s [] = some [b] ∧ (b = nI 1 ↔ pq (some p) ki aw wh = true) := by
  refine ⟨?_, fun ki aw wh q1 q2 q3 => ⟨_, h.2.2.2 ki aw wh q1 q2 q3, bit_e⟩⟩
  by_cases e : s < fm
  · exact e
  · have h1 := h.1
    have h2 := h.2.2.2 0 0 0 (by omega) (by omega) (by omega)
    rw [show fm - s = 0 by omega] at h2
    cases h2
theorem DQ_rW {I I2 : hI} {n fm : Nat} {bw : Nat → Nat} {qw : Nat → qP} (h : DQ I n fm bw qw) (hfm : fm ≤ 210) (h9 : I2 82 9 = nI n) (h87 : ∀ j, j < n → I2 87 j = I 99 j ∧ I2 88 j = I 100 j) (h89 : ∀ j, j < fm → I2 89 j = I 97 j) : rW I2 n bw qw := by
  obtain ⟨h1, h2, h3, en, h4, h5, h6⟩ := h
  refine ⟨h9, h1, en, cm I, fun c hc => ?_, fun c hc i hi => ?_, h6⟩
  · obtain ⟨a1, a2, a3, a4⟩ := h5 c hc
    exact ⟨(h87 c hc).1.trans a1, by omega, (h87 c hc).2.trans a3, a4⟩
  · have a2 := (h5 c hc).2.1
    rw [h89 i (by omega)]
    exact h3 i (by omega)
theorem r_read {l : Launch} {dp : Nat} {tp : Nat → Nat} {nt : Nat} {I : hI} {J : hJ} {lt tx : Option Nat} {Q : hQ} (hT : rT I nt tp) (hF : ∀ I2 J2 f, rdT tp nt = Sum.inl f → f ≤ 200 → RM I I2 → JQ J J2 → I2 82 22 = nI 0 → Q (some (.int ((-100) - nI f))) hSH I2 J2 (hRR lt tx)) (hO : ∀ I2 J2 n bw qw, rdT tp nt = Sum.inr (n, bw, qw) → RD I I2 → JQ J J2 → I2 82 22 = nI 0 → rW I2 n bw qw → Q (some (.int (nI n))) hSH I2 J2 (hRR lt tx))  : HC l mX12_read (dp + 7) 0 0 [.ref 82] hSH I J (hRR lt tx) Q := by
  refine HC.of (by decide +kernel) rfl (Nat.le_of_ble_eq_true rfl) ?_
  have hb : ∀ j, j < nt → tp j < 256 := fun j hj => (hT.2.2 j hj).1
  have h200 := hT.2.1
  have Fl : ∀ (n : Nat) (x2 : Option _) (I1 : hI) (J1 : hJ) (f : Nat), rdT tp nt = Sum.inl f → f ≤ 200 → RM I I1 → JQ J J1 → I1 82 27 = nI f → HV l mX12_read (dp + 7) 0 0 21 [some (.ref 82), some (.int (nI n)), x2] [] hSH I1 J1 (hRR lt tx) Q := by
    intro n x2 I1 J1 f hr hf hM1 hJ1 hf1
    refine h_aload_n dX12_read_21 rfl ?_
    refine h_getI dX12_read_22 f_X12_238_10 rfl rfl ?_
    refine h_ifeq (tgt := 143) dX12_read_25 rfl (fun c_25 => ?_) (fun c_25 => ?_)
    · refine h_aload_n dX12_read_143 rfl ?_
      refine h_iconst dX12_read_144 ci_0 ?_
      refine h_putI dX12_read_145 f_X12_223_10 p_X12_10_22 (fun h => by cases h) rfl ?_
      refine h_aload_n dX12_read_148 rfl ?_
      refine h_cV0 dX12_read_149 k6_148 oVX12_isGood rfl rfl ?_
      refine r_good0 (f := f) hf1 hf ?_
      refine h_ifne (tgt := 163) dX12_read_152 rfl (fun c => absurd (by decide) c) (fun _ => ?_)
      refine h_bipush dX12_read_155 cb_m100 ?_
      refine h_aload_n dX12_read_157 rfl ?_
      refine h_getI dX12_read_158 f_X12_255_10 rfl hf1 ?_
      refine h_isub dX12_read_161 ?_
      refine h_ireturn dX12_read_162 rfl ?_
      exact hF _ J1 f hr hf (RM_tr hM1 (F1_rm (.inl rfl))) hJ1 rfl
    · refine h_aload_n dX12_read_28 rfl ?_
      refine h_cV0 dX12_read_29 k6_148 oVX12_isGood rfl rfl ?_
      refine r_good0 hf1 hf ?_
      refine h_ifeq (tgt := 143) dX12_read_32 rfl (fun _ => ?_) (fun c => absurd (by decide) c)
      refine h_aload_n dX12_read_143 rfl ?_
      refine h_iconst dX12_read_144 ci_0 ?_
      refine h_putI dX12_read_145 f_X12_223_10 p_X12_10_22 (fun h => by cases h) rfl ?_
      refine h_aload_n dX12_read_148 rfl ?_
      refine h_cV0 dX12_read_149 k6_148 oVX12_isGood rfl rfl ?_
      refine r_good0 (f := f) hf1 hf ?_
      refine h_ifne (tgt := 163) dX12_read_152 rfl (fun c => absurd (by decide) c) (fun _ => ?_)
      refine h_bipush dX12_read_155 cb_m100 ?_
      refine h_aload_n dX12_read_157 rfl ?_
      refine h_getI dX12_read_158 f_X12_255_10 rfl hf1 ?_
      refine h_isub dX12_read_161 ?_
      refine h_ireturn dX12_read_162 rfl ?_
      exact hF _ J1 f hr hf (RM_tr hM1 (F1_rm (.inl rfl))) hJ1 rfl
  have L2 : ∀ (n fm : Nat) (bw : Nat → Nat) (qw : Nat → qP) (I5 : hI) (J1 : hJ), rdT tp nt = Sum.inr (n, bw, qw) → DQ I5 n fm bw qw → fm ≤ 200 → RM I I5 → I5 82 22 = nI 0 → JQ J J1 → ∀ (m k : Nat) (I1 : hI), fm - k < m → k ≤ fm → I1 82 9 = nI n → (∀ j, j ≠ 9 → I1 82 j = I5 82 j) → (∀ a, a ≠ 82 → a ≠ 87 → a ≠ 88 → a ≠ 89 → I1 a = I5 a) → (∀ j, j < n → I1 87 j = I5 99 j ∧ I1 88 j = I5 100 j) → (∀ j, j < k → I1 89 j = I5 97 j) → HV l mX12_read (dp + 7) 0 0 207 [some (.ref 82), some (.int (nI n)), some (.int (nI k))] [] hSH I1 J1 (hRR lt tx) Q := by
    intro n fm bw qw I5 J1 hr hD hfm hM5 h22 hJ1 m
    induction m with
    | zero => intro k I1 hm; omega
    | succ m ih =>
      intro k I1 hm hk h9 h82 hA h87 h89
      have hfmI : I1 82 32 = nI fm := (h82 32 (by decide)).trans hD.2.1
      refine h_iload_n dX12_read_207 rfl ?_
      refine h_aload_n dX12_read_208 rfl ?_
      refine h_getI dX12_read_209 f_X12_272_10 rfl hfmI ?_
      refine h_icmpge (tgt := 233) dX12_read_212 rfl (fun c_212 => ?_) (fun c_212 => ?_)
      · rw [nI_leI (by omega) (by omega)] at c_212
        refine h_iload_n dX12_read_233 rfl ?_
        refine h_ireturn dX12_read_234 rfl ?_
        exact hO I1 J1 n bw qw hr (RD_tr (RM_rd hM5) (RD_iff.mpr ⟨fun x q87 q88 q89 _ _ _ _ q82 => hA x q82 q87 q88 q89, fun j q9 _ _ _ _ _ _ _ => h82 j q9⟩)) hJ1 ((h82 22 (by decide)).trans h22) (DQ_rW hD (by omega) h9 h87 (fun j hj => h89 j (by omega)))
      · rw [nI_leI (by omega) (by omega)] at c_212
        refine h_aload_n dX12_read_215 rfl ?_
        refine h_getR dX12_read_216 f_X12_28_10 rfl rfl ?_
        refine h_iload_n dX12_read_219 rfl ?_
        refine h_aload_n dX12_read_220 rfl ?_
        refine h_getR dX12_read_221 f_X12_53_10 rfl rfl ?_
        refine h_iload_n dX12_read_224 rfl ?_
        refine h_ialdN (j := k) dX12_read_225 rfl rfl (by omega) rfl rfl ?_
        refine h_iastN (j := k) dX12_read_226 rfl rfl (by omega) rfl ?_
        refine h_iinc (v := nI (k + 1)) dX12_read_227 rfl (nI_1 _) (Nat.le_of_ble_eq_true rfl) ?_
        refine h_goto (tgt := 207) dX12_read_230 rfl ?_
        refine ih (k + 1) _ (by omega) (by omega) h9 h82 (fun a q1 q2 q3 q4 => (upI_n _ _ _ q4).trans (hA a q1 q2 q3 q4)) h87 (fun j hj => ?_)
        by_cases e : j = k
        · subst e
          rw [upI_s, upd_s, hA 97 (by decide) (by decide) (by decide) (by decide)]
        · rw [upI_s, upd_n _ _ e]
          exact h89 j (by omega)
  have L1 : ∀ (n fm : Nat) (bw : Nat → Nat) (qw : Nat → qP) (I5 : hI) (J1 : hJ), rdT tp nt = Sum.inr (n, bw, qw) → DQ I5 n fm bw qw → fm ≤ 200 → RM I I5 → I5 82 22 = nI 0 → JQ J J1 → ∀ (m k : Nat) (I1 : hI), n - k < m → k ≤ n → I1 82 9 = nI n → (∀ j, j ≠ 9 → I1 82 j = I5 82 j) → (∀ a, a ≠ 82 → a ≠ 87 → a ≠ 88 → I1 a = I5 a) → (∀ j, j < k → I1 87 j = I5 99 j ∧ I1 88 j = I5 100 j) → HV l mX12_read (dp + 7) 0 0 170 [some (.ref 82), some (.int (nI n)), some (.int (nI k))] [] hSH I1 J1 (hRR lt tx) Q := by
    intro n fm bw qw I5 J1 hr hD hfm hM5 h22 hJ1 m
    have hn8 := hD.1
    induction m with
    | zero => intro k I1 hm; omega
    | succ m ih =>
      intro k I1 hm hk h9 h82 hA h87
      refine h_iload_n dX12_read_170 rfl ?_
      refine h_iload_n dX12_read_171 rfl ?_
      refine h_icmpge (tgt := 205) dX12_read_172 rfl (fun c_172 => ?_) (fun c_172 => ?_)
      · rw [nI_leI (by omega) (by omega)] at c_172
        refine h_iconst dX12_read_205 ci_0 ?_
        refine h_istore_n dX12_read_206 (Nat.le_of_ble_eq_true rfl) ?_
        exact L2 n fm bw qw I5 J1 hr hD hfm hM5 h22 hJ1 (fm + 1) 0 I1 (by omega) (by omega) h9 h82 (fun a q1 q2 q3 _ => hA a q1 q2 q3) (fun j hj => h87 j (by omega)) (fun j hj => absurd hj (by omega))
      · rw [nI_leI (by omega) (by omega)] at c_172
        refine h_aload_n dX12_read_175 rfl ?_
        refine h_getR dX12_read_176 f_X12_22_10 rfl rfl ?_
        refine h_iload_n dX12_read_179 rfl ?_
        refine h_aload_n dX12_read_180 rfl ?_
        refine h_getR dX12_read_181 f_X12_59_10 rfl rfl ?_
        refine h_iload_n dX12_read_184 rfl ?_
        refine h_ialdN (j := k) dX12_read_185 rfl rfl (by omega) rfl rfl ?_
        refine h_iastN (j := k) dX12_read_186 rfl rfl (by omega) rfl ?_
        refine h_aload_n dX12_read_187 rfl ?_
        refine h_getR dX12_read_188 f_X12_25_10 rfl rfl ?_
        refine h_iload_n dX12_read_191 rfl ?_
        refine h_aload_n dX12_read_192 rfl ?_
        refine h_getR dX12_read_193 f_X12_62_10 rfl rfl ?_
        refine h_iload_n dX12_read_196 rfl ?_
        refine h_ialdN (j := k) dX12_read_197 rfl rfl (by omega) rfl rfl ?_
        refine h_iastN (j := k) dX12_read_198 rfl rfl (by omega) rfl ?_
        refine h_iinc (v := nI (k + 1)) dX12_read_199 rfl (nI_1 _) (Nat.le_of_ble_eq_true rfl) ?_
        refine h_goto (tgt := 170) dX12_read_202 rfl ?_
        refine ih (k + 1) _ (by omega) (by omega) h9 h82 (fun a q1 q2 q3 => (upI_n _ _ _ q3).trans ((upI_n _ _ _ q2).trans (hA a q1 q2 q3))) (fun j hj => ?_)
        by_cases e : j = k
        · subst e
          refine ⟨?_, ?_⟩
          · rw [upI_n _ _ _ (by decide), upI_s, upd_s, hA 99 (by decide) (by decide) (by decide)]
          · rw [upI_s, upd_s, upI_n _ _ _ (by decide), hA 100 (by decide) (by decide) (by decide)]
        · refine ⟨?_, ?_⟩
          · rw [upI_n _ _ _ (by decide), upI_s, upd_n _ _ e]
            exact (h87 j (by omega)).1
          · rw [upI_s, upd_n _ _ e, upI_n _ _ _ (by decide)]
            exact (h87 j (by omega)).2
  have Lo : ∀ (q n e fm : Nat) (bw : Nat → Nat) (qw : Nat → qP) (x2 : Option _) (I1 : hI) (J1 : hJ), n + q = 10 → n ≤ 8 → rdA tp nt q n e bw qw = rdT tp nt → rT I1 nt tp → e ≤ nt → RK I1 J1 tp nt e → I1 82 27 = -1 → DQ I1 n fm bw qw → fm ≤ e → RM I I1 → JQ J J1 → HV l mX12_read (dp + 7) 0 0 21 [some (.ref 82), some (.int (nI n)), x2] [] hSH I1 J1 (hRR lt tx) Q := by
    intro q
    induction q with
    | zero => intro n e fm bw qw x2 I1 J1 h1 h8; omega
    | succ q ih =>
      intro n e fm bw qw x2 I1 J1 h1 h8 hr hT1 he hK1 hf1 hD hfm hM1 hJ1
      have he1 := (tE_rng tp he).2.1
      have he2 := (tE_rng tp he1).2.1
      have he3 := (tE_rng tp he2).2.1
      have s0 := tk_rng tp he
      have s1 := tk_rng tp he1
      have s2 := tk_rng tp he2
      have l0 := (tE_rng tp he).1
      have l1 := (tE_rng tp he1).1
      have l2 := (tE_rng tp he2).1
      refine h_aload_n dX12_read_21 rfl ?_
      refine h_getI dX12_read_22 f_X12_238_10 rfl rfl ?_
      refine h_ifeq (tgt := 143) dX12_read_25 rfl (fun c_25 => ?_) (fun c_25 => ?_)
      · refine h_aload_n dX12_read_143 rfl ?_
        refine h_iconst dX12_read_144 ci_0 ?_
        refine h_putI dX12_read_145 f_X12_223_10 p_X12_10_22 (fun h => by cases h) rfl ?_
        refine h_aload_n dX12_read_148 rfl ?_
        refine h_cV0 dX12_read_149 k6_148 oVX12_isGood rfl rfl ?_
        refine r_good1 (show _ = -1 from hf1) ?_
        refine h_ifne (tgt := 163) dX12_read_152 rfl (fun _ => ?_) (fun c => absurd c (by decide))
        refine h_aload_n dX12_read_163 rfl ?_
        refine h_iload_n dX12_read_164 rfl ?_
        refine h_putI dX12_read_165 f_X12_328_10 p_X12_10_9 (fun h => by cases h) rfl ?_
        refine h_iconst dX12_read_168 ci_0 ?_
        refine h_istore_n dX12_read_169 (Nat.le_of_ble_eq_true rfl) ?_
        have h0 := (rk_end he hb hK1).mp (show I1 82 23 = nI 0 from c_25)
        exact L1 n fm bw qw (upI I1 82 22 (nI 0)) J1 (by rw [← hr]; exact rd_0 h0) (DQ_fr hD rfl rfl rfl rfl) (by omega) (RM_tr hM1 (F1_rm (.inl rfl))) rfl hJ1 (n + 1) 0 _ (by omega) (by omega) rfl (fun j hj => upI_f hj) (fun a q1 _ _ => upI_n _ _ _ q1) (fun j hj => absurd hj (by omega))
      · refine h_aload_n dX12_read_28 rfl ?_
        refine h_cV0 dX12_read_29 k6_148 oVX12_isGood rfl rfl ?_
        refine r_good1 hf1 ?_
        refine h_ifeq (tgt := 143) dX12_read_32 rfl (fun c => absurd c (by decide)) (fun _ => ?_)
        refine h_aload_n dX12_read_35 rfl ?_
        refine h_aload_n dX12_read_36 rfl ?_
        refine h_ldc2 dX12_read_37 k6_152 ?_
        refine h_cV1 dX12_read_40 k6_153 oVX12_isWord rfl rfl ?_
        refine r_isWord (fun b1 => ?_) (fun b1 => ?_)
        · have b1 := (rk_1 he hb hK1).mp b1
          refine h_ifeq (tgt := 56) dX12_read_43 rfl (fun c => absurd c (by decide)) (fun _ => ?_)
          refine h_iload_n dX12_read_46 rfl ?_
          refine h_bipush dX12_read_47 cb_8 ?_
          refine h_icmpge (tgt := 56) dX12_read_49 rfl (fun c_49 => ?_) (fun c_49 => ?_)
          · rw [nI_leI (by omega) (by omega)] at c_49
            refine h_iconst dX12_read_56 ci_0 ?_
            refine h_cV1 dX12_read_57 k6_157 oVX12_want rfl rfl ?_
            have hb1 : ¬ (tC tp nt e = 1 ∧ n < 8) := fun z => by omega
            refine r_want0 hT1 he hK1 hf1 ?_
            refine h_aload_n dX12_read_60 rfl ?_
            refine h_cV0 dX12_read_61 k6_148 oVX12_isGood rfl rfl ?_
            refine r_good0 (f := tS tp nt e) rfl (by omega) ?_
            refine h_ifeq (tgt := 76) dX12_read_64 rfl (fun _ => ?_) (fun c => absurd (by decide) c)
            refine h_iconst dX12_read_76 ci_0 ?_
            refine h_istore_n dX12_read_77 (Nat.le_of_ble_eq_true rfl) ?_
            refine h_aload_n dX12_read_78 rfl ?_
            refine h_cV0 dX12_read_79 k6_148 oVX12_isGood rfl rfl ?_
            refine r_good0 (f := tS tp nt e) rfl (by omega) ?_
            refine h_ifeq (tgt := 103) dX12_read_82 rfl (fun _ => ?_) (fun c => absurd (by decide) c)
            refine h_aload_n dX12_read_103 rfl ?_
            refine h_aload_n dX12_read_104 rfl ?_
            refine h_bipush dX12_read_105 cb_59 ?_
            refine h_cV1 dX12_read_107 k6_179 oVX12_isMark rfl rfl ?_
            refine r_isMark (fun _ => ?_) (fun _ => ?_)
            · refine h_cV1 dX12_read_110 k6_157 oVX12_want rfl rfl ?_
              refine r_wantF (f := tS tp nt e) rfl (by omega) ?_
              refine h_aload_n dX12_read_113 rfl ?_
              refine h_cV0 dX12_read_114 k6_148 oVX12_isGood rfl rfl ?_
              refine r_good0 (f := tS tp nt e) rfl (by omega) ?_
              refine h_ifeq (tgt := 140) dX12_read_117 rfl (fun _ => ?_) (fun c => absurd (by decide) c)
              refine h_goto (tgt := 21) dX12_read_140 rfl ?_
              have n0 : ¬ tC tp nt e = 0 := fun z => c_25 ((rk_end he hb hK1).mpr z)
              exact Fl n _ _ J1 (tS tp nt e) (by rw [← hr]; exact rd_f n0 (ln_1 hb1)) (by omega) (RM_tr hM1 (F1_rm (.inr (.inr (.inl rfl))))) hJ1 rfl
            · refine h_cV1 dX12_read_110 k6_157 oVX12_want rfl rfl ?_
              refine r_wantF (f := tS tp nt e) rfl (by omega) ?_
              refine h_aload_n dX12_read_113 rfl ?_
              refine h_cV0 dX12_read_114 k6_148 oVX12_isGood rfl rfl ?_
              refine r_good0 (f := tS tp nt e) rfl (by omega) ?_
              refine h_ifeq (tgt := 140) dX12_read_117 rfl (fun _ => ?_) (fun c => absurd (by decide) c)
              refine h_goto (tgt := 21) dX12_read_140 rfl ?_
              have n0 : ¬ tC tp nt e = 0 := fun z => c_25 ((rk_end he hb hK1).mpr z)
              exact Fl n _ _ J1 (tS tp nt e) (by rw [← hr]; exact rd_f n0 (ln_1 hb1)) (by omega) (RM_tr hM1 (F1_rm (.inr (.inr (.inl rfl))))) hJ1 rfl
          · rw [nI_leI (by omega) (by omega)] at c_49
            refine h_iconst dX12_read_52 ci_1 ?_
            refine h_goto (tgt := 57) dX12_read_53 rfl ?_
            refine h_cV1 dX12_read_57 k6_157 oVX12_want rfl rfl ?_
            have hl1 : tC tp nt e = 1 ∧ n < 8 := ⟨b1, by omega⟩
            refine r_want1 hT1 he hK1 hf1 (fun I2 v2 hS2 hK2 => ?_)
            have hf2 : I2 82 27 = -1 := (SR_f hS2 (by decide) (by decide) (by decide)).trans hf1
            have hT2 := rT_rf (SR_rf hS2) hT1
            refine h_aload_n dX12_read_60 rfl ?_
            refine h_cV0 dX12_read_61 k6_148 oVX12_isGood rfl rfl ?_
            refine r_good1 hf2 ?_
            refine h_ifeq (tgt := 76) dX12_read_64 rfl (fun c => absurd c (by decide)) (fun _ => ?_)
            refine h_aload_n dX12_read_67 rfl ?_
            refine h_bipush dX12_read_68 cb_99 ?_
            refine h_cV1 dX12_read_70 k6_165 oVX12_wantNumber rfl rfl ?_
            rcases Classical.em (tC tp nt (tE tp nt e) = 11 ∧ tV tp nt (tE tp nt e) ≤ 99) with hl2 | hl2
            · refine r_wantNumber1 (mo := 99) hb hT2 he1 hK2 hf2 hl2.1 hl2.2 (by omega) (fun I3 v3 hS3 hK3 => ?_)
              have hf3 : I3 82 27 = -1 := (SR_f hS3 (by decide) (by decide) (by decide)).trans hf2
              have hT3 := rT_rf (SR_rf hS3) hT2
              have h323 : I3 82 32 = nI fm := (SR_f hS3 (by decide) (by decide) (by decide)).trans ((SR_f hS2 (by decide) (by decide) (by decide)).trans hD.2.1)
              refine h_goto (tgt := 77) dX12_read_73 rfl ?_
              refine h_istore_n dX12_read_77 (Nat.le_of_ble_eq_true rfl) ?_
              refine h_aload_n dX12_read_78 rfl ?_
              refine h_cV0 dX12_read_79 k6_148 oVX12_isGood rfl rfl ?_
              refine r_good1 hf3 ?_
              refine h_ifeq (tgt := 103) dX12_read_82 rfl (fun c => absurd c (by decide)) (fun _ => ?_)
              refine h_aload_n dX12_read_85 rfl ?_
              refine h_ldc2 dX12_read_86 k6_169 ?_
              refine h_cV1 dX12_read_89 k6_153 oVX12_isWord rfl rfl ?_
              refine r_isWord (fun b2 => ?_) (fun b2 => ?_)
              · have b2 := (rk_2 he2 hb hK3).mp b2
                refine h_ifeq (tgt := 103) dX12_read_92 rfl (fun c => absurd c (by decide)) (fun _ => ?_)
                refine h_aload_n dX12_read_95 rfl ?_
                refine h_cV0 dX12_read_96 k6_134 oVX12_advance rfl rfl ?_
                refine r_advance (e := (tE tp nt (tE tp nt (tE tp nt e)))) hT3 hK3.2.1 he3 (fun I4 v4 hS4 hK4 => ?_)
                have hf4 : I4 82 27 = -1 := (SR_f hS4 (by decide) (by decide) (by decide)).trans hf3
                have hT4 := rT_rf (SR_rf hS4) hT3
                have h324 : I4 82 32 = nI fm := (SR_f hS4 (by decide) (by decide) (by decide)).trans h323
                refine h_aload_n dX12_read_99 rfl ?_
                refine h_cV0 dX12_read_100 k6_170 oVX12_wantCond rfl rfl ?_
                refine r_wantCond (g := I1 97) (s := fm) hb hT4 he3 hK4 hf4 h324 (by omega) (EV_fr (DQ_ev hD) ((SR_a hS4 (by decide)).trans ((SR_a hS3 (by decide)).trans (SR_a hS2 (by decide))))) (fun I5 J5 f hrf hf200 hR5 hJ5 hf5 => ?_) (fun I5 J5 e5 p fm5 hrp he5 hR5 hJ5 hK5 hf5 h325 hfm5 hE5 => ?_)
                · refine h_aload_n dX12_read_103 rfl ?_
                  refine h_aload_n dX12_read_104 rfl ?_
                  refine h_bipush dX12_read_105 cb_59 ?_
                  refine h_cV1 dX12_read_107 k6_179 oVX12_isMark rfl rfl ?_
                  refine r_isMark (fun _ => ?_) (fun _ => ?_)
                  · refine h_cV1 dX12_read_110 k6_157 oVX12_want rfl rfl ?_
                    refine r_wantF hf5 hf200 ?_
                    refine h_aload_n dX12_read_113 rfl ?_
                    refine h_cV0 dX12_read_114 k6_148 oVX12_isGood rfl rfl ?_
                    refine r_good0 hf5 hf200 ?_
                    refine h_ifeq (tgt := 140) dX12_read_117 rfl (fun _ => ?_) (fun c => absurd (by decide) c)
                    refine h_goto (tgt := 21) dX12_read_140 rfl ?_
                    have n0 : ¬ tC tp nt e = 0 := fun z => c_25 ((rk_end he hb hK1).mpr z)
                    exact Fl n _ _ _ f (by rw [← hr]; exact rd_f n0 (ln_5 hl1 hl2 b2 hrf)) hf200 (RM_tr hM1 (RF_rm (RF_tr (SR_rf hS2) (RF_tr (SR_rf hS3) (RF_tr (SR_rf hS4) hR5))))) (JQ_tr hJ1 (JQ_tr JQ_up (JQ_tr JQ_up (JQ_tr JQ_up hJ5)))) hf5
                  · refine h_cV1 dX12_read_110 k6_157 oVX12_want rfl rfl ?_
                    refine r_wantF hf5 hf200 ?_
                    refine h_aload_n dX12_read_113 rfl ?_
                    refine h_cV0 dX12_read_114 k6_148 oVX12_isGood rfl rfl ?_
                    refine r_good0 hf5 hf200 ?_
                    refine h_ifeq (tgt := 140) dX12_read_117 rfl (fun _ => ?_) (fun c => absurd (by decide) c)
                    refine h_goto (tgt := 21) dX12_read_140 rfl ?_
                    have n0 : ¬ tC tp nt e = 0 := fun z => c_25 ((rk_end he hb hK1).mpr z)
                    exact Fl n _ _ _ f (by rw [← hr]; exact rd_f n0 (ln_5 hl1 hl2 b2 hrf)) hf200 (RM_tr hM1 (RF_rm (RF_tr (SR_rf hS2) (RF_tr (SR_rf hS3) (RF_tr (SR_rf hS4) hR5))))) (JQ_tr hJ1 (JQ_tr JQ_up (JQ_tr JQ_up (JQ_tr JQ_up hJ5)))) hf5
                · have hT5 := rT_rf hR5 hT4
                  have s5 := tk_rng tp he5
                  refine h_aload_n dX12_read_103 rfl ?_
                  refine h_aload_n dX12_read_104 rfl ?_
                  refine h_bipush dX12_read_105 cb_59 ?_
                  refine h_cV1 dX12_read_107 k6_179 oVX12_isMark rfl rfl ?_
                  refine r_isMark (fun m59 => ?_) (fun m59 => ?_)
                  · have m59 := (rk_m59 he5 hb hK5).mp m59
                    refine h_cV1 dX12_read_110 k6_157 oVX12_want rfl rfl ?_
                    refine r_want1 hT5 he5 hK5 hf5 (fun I6 v6 hS6 hK6 => ?_)
                    have hf6 : I6 82 27 = -1 := (SR_f hS6 (by decide) (by decide) (by decide)).trans hf5
                    have hT6 := rT_rf (SR_rf hS6) hT5
                    have h326 : I6 82 32 = nI fm5 := (SR_f hS6 (by decide) (by decide) (by decide)).trans h325
                    refine h_aload_n dX12_read_113 rfl ?_
                    refine h_cV0 dX12_read_114 k6_148 oVX12_isGood rfl rfl ?_
                    refine r_good1 hf6 ?_
                    refine h_ifeq (tgt := 140) dX12_read_117 rfl (fun c => absurd c (by decide)) (fun _ => ?_)
                    refine h_aload_n dX12_read_120 rfl ?_
                    refine h_getR dX12_read_121 f_X12_59_10 rfl rfl ?_
                    refine h_iload_n dX12_read_124 rfl ?_
                    refine h_aload_n dX12_read_125 rfl ?_
                    refine h_getI dX12_read_126 f_X12_272_10 rfl h326 ?_
                    refine h_iastN (j := n) dX12_read_129 rfl rfl (by omega) rfl ?_
                    refine h_aload_n dX12_read_130 rfl ?_
                    refine h_getR dX12_read_131 f_X12_62_10 rfl rfl ?_
                    refine h_iload_n dX12_read_134 rfl ?_
                    refine h_iload_n dX12_read_135 rfl ?_
                    refine h_iastN (j := n) dX12_read_136 rfl rfl (by omega) rfl ?_
                    refine h_iinc (v := nI (n + 1)) dX12_read_137 rfl (nI_1 _) (Nat.le_of_ble_eq_true rfl) ?_
                    refine h_goto (tgt := 21) dX12_read_140 rfl ?_
                    have n0 : ¬ tC tp nt e = 0 := fun z => c_25 ((rk_end he hb hK1).mpr z)
                    have l6 := (tE_rng tp he5).1
                    have hE6 := EV_fr hE5 (I2 := I6) (SR_a hS6 (by decide))
                    exact ih (n + 1) (tE tp nt e5) fm5 _ _ _ _ _ (by omega) (by omega) (by rw [← hr]; exact (rd_l n0 (ln_7 hl1 hl2 b2 hrp m59)).symm) hT6 (tE_rng tp he5).2.1 hK6 hf6 (DQ_ln hD hl1.2 hl2.2 ((SR_a hS6 (by decide)).trans (((RF_iff.mp hR5).1 99 (by decide) (by decide) (by decide)).trans ((SR_a hS4 (by decide)).trans ((SR_a hS3 (by decide)).trans (SR_a hS2 (by decide)))))) ((SR_a hS6 (by decide)).trans (((RF_iff.mp hR5).1 100 (by decide) (by decide) (by decide)).trans ((SR_a hS4 (by decide)).trans ((SR_a hS3 (by decide)).trans (SR_a hS2 (by decide)))))) h326 hE6.1 hE6.2.1 hE6.2.2.1 (.inr (EV_hp hE6))) (by omega) (RM_tr (RM_tr hM1 (RF_rm (RF_tr (SR_rf hS2) (RF_tr (SR_rf hS3) (RF_tr (SR_rf hS4) hR5))))) (RM_tr (RF_rm (SR_rf hS6)) LQ_rm)) (JQ_tr (JQ_tr hJ1 (JQ_tr JQ_up (JQ_tr JQ_up (JQ_tr JQ_up hJ5)))) JQ_up)
                  · have m59 : ¬ _ = 79 := fun z => m59 ((rk_m59 he5 hb hK5).mpr z)
                    refine h_cV1 dX12_read_110 k6_157 oVX12_want rfl rfl ?_
                    refine r_want0 hT5 he5 hK5 hf5 ?_
                    refine h_aload_n dX12_read_113 rfl ?_
                    refine h_cV0 dX12_read_114 k6_148 oVX12_isGood rfl rfl ?_
                    refine r_good0 (f := tS tp nt e5) rfl (by omega) ?_
                    refine h_ifeq (tgt := 140) dX12_read_117 rfl (fun _ => ?_) (fun c => absurd (by decide) c)
                    refine h_goto (tgt := 21) dX12_read_140 rfl ?_
                    have n0 : ¬ tC tp nt e = 0 := fun z => c_25 ((rk_end he hb hK1).mpr z)
                    exact Fl n _ _ _ (tS tp nt e5) (by rw [← hr]; exact rd_f n0 (ln_6 hl1 hl2 b2 hrp m59)) (by omega) (RM_tr (RM_tr hM1 (RF_rm (RF_tr (SR_rf hS2) (RF_tr (SR_rf hS3) (RF_tr (SR_rf hS4) hR5))))) (F1_rm (.inr (.inr (.inl rfl))))) (JQ_tr hJ1 (JQ_tr JQ_up (JQ_tr JQ_up (JQ_tr JQ_up hJ5)))) rfl
              · have b2 : ¬ _ = 2 := fun z => b2 ((rk_2 he2 hb hK3).mpr z)
                refine h_ifeq (tgt := 103) dX12_read_92 rfl (fun _ => ?_) (fun c => absurd (by decide) c)
                refine h_aload_n dX12_read_103 rfl ?_
                refine h_aload_n dX12_read_104 rfl ?_
                refine h_bipush dX12_read_105 cb_59 ?_
                refine h_cV1 dX12_read_107 k6_179 oVX12_isMark rfl rfl ?_
                refine r_isMark (fun m59 => ?_) (fun m59 => ?_)
                · have m59 := (rk_m59 he2 hb hK3).mp m59
                  refine h_cV1 dX12_read_110 k6_157 oVX12_want rfl rfl ?_
                  refine r_want1 hT3 he2 hK3 hf3 (fun I6 v6 hS6 hK6 => ?_)
                  have hf6 : I6 82 27 = -1 := (SR_f hS6 (by decide) (by decide) (by decide)).trans hf3
                  have hT6 := rT_rf (SR_rf hS6) hT3
                  have h326 : I6 82 32 = nI fm := (SR_f hS6 (by decide) (by decide) (by decide)).trans h323
                  refine h_aload_n dX12_read_113 rfl ?_
                  refine h_cV0 dX12_read_114 k6_148 oVX12_isGood rfl rfl ?_
                  refine r_good1 hf6 ?_
                  refine h_ifeq (tgt := 140) dX12_read_117 rfl (fun c => absurd c (by decide)) (fun _ => ?_)
                  refine h_aload_n dX12_read_120 rfl ?_
                  refine h_getR dX12_read_121 f_X12_59_10 rfl rfl ?_
                  refine h_iload_n dX12_read_124 rfl ?_
                  refine h_aload_n dX12_read_125 rfl ?_
                  refine h_getI dX12_read_126 f_X12_272_10 rfl h326 ?_
                  refine h_iastN (j := n) dX12_read_129 rfl rfl (by omega) rfl ?_
                  refine h_aload_n dX12_read_130 rfl ?_
                  refine h_getR dX12_read_131 f_X12_62_10 rfl rfl ?_
                  refine h_iload_n dX12_read_134 rfl ?_
                  refine h_iload_n dX12_read_135 rfl ?_
                  refine h_iastN (j := n) dX12_read_136 rfl rfl (by omega) rfl ?_
                  refine h_iinc (v := nI (n + 1)) dX12_read_137 rfl (nI_1 _) (Nat.le_of_ble_eq_true rfl) ?_
                  refine h_goto (tgt := 21) dX12_read_140 rfl ?_
                  have n0 : ¬ tC tp nt e = 0 := fun z => c_25 ((rk_end he hb hK1).mpr z)
                  have l6 := (tE_rng tp he2).1
                  have e97 : I6 97 = I1 97 := ((SR_a hS6 (by decide)).trans ((SR_a hS3 (by decide)).trans (SR_a hS2 (by decide))))
                  have hE6 := EV_fr (DQ_ev hD) e97
                  exact ih (n + 1) (tE tp nt (tE tp nt (tE tp nt e))) fm _ _ _ _ _ (by omega) (by omega) (by rw [← hr]; exact (rd_l n0 (ln_4 hl1 hl2 m59)).symm) hT6 he3 hK6 hf6 (DQ_ln (p := none) hD hl1.2 hl2.2 ((SR_a hS6 (by decide)).trans ((SR_a hS3 (by decide)).trans (SR_a hS2 (by decide)))) ((SR_a hS6 (by decide)).trans ((SR_a hS3 (by decide)).trans (SR_a hS2 (by decide)))) h326 (Nat.le_refl _) hE6.2.1 hE6.2.2.1 (.inl ⟨rfl, fun _ _ _ => rfl⟩)) (by omega) (RM_tr (RM_tr hM1 (RF_rm (RF_tr (SR_rf hS2) (SR_rf hS3)))) (RM_tr (RF_rm (SR_rf hS6)) LQ_rm)) (JQ_tr (JQ_tr hJ1 (JQ_tr JQ_up JQ_up)) JQ_up)
                · have m59 : ¬ _ = 79 := fun z => m59 ((rk_m59 he2 hb hK3).mpr z)
                  refine h_cV1 dX12_read_110 k6_157 oVX12_want rfl rfl ?_
                  refine r_want0 hT3 he2 hK3 hf3 ?_
                  refine h_aload_n dX12_read_113 rfl ?_
                  refine h_cV0 dX12_read_114 k6_148 oVX12_isGood rfl rfl ?_
                  refine r_good0 (f := tS tp nt (tE tp nt (tE tp nt e))) rfl (by omega) ?_
                  refine h_ifeq (tgt := 140) dX12_read_117 rfl (fun _ => ?_) (fun c => absurd (by decide) c)
                  refine h_goto (tgt := 21) dX12_read_140 rfl ?_
                  have n0 : ¬ tC tp nt e = 0 := fun z => c_25 ((rk_end he hb hK1).mpr z)
                  exact Fl n _ _ _ (tS tp nt (tE tp nt (tE tp nt e))) (by rw [← hr]; exact rd_f n0 (ln_3 hl1 hl2 b2 m59)) (by omega) (RM_tr (RM_tr hM1 (RF_rm (RF_tr (SR_rf hS2) (SR_rf hS3)))) (F1_rm (.inr (.inr (.inl rfl))))) (JQ_tr hJ1 (JQ_tr JQ_up JQ_up)) rfl
            · refine r_wantNumber0 (mo := 99) hb hT2 he1 hK2 hf2 hl2 (by omega) (fun z3 => ?_)
              refine h_goto (tgt := 77) dX12_read_73 rfl ?_
              refine h_istore_n dX12_read_77 (Nat.le_of_ble_eq_true rfl) ?_
              refine h_aload_n dX12_read_78 rfl ?_
              refine h_cV0 dX12_read_79 k6_148 oVX12_isGood rfl rfl ?_
              refine r_good0 (f := tS tp nt (tE tp nt e)) rfl (by omega) ?_
              refine h_ifeq (tgt := 103) dX12_read_82 rfl (fun _ => ?_) (fun c => absurd (by decide) c)
              refine h_aload_n dX12_read_103 rfl ?_
              refine h_aload_n dX12_read_104 rfl ?_
              refine h_bipush dX12_read_105 cb_59 ?_
              refine h_cV1 dX12_read_107 k6_179 oVX12_isMark rfl rfl ?_
              refine r_isMark (fun _ => ?_) (fun _ => ?_)
              · refine h_cV1 dX12_read_110 k6_157 oVX12_want rfl rfl ?_
                refine r_wantF (f := tS tp nt (tE tp nt e)) rfl (by omega) ?_
                refine h_aload_n dX12_read_113 rfl ?_
                refine h_cV0 dX12_read_114 k6_148 oVX12_isGood rfl rfl ?_
                refine r_good0 (f := tS tp nt (tE tp nt e)) rfl (by omega) ?_
                refine h_ifeq (tgt := 140) dX12_read_117 rfl (fun _ => ?_) (fun c => absurd (by decide) c)
                refine h_goto (tgt := 21) dX12_read_140 rfl ?_
                have n0 : ¬ tC tp nt e = 0 := fun z => c_25 ((rk_end he hb hK1).mpr z)
                exact Fl n _ _ _ (tS tp nt (tE tp nt e)) (by rw [← hr]; exact rd_f n0 (ln_2 hl1 hl2)) (by omega) (RM_tr hM1 (RM_tr (RF_rm (SR_rf hS2)) (F1_rm (.inr (.inr (.inl rfl)))))) (JQ_tr hJ1 JQ_up) rfl
              · refine h_cV1 dX12_read_110 k6_157 oVX12_want rfl rfl ?_
                refine r_wantF (f := tS tp nt (tE tp nt e)) rfl (by omega) ?_
                refine h_aload_n dX12_read_113 rfl ?_
                refine h_cV0 dX12_read_114 k6_148 oVX12_isGood rfl rfl ?_
                refine r_good0 (f := tS tp nt (tE tp nt e)) rfl (by omega) ?_
                refine h_ifeq (tgt := 140) dX12_read_117 rfl (fun _ => ?_) (fun c => absurd (by decide) c)
                refine h_goto (tgt := 21) dX12_read_140 rfl ?_
                have n0 : ¬ tC tp nt e = 0 := fun z => c_25 ((rk_end he hb hK1).mpr z)
                exact Fl n _ _ _ (tS tp nt (tE tp nt e)) (by rw [← hr]; exact rd_f n0 (ln_2 hl1 hl2)) (by omega) (RM_tr hM1 (RM_tr (RF_rm (SR_rf hS2)) (F1_rm (.inr (.inr (.inl rfl)))))) (JQ_tr hJ1 JQ_up) rfl
        · have b1 : ¬ _ = 1 := fun z => b1 ((rk_1 he hb hK1).mpr z)
          refine h_ifeq (tgt := 56) dX12_read_43 rfl (fun _ => ?_) (fun c => absurd (by decide) c)
          refine h_iconst dX12_read_56 ci_0 ?_
          refine h_cV1 dX12_read_57 k6_157 oVX12_want rfl rfl ?_
          have hb1 : ¬ (tC tp nt e = 1 ∧ n < 8) := fun z => by omega
          refine r_want0 hT1 he hK1 hf1 ?_
          refine h_aload_n dX12_read_60 rfl ?_
          refine h_cV0 dX12_read_61 k6_148 oVX12_isGood rfl rfl ?_
          refine r_good0 (f := tS tp nt e) rfl (by omega) ?_
          refine h_ifeq (tgt := 76) dX12_read_64 rfl (fun _ => ?_) (fun c => absurd (by decide) c)
          refine h_iconst dX12_read_76 ci_0 ?_
          refine h_istore_n dX12_read_77 (Nat.le_of_ble_eq_true rfl) ?_
          refine h_aload_n dX12_read_78 rfl ?_
          refine h_cV0 dX12_read_79 k6_148 oVX12_isGood rfl rfl ?_
          refine r_good0 (f := tS tp nt e) rfl (by omega) ?_
          refine h_ifeq (tgt := 103) dX12_read_82 rfl (fun _ => ?_) (fun c => absurd (by decide) c)
          refine h_aload_n dX12_read_103 rfl ?_
          refine h_aload_n dX12_read_104 rfl ?_
          refine h_bipush dX12_read_105 cb_59 ?_
          refine h_cV1 dX12_read_107 k6_179 oVX12_isMark rfl rfl ?_
          refine r_isMark (fun _ => ?_) (fun _ => ?_)
          · refine h_cV1 dX12_read_110 k6_157 oVX12_want rfl rfl ?_
            refine r_wantF (f := tS tp nt e) rfl (by omega) ?_
            refine h_aload_n dX12_read_113 rfl ?_
            refine h_cV0 dX12_read_114 k6_148 oVX12_isGood rfl rfl ?_
            refine r_good0 (f := tS tp nt e) rfl (by omega) ?_
            refine h_ifeq (tgt := 140) dX12_read_117 rfl (fun _ => ?_) (fun c => absurd (by decide) c)
            refine h_goto (tgt := 21) dX12_read_140 rfl ?_
            have n0 : ¬ tC tp nt e = 0 := fun z => c_25 ((rk_end he hb hK1).mpr z)
            exact Fl n _ _ J1 (tS tp nt e) (by rw [← hr]; exact rd_f n0 (ln_1 hb1)) (by omega) (RM_tr hM1 (F1_rm (.inr (.inr (.inl rfl))))) hJ1 rfl
          · refine h_cV1 dX12_read_110 k6_157 oVX12_want rfl rfl ?_
            refine r_wantF (f := tS tp nt e) rfl (by omega) ?_
            refine h_aload_n dX12_read_113 rfl ?_
            refine h_cV0 dX12_read_114 k6_148 oVX12_isGood rfl rfl ?_
            refine r_good0 (f := tS tp nt e) rfl (by omega) ?_
            refine h_ifeq (tgt := 140) dX12_read_117 rfl (fun _ => ?_) (fun c => absurd (by decide) c)
            refine h_goto (tgt := 21) dX12_read_140 rfl ?_
            have n0 : ¬ tC tp nt e = 0 := fun z => c_25 ((rk_end he hb hK1).mpr z)
            exact Fl n _ _ J1 (tS tp nt e) (by rw [← hr]; exact rd_f n0 (ln_1 hb1)) (by omega) (RM_tr hM1 (F1_rm (.inr (.inr (.inl rfl))))) hJ1 rfl
  show HV l mX12_read (dp + 7) 0 0 0 [some (.ref 82), none, none] [] hSH I J (hRR lt tx) Q
  refine h_aload_n dX12_read_0 rfl ?_
  refine h_iconst dX12_read_1 ci_m1 ?_
  refine h_putI dX12_read_2 f_X12_255_10 p_X12_10_27 (fun h => by cases h) rfl ?_
  refine h_aload_n dX12_read_5 rfl ?_
  refine h_iconst dX12_read_6 ci_0 ?_
  refine h_putI dX12_read_7 f_X12_228_10 p_X12_10_25 (fun h => by cases h) rfl ?_
  refine h_aload_n dX12_read_10 rfl ?_
  refine h_iconst dX12_read_11 ci_0 ?_
  refine h_putI dX12_read_12 f_X12_272_10 p_X12_10_32 (fun h => by cases h) rfl ?_
  refine h_aload_n dX12_read_15 rfl ?_
  refine h_cV0 dX12_read_16 k6_134 oVX12_advance rfl rfl ?_
  refine r_advance (tp := tp) (nt := nt) (e := 0) hT rfl (by omega) (fun I2 v2 hS2 hK2 => ?_)
  refine h_iconst dX12_read_19 ci_0 ?_
  refine h_istore_n dX12_read_20 (Nat.le_of_ble_eq_true rfl) ?_
  exact Lo 10 0 0 0 _ _ none I2 _ rfl (by omega) rfl (rT_rf (SR_rf hS2) hT) (by omega) hK2 (SR_f hS2 (by decide) (by decide) (by decide)) ⟨by omega, SR_f hS2 (by decide) (by decide) (by decide), fun i hi => absurd hi (by omega), fun _ => 0, rfl, fun c hc => absurd hc (by omega), fun c hc => absurd hc (by omega)⟩ (by omega) (RM_tr (F1_rm (.inr (.inr (.inl rfl)))) (RM_tr (F1_rm (.inr (.inl rfl))) (RM_tr (F1_rm (.inr (.inr (.inr rfl)))) (RF_rm (SR_rf hS2))))) JQ_up
