def cm (I : hI) (i : Nat) : Nat := (I 97 i).toInt.toNat
theorem cm_nI {I : hI} {i c : Nat} (h : I 97 i = nI c) (hc : c < 5000) : cm I i = c := by
  unfold cm
  rw [h, nI_toInt (by omega)]
  rfl
theorem rev_congr {cw cw2 : Nat → Nat} {ki aw wh : Nat} : ∀ (n i : Nat) (s : List Int32), (∀ j, i ≤ j → j < i + n → cw2 j = cw j) → rev cw2 ki aw wh n i s = rev cw ki aw wh n i s
  | 0, _, _, _ => rfl
  | n + 1, i, s, h => by
    unfold rev
    rw [h i (by omega) (by omega)]
    cases rst ki aw wh (cw i) s with
    | none => rfl
    | some s2 => exact rev_congr n (i + 1) s2 (fun j h1 h2 => h j (by omega) (by omega))
theorem rev_sn {cw : Nat → Nat} {ki aw wh : Nat} : ∀ (n i : Nat) (s S S2 : List Int32), rev cw ki aw wh n i s = some S → rst ki aw wh (cw (i + n)) S = some S2 → rev cw ki aw wh (n + 1) i s = some S2
  | 0, i, s, S, S2, h, h2 => by
    cases h
    unfold rev
    rw [Nat.add_zero] at h2
    rw [h2]
    rfl
  | n + 1, i, s, S, S2, h, h2 => by
    unfold rev at h
    unfold rev
    cases hr : rst ki aw wh (cw i) s with
    | none => rw [hr] at h; cases h
    | some s2 =>
      rw [hr] at h
      exact rev_sn n (i + 1) s2 S S2 h (by rw [show i + 1 + n = i + (n + 1) by omega]; exact h2)
abbrev qS : Type := Nat → Nat → Nat → List Int32
/-- what is told from s up to fm leaves the stack S -/
def EV (g : Nat → Int32) (I : hI) (s fm : Nat) (S : qS) : Prop := s ≤ fm ∧ (∀ j, j < s → I 97 j = g j) ∧ (∀ i, i < fm → I 97 i = nI (cm I i) ∧ cm I i < 5000) ∧ ∀ ki aw wh, ki ≤ 5 → aw ≤ 999 → wh ≤ 2340 → rev (cm I) ki aw wh (fm - s) s [] = some (S ki aw wh)
theorem EV_fr {g : Nat → Int32} {I I2 : hI} {s fm : Nat} {S : qS} (h : EV g I s fm S) (e : I2 97 = I 97) : EV g I2 s fm S := by
  unfold EV cm
  rw [e]
  exact h
theorem EV_em {g : Nat → Int32} {I I2 : hI} {s fm c : Nat} {S S2 : qS} (h : EV g I s fm S) (e : I2 97 = upd (I 97) fm (nI c)) (hc : c < 5000) (hS : ∀ ki aw wh, ki ≤ 5 → aw ≤ 999 → wh ≤ 2340 → rst ki aw wh c (S ki aw wh) = some (S2 ki aw wh)) : EV g I2 s (fm + 1) S2 := by
  obtain ⟨h1, h0, h2, h3⟩ := h
  have e1 : ∀ j, j < fm → cm I2 j = cm I j := fun j hj => by unfold cm; rw [e, upd_n _ _ (by omega)]
  have e2 : I2 97 fm = nI c := by rw [e, upd_s]
  have e3 := cm_nI e2 hc
  refine ⟨by omega, fun j hj => by rw [e, upd_n _ _ (by omega)]; exact h0 j hj, fun i hi => ?_, fun ki aw wh q1 q2 q3 => ?_⟩
  · by_cases h : i = fm
    · subst h; rw [e3]; exact ⟨e2, hc⟩
    · rw [e1 i (by omega), e, upd_n _ _ h]; exact h2 i (by omega)
  · rw [show fm + 1 - s = (fm - s) + 1 by omega]
    refine rev_sn _ _ _ (S ki aw wh) _ ?_ ?_
    · rw [rev_congr (cw := cm I) _ _ _ (fun j j1 j2 => e1 j (by omega))]
      exact h3 ki aw wh q1 q2 q3
    · rw [show s + (fm - s) = fm by omega, e3]
      exact hS ki aw wh q1 q2 q3
theorem EV_S {g : Nat → Int32} {I : hI} {s fm : Nat} {S S2 : qS} (h : EV g I s fm S) (e : S = S2) : EV g I s fm S2 := e ▸ h
/-- the signs that wait -/
def WR (I : hI) (L : List Int32) : Prop := I 82 33 = nI L.length ∧ rep (I 98) L
def rsts (ki aw wh : Nat) : List Nat → List Int32 → Option (List Int32)
  | [], s => some s
  | c :: P, s => match rst ki aw wh c s with
    | some s2 => rsts ki aw wh P s2
    | none => none
theorem rsts_c {ki aw wh c : Nat} {P : List Nat} {s S : List Int32} (h : rsts ki aw wh (c :: P) s = some S) : ∃ s2, rst ki aw wh c s = some s2 ∧ rsts ki aw wh P s2 = some S := by
  unfold rsts at h
  cases hr : rst ki aw wh c s with
  | none => rw [hr] at h; cases h
  | some s2 => rw [hr] at h; exact ⟨s2, rfl, h⟩
theorem rsts_q {c : Nat} {P : List Nat} {S S2 : qS} (h : ∀ ki aw wh, ki ≤ 5 → aw ≤ 999 → wh ≤ 2340 → rsts ki aw wh (c :: P) (S ki aw wh) = some (S2 ki aw wh)) : ∃ S3 : qS, (∀ ki aw wh, ki ≤ 5 → aw ≤ 999 → wh ≤ 2340 → rst ki aw wh c (S ki aw wh) = some (S3 ki aw wh)) ∧ ∀ ki aw wh, ki ≤ 5 → aw ≤ 999 → wh ≤ 2340 → rsts ki aw wh P (S3 ki aw wh) = some (S2 ki aw wh) := by
  refine ⟨fun ki aw wh => (rst ki aw wh c (S ki aw wh)).getD [], fun ki aw wh q1 q2 q3 => ?_, fun ki aw wh q1 q2 q3 => ?_⟩
  · obtain ⟨s2, e1, e2⟩ := rsts_c (h ki aw wh q1 q2 q3)
    show rst ki aw wh c (S ki aw wh) = some ((rst ki aw wh c (S ki aw wh)).getD [])
    rw [e1]; rfl
  · obtain ⟨s2, e1, e2⟩ := rsts_c (h ki aw wh q1 q2 q3)
    show rsts ki aw wh P ((rst ki aw wh c (S ki aw wh)).getD []) = some (S2 ki aw wh)
    rw [e1]; exact e2
def stp (le : Nat) (T : List Int32) : Prop := T = [] ∨ (∃ T2, T = nI 10 :: T2) ∨ ∃ x T2, T = nI x :: T2 ∧ le < x ∧ x ≤ 9
theorem r_settle {l : Launch} {dp : Nat} {le : Nat} {g : Nat → Int32} {s fm : Nat} {S S2 : qS} {P : List Nat} {T : List Int32} {I : hI} {J : hJ} {lt tx : Option Nat} {Q : hQ} (hle : 7 ≤ le ∧ le ≤ 9) (hP : ∀ x, x ∈ P → 7 ≤ x ∧ x ≤ le) (hT : stp le T) (h32 : I 82 32 = nI fm) (hW : WR I (P.map nI ++ T)) (hfm : fm + (P.map nI ++ T).length ≤ 210) (hE : EV g I s fm S) (hS : ∀ ki aw wh, ki ≤ 5 → aw ≤ 999 → wh ≤ 2340 → rsts ki aw wh P (S ki aw wh) = some (S2 ki aw wh)) (hQ : ∀ I2, SE I I2 → I2 82 32 = nI (fm + P.length) → WR I2 T → EV g I2 s (fm + P.length) S2 → Q none hSH I2 J (hRR lt tx))  : HC l mX12_settle (dp + 1) 0 0 [.ref 82, .int (nI le)] hSH I J (hRR lt tx) Q := by
  refine HC.of (by decide +kernel) rfl (Nat.le_of_ble_eq_true rfl) ?_
  have Lo : ∀ (P : List Nat) (fm2 : Nat) (S : qS) (I1 : hI), (∀ x, x ∈ P → 7 ≤ x ∧ x ≤ le) → SE I I1 → I1 82 32 = nI fm2 → WR I1 (P.map nI ++ T) → fm2 + (P.map nI ++ T).length ≤ 210 → EV g I1 s fm2 S → (∀ ki aw wh, ki ≤ 5 → aw ≤ 999 → wh ≤ 2340 → rsts ki aw wh P (S ki aw wh) = some (S2 ki aw wh)) → (∀ I2, SE I I2 → I2 82 32 = nI (fm2 + P.length) → WR I2 T → EV g I2 s (fm2 + P.length) S2 → Q none hSH I2 J (hRR lt tx)) → HV l mX12_settle (dp + 1) 0 0 0 [some (.ref 82), some (.int (nI le))] [] hSH I1 J (hRR lt tx) Q := by
    intro P
    induction P with
    | nil =>
      intro fm2 S I1 hP1 hS1 h321 hW1 hf1 hE1 hs1 hQ1
      have hfin : Q none hSH I1 J (hRR lt tx) := hQ1 I1 hS1 h321 hW1 (by
        obtain ⟨a, b, c, dd⟩ := hE1
        exact ⟨a, b, c, fun ki aw wh q1 q2 q3 => (dd ki aw wh q1 q2 q3).trans (hs1 ki aw wh q1 q2 q3)⟩)
      rcases hT with hT | ⟨T2, hT⟩ | ⟨x, T2, hT, hx, hx9⟩
      · subst hT
        refine h_aload_n dX12_settle_0 rfl ?_
        refine h_getI dX12_settle_1 f_X12_275_10 rfl (show _ = nI 0 from hW1.1) ?_
        refine h_ifle (tgt := 64) dX12_settle_4 rfl (fun _ => ?_) (fun c => absurd (by decide) c)
        refine h_return dX12_settle_64 rfl ?_
        exact hfin
      · subst hT
        have hl : T2.length + 1 ≤ 210 := by have := hf1; simp at this; omega
        refine h_aload_n dX12_settle_0 rfl ?_
        refine h_getI dX12_settle_1 f_X12_275_10 rfl (show _ = nI (T2.length + 1) from hW1.1) ?_
        refine h_ifle (tgt := 64) dX12_settle_4 rfl (fun c_4 => ?_) (fun c_4 => ?_)
        · rw [show (0 : Int32) = nI 0 from rfl, nI_leI (by omega) (by omega)] at c_4
          omega
        · rw [show (0 : Int32) = nI 0 from rfl, nI_leI (by omega) (by omega)] at c_4
          refine h_aload_n dX12_settle_7 rfl ?_
          refine h_getR dX12_settle_8 f_X12_56_10 rfl rfl ?_
          refine h_aload_n dX12_settle_11 rfl ?_
          refine h_getI dX12_settle_12 f_X12_275_10 rfl (show _ = nI (T2.length + 1) from hW1.1) ?_
          refine h_iconst dX12_settle_15 ci_1 ?_
          refine h_isubN dX12_settle_16 (by omega) ?_
          refine h_ialdN (j := (T2.length + 1) - 1) dX12_settle_17 rfl rfl (by omega) rfl (show _ = nI 10 from hW1.2.1) ?_
          refine h_bipush dX12_settle_18 cb_10 ?_
          refine h_icmpeq (tgt := 64) dX12_settle_20 rfl (fun _ => ?_) (fun c => absurd (by decide) c)
          refine h_return dX12_settle_64 rfl ?_
          exact hfin
      · subst hT
        have hl : T2.length + 1 ≤ 210 := by have := hf1; simp at this; omega
        refine h_aload_n dX12_settle_0 rfl ?_
        refine h_getI dX12_settle_1 f_X12_275_10 rfl (show _ = nI (T2.length + 1) from hW1.1) ?_
        refine h_ifle (tgt := 64) dX12_settle_4 rfl (fun c_4 => ?_) (fun c_4 => ?_)
        · rw [show (0 : Int32) = nI 0 from rfl, nI_leI (by omega) (by omega)] at c_4
          omega
        · rw [show (0 : Int32) = nI 0 from rfl, nI_leI (by omega) (by omega)] at c_4
          refine h_aload_n dX12_settle_7 rfl ?_
          refine h_getR dX12_settle_8 f_X12_56_10 rfl rfl ?_
          refine h_aload_n dX12_settle_11 rfl ?_
          refine h_getI dX12_settle_12 f_X12_275_10 rfl (show _ = nI (T2.length + 1) from hW1.1) ?_
          refine h_iconst dX12_settle_15 ci_1 ?_
          refine h_isubN dX12_settle_16 (by omega) ?_
          refine h_ialdN (j := (T2.length + 1) - 1) dX12_settle_17 rfl rfl (by omega) rfl (show _ = nI x from hW1.2.1) ?_
          refine h_bipush dX12_settle_18 cb_10 ?_
          refine h_icmpeq (tgt := 64) dX12_settle_20 rfl (fun c_20 => ?_) (fun c_20 => ?_)
          · rw [nI_eq (by omega) (by omega)] at c_20
            omega
          · rw [nI_eq (by omega) (by omega)] at c_20
            refine h_aload_n dX12_settle_23 rfl ?_
            refine h_getR dX12_settle_24 f_X12_56_10 rfl rfl ?_
            refine h_aload_n dX12_settle_27 rfl ?_
            refine h_getI dX12_settle_28 f_X12_275_10 rfl (show _ = nI (T2.length + 1) from hW1.1) ?_
            refine h_iconst dX12_settle_31 ci_1 ?_
            refine h_isubN dX12_settle_32 (by omega) ?_
            refine h_ialdN (j := (T2.length + 1) - 1) dX12_settle_33 rfl rfl (by omega) rfl (show _ = nI x from hW1.2.1) ?_
            refine h_iload_n dX12_settle_34 rfl ?_
            refine h_icmpgt (tgt := 64) dX12_settle_35 rfl (fun c_35 => ?_) (fun c_35 => ?_)
            · rw [nI_ltI (by omega) (by omega)] at c_35
              refine h_return dX12_settle_64 rfl ?_
              exact hfin
            · rw [nI_ltI (by omega) (by omega)] at c_35
              omega
    | cons c P ih =>
      intro fm2 S I1 hP1 hS1 h321 hW1 hf1 hE1 hs1 hQ1
      obtain ⟨S3, hs2, hs3⟩ := rsts_q hs1
      have hc := hP1 c (List.mem_cons_self ..)
      obtain ⟨K, hK⟩ : ∃ K, K = (P.map nI ++ T).length := ⟨_, rfl⟩
      have hf2 : fm2 + (K + 1) ≤ 210 := by rw [hK]; exact hf1
      have h331 : I1 82 33 = nI (K + 1) := by rw [hK]; exact hW1.1
      have h98 : I1 98 K = nI c := by rw [hK]; exact hW1.2.1
      refine h_aload_n dX12_settle_0 rfl ?_
      refine h_getI dX12_settle_1 f_X12_275_10 rfl h331 ?_
      refine h_ifle (tgt := 64) dX12_settle_4 rfl (fun c_4 => ?_) (fun c_4 => ?_)
      · rw [show (0 : Int32) = nI 0 from rfl, nI_leI (by omega) (by omega)] at c_4
        omega
      · rw [show (0 : Int32) = nI 0 from rfl, nI_leI (by omega) (by omega)] at c_4
        refine h_aload_n dX12_settle_7 rfl ?_
        refine h_getR dX12_settle_8 f_X12_56_10 rfl rfl ?_
        refine h_aload_n dX12_settle_11 rfl ?_
        refine h_getI dX12_settle_12 f_X12_275_10 rfl h331 ?_
        refine h_iconst dX12_settle_15 ci_1 ?_
        refine h_isubN dX12_settle_16 (by omega) ?_
        refine h_ialdN (j := (K + 1) - 1) dX12_settle_17 rfl rfl (by omega) rfl (show _ = nI c from h98) ?_
        refine h_bipush dX12_settle_18 cb_10 ?_
        refine h_icmpeq (tgt := 64) dX12_settle_20 rfl (fun c_20 => ?_) (fun c_20 => ?_)
        · rw [nI_eq (by omega) (by omega)] at c_20
          omega
        · rw [nI_eq (by omega) (by omega)] at c_20
          refine h_aload_n dX12_settle_23 rfl ?_
          refine h_getR dX12_settle_24 f_X12_56_10 rfl rfl ?_
          refine h_aload_n dX12_settle_27 rfl ?_
          refine h_getI dX12_settle_28 f_X12_275_10 rfl h331 ?_
          refine h_iconst dX12_settle_31 ci_1 ?_
          refine h_isubN dX12_settle_32 (by omega) ?_
          refine h_ialdN (j := (K + 1) - 1) dX12_settle_33 rfl rfl (by omega) rfl (show _ = nI c from h98) ?_
          refine h_iload_n dX12_settle_34 rfl ?_
          refine h_icmpgt (tgt := 64) dX12_settle_35 rfl (fun c_35 => ?_) (fun c_35 => ?_)
          · rw [nI_ltI (by omega) (by omega)] at c_35
            omega
          · rw [nI_ltI (by omega) (by omega)] at c_35
            refine h_aload_n dX12_settle_38 rfl ?_
            refine h_dup dX12_settle_39 rfl ?_
            refine h_getI dX12_settle_40 f_X12_275_10 rfl h331 ?_
            refine h_iconst dX12_settle_43 ci_1 ?_
            refine h_isubN dX12_settle_44 (by omega) ?_
            refine h_putI dX12_settle_45 f_X12_275_10 p_X12_10_33 (fun h => by cases h) rfl ?_
            refine h_aload_n dX12_settle_48 rfl ?_
            refine h_aload_n dX12_settle_49 rfl ?_
            refine h_getR dX12_settle_50 f_X12_56_10 rfl rfl ?_
            refine h_aload_n dX12_settle_53 rfl ?_
            refine h_getI dX12_settle_54 f_X12_275_10 rfl (show _ = nI K from rfl) ?_
            refine h_ialdN (j := K) dX12_settle_57 rfl rfl (by omega) rfl (show _ = nI c from h98) ?_
            refine h_cV1 dX12_settle_58 k6_199 oVX12_emit rfl rfl ?_
            refine r_emit (fm := fm2) h321 (by omega) ?_
            refine h_goto (tgt := 0) dX12_settle_61 rfl ?_
            refine ih (fm2 + 1) S3 _ (fun x hx => hP1 x (List.mem_cons_of_mem _ hx)) (SE_tr hS1 (SE_tr W_se EM_se)) rfl ⟨by rw [← hK]; rfl, hW1.2.2⟩ (by rw [← hK]; omega) (EV_em hE1 rfl (by omega) hs2) hs3 ?_
            rw [show fm2 + 1 + P.length = fm2 + (P.length + 1) by omega]
            exact hQ1
  exact Lo P fm S I hP (SE_id I) h32 hW hfm hE hS hQ
theorem r_settleF {l : Launch} {dp : Nat} {le fm wa : Nat} {I : hI} {J : hJ} {lt tx : Option Nat} {Q : hQ} (h32 : I 82 32 = nI fm) (h33 : I 82 33 = nI wa) (hfm : fm + wa ≤ 210) (hQ : ∀ I2 fm2 wa2, SE I I2 → I2 82 32 = nI fm2 → I2 82 33 = nI wa2 → fm2 + wa2 = fm + wa → Q none hSH I2 J (hRR lt tx))  : HC l mX12_settle (dp + 1) 0 0 [.ref 82, .int (nI le)] hSH I J (hRR lt tx) Q := by
  refine HC.of (by decide +kernel) rfl (Nat.le_of_ble_eq_true rfl) ?_
  have Lo : ∀ (w fm2 : Nat) (I1 : hI), SE I I1 → I1 82 32 = nI fm2 → I1 82 33 = nI w → fm2 + w = fm + wa → HV l mX12_settle (dp + 1) 0 0 0 [some (.ref 82), some (.int (nI le))] [] hSH I1 J (hRR lt tx) Q := by
    intro w
    induction w with
    | zero =>
      intro fm2 I1 hS1 h321 h331 hf1
      refine h_aload_n dX12_settle_0 rfl ?_
      refine h_getI dX12_settle_1 f_X12_275_10 rfl h331 ?_
      refine h_ifle (tgt := 64) dX12_settle_4 rfl (fun _ => ?_) (fun c => absurd (by decide) c)
      refine h_return dX12_settle_64 rfl ?_
      exact hQ I1 fm2 0 hS1 h321 h331 hf1
    | succ w ih =>
      intro fm2 I1 hS1 h321 h331 hf1
      refine h_aload_n dX12_settle_0 rfl ?_
      refine h_getI dX12_settle_1 f_X12_275_10 rfl h331 ?_
      refine h_ifle (tgt := 64) dX12_settle_4 rfl (fun c_4 => ?_) (fun c_4 => ?_)
      · rw [show (0 : Int32) = nI 0 from rfl, nI_leI (by omega) (by omega)] at c_4
        omega
      · rw [show (0 : Int32) = nI 0 from rfl, nI_leI (by omega) (by omega)] at c_4
        refine h_aload_n dX12_settle_7 rfl ?_
        refine h_getR dX12_settle_8 f_X12_56_10 rfl rfl ?_
        refine h_aload_n dX12_settle_11 rfl ?_
        refine h_getI dX12_settle_12 f_X12_275_10 rfl h331 ?_
        refine h_iconst dX12_settle_15 ci_1 ?_
        refine h_isubN dX12_settle_16 (by omega) ?_
        refine h_ialdN (j := (w + 1) - 1) dX12_settle_17 rfl rfl (by omega) rfl rfl ?_
        refine h_bipush dX12_settle_18 cb_10 ?_
        refine h_icmpeq (tgt := 64) dX12_settle_20 rfl (fun c_20 => ?_) (fun c_20 => ?_)
        · refine h_return dX12_settle_64 rfl ?_
          exact hQ I1 fm2 (w + 1) hS1 h321 h331 hf1
        · refine h_aload_n dX12_settle_23 rfl ?_
          refine h_getR dX12_settle_24 f_X12_56_10 rfl rfl ?_
          refine h_aload_n dX12_settle_27 rfl ?_
          refine h_getI dX12_settle_28 f_X12_275_10 rfl h331 ?_
          refine h_iconst dX12_settle_31 ci_1 ?_
          refine h_isubN dX12_settle_32 (by omega) ?_
          refine h_ialdN (j := (w + 1) - 1) dX12_settle_33 rfl rfl (by omega) rfl rfl ?_
          refine h_iload_n dX12_settle_34 rfl ?_
          refine h_icmpgt (tgt := 64) dX12_settle_35 rfl (fun c_35 => ?_) (fun c_35 => ?_)
          · refine h_return dX12_settle_64 rfl ?_
            exact hQ I1 fm2 (w + 1) hS1 h321 h331 hf1
          · refine h_aload_n dX12_settle_38 rfl ?_
            refine h_dup dX12_settle_39 rfl ?_
            refine h_getI dX12_settle_40 f_X12_275_10 rfl h331 ?_
            refine h_iconst dX12_settle_43 ci_1 ?_
            refine h_isubN dX12_settle_44 (by omega) ?_
            refine h_putI dX12_settle_45 f_X12_275_10 p_X12_10_33 (fun h => by cases h) rfl ?_
            refine h_aload_n dX12_settle_48 rfl ?_
            refine h_aload_n dX12_settle_49 rfl ?_
            refine h_getR dX12_settle_50 f_X12_56_10 rfl rfl ?_
            refine h_aload_n dX12_settle_53 rfl ?_
            refine h_getI dX12_settle_54 f_X12_275_10 rfl (show _ = nI w from rfl) ?_
            refine h_ialdN (j := w) dX12_settle_57 rfl rfl (by omega) rfl rfl ?_
            refine h_cV1 dX12_settle_58 k6_199 oVX12_emit rfl rfl ?_
            refine r_emit (fm := fm2) h321 (by omega) ?_
            refine h_goto (tgt := 0) dX12_settle_61 rfl ?_
            exact ih (fm2 + 1) _ (SE_tr hS1 (SE_tr W_se EM_se)) rfl rfl (by omega)
  exact Lo wa fm I (SE_id I) h32 h33 rfl
theorem r_hold {l : Launch} {dp : Nat} {wa : Nat} {c : Int32} {tp : Nat → Nat} {nt e : Nat} {I : hI} {J : hJ} {lt tx : Option Nat} {Q : hQ} (hT : rT I nt tp) (he : e ≤ nt) (hK : RK I J tp nt e) (h33 : I 82 33 = nI wa) (hwa : wa < 210) (hQ : ∀ I2 v, SR (upI (upI I 98 wa c) 82 33 (nI (wa + 1))) I2 → RK I2 (upJ J 82 26 v) tp nt (tE tp nt e) → Q none hSH I2 (upJ J 82 26 v) (hRR lt tx))  : HC l mX12_hold (dp + 2) 0 0 [.ref 82, .int c] hSH I J (hRR lt tx) Q := by
  refine HC.of (by decide +kernel) rfl (Nat.le_of_ble_eq_true rfl) ?_
  show HV l mX12_hold (dp + 2) 0 0 0 [some (.ref 82), some (.int c)] [] hSH I J (hRR lt tx) Q
  refine h_aload_n dX12_hold_0 rfl ?_
  refine h_getR dX12_hold_1 f_X12_56_10 rfl rfl ?_
  refine h_aload_n dX12_hold_4 rfl ?_
  refine h_getI dX12_hold_5 f_X12_275_10 rfl h33 ?_
  refine h_iload_n dX12_hold_8 rfl ?_
  refine h_iastN (j := wa) dX12_hold_9 rfl rfl (by omega) rfl ?_
  refine h_aload_n dX12_hold_10 rfl ?_
  refine h_dup dX12_hold_11 rfl ?_
  refine h_getI dX12_hold_12 f_X12_275_10 rfl h33 ?_
  refine h_iconst dX12_hold_15 ci_1 ?_
  refine h_iaddN dX12_hold_16 ?_
  refine h_putI dX12_hold_17 f_X12_275_10 p_X12_10_33 (fun h => by cases h) rfl ?_
  refine h_aload_n dX12_hold_20 rfl ?_
  refine h_cV0 dX12_hold_21 k6_134 oVX12_advance rfl rfl ?_
  refine r_advance (e := tE tp nt e) (rT_rf HO_rf hT) hK.2.1 (tE_rng tp he).2.1 (fun I2 v hS hK2 => ?_)
  refine h_return dX12_hold_24 rfl ?_
  exact hQ I2 v hS hK2
theorem rst_v {tp : Nat → Nat} {nt e ki aw wh : Nat} {S : List Int32} (he : e ≤ nt) (hV : isV (tC tp nt e)) : vC tp nt e < 5000 ∧ rst ki aw wh (vC tp nt e) S = some (nI (vF tp nt e ki aw wh) :: S) := by
  have hw := vW_le (tC tp nt e)
  by_cases h0 : vW (tC tp nt e) = 0
  · have hc : tC tp nt e = 11 := by
      rcases hV with q | q
      · exact absurd q (vW_0 h0)
      · exact q
    have h9 := (tC_11 he hc).2.2.2
    have e1 : vC tp nt e = 3000 + tV tp nt e := if_pos h0
    have e2 : vF tp nt e ki aw wh = tV tp nt e := by
      unfold vF
      rw [if_neg (by omega), if_neg (by omega), if_neg (by omega), if_neg (by omega)]
    refine ⟨by omega, ?_⟩
    rw [e1, e2]
    unfold rst
    rw [if_neg (by omega), if_neg (by omega), if_pos (by omega), show 3000 + tV tp nt e - 3000 = tV tp nt e by omega]
  · have e1 : vC tp nt e = vW (tC tp nt e) := if_neg h0
    refine ⟨by omega, ?_⟩
    rw [e1]
    have h4 : tC tp nt e = 6 ∨ tC tp nt e = 7 ∨ tC tp nt e = 8 ∨ tC tp nt e = 9 := by omega
    unfold vF
    rcases h4 with h | h | h | h
    · rw [h]; rfl
    · rw [h]; rfl
    · rw [h]; rfl
    · rw [h]; rfl
def mkC (c : Nat) : Nat := if c = 80 then 15 else if c = 81 then 16 else if c = 82 then 17 else 0
theorem rst_m {ki aw wh c a b : Nat} {S : List Int32} (hc : 80 ≤ c ∧ c ≤ 82) (ha : a < 1000) (hb : b < 1000) : mkC c < 5000 ∧ rst ki aw wh (mkC c) (nI b :: nI a :: S) = some (nI (bit (cmq c a b)) :: S) := by
  have h4 : c = 80 ∨ c = 81 ∨ c = 82 := by omega
  rcases h4 with h | h | h
  · subst h
    refine ⟨by decide, ?_⟩
    show some ((if nI a < nI b then nI 1 else nI 0) :: S) = some (nI (bit (decide (a < b))) :: S)
    by_cases h : a < b
    · rw [if_pos ((nI_ltI (by omega) (by omega)).mpr h), decide_eq_true h]; rfl
    · rw [if_neg (fun z => h ((nI_ltI (by omega) (by omega)).mp z)), decide_eq_false h]; rfl
  · subst h
    refine ⟨by decide, ?_⟩
    show some ((if nI a = nI b then nI 1 else nI 0) :: S) = some (nI (bit (decide (a = b))) :: S)
    by_cases h : a = b
    · rw [if_pos ((nI_eq (by omega) (by omega)).mpr h), decide_eq_true h]; rfl
    · rw [if_neg (fun z => h ((nI_eq (by omega) (by omega)).mp z)), decide_eq_false h]; rfl
  · subst h
    refine ⟨by decide, ?_⟩
    show some ((if nI b < nI a then nI 1 else nI 0) :: S) = some (nI (bit (decide (b < a))) :: S)
    by_cases h : b < a
    · rw [if_pos ((nI_ltI (by omega) (by omega)).mpr h), decide_eq_true h]; rfl
    · rw [if_neg (fun z => h ((nI_ltI (by omega) (by omega)).mp z)), decide_eq_false h]; rfl
