theorem hRR_tx {lt tx v : Option Nat} : upR (hRR lt tx) 55 7 v = hRR lt v := by
  funext a j
  match a with
  | 0 => rfl
  | 1 => rfl
  | 2 => rfl
  | 3 => rfl
  | 4 => rfl
  | 5 => rfl
  | 6 => rfl
  | 7 => rfl
  | 8 => rfl
  | 9 => rfl
  | 10 => rfl
  | 11 => rfl
  | 12 => rfl
  | 13 => rfl
  | 14 => rfl
  | 15 => rfl
  | 16 => rfl
  | 17 => rfl
  | 18 => rfl
  | 19 => rfl
  | 20 => rfl
  | 21 => rfl
  | 22 => rfl
  | 23 => rfl
  | 24 => rfl
  | 25 => rfl
  | 26 => rfl
  | 27 => rfl
  | 28 => rfl
  | 29 => rfl
  | 30 => rfl
  | 31 => rfl
  | 32 => rfl
  | 33 => rfl
  | 34 => rfl
  | 35 => rfl
  | 36 => rfl
  | 37 => rfl
  | 38 => rfl
  | 39 => rfl
  | 40 => rfl
  | 41 => rfl
  | 42 => rfl
  | 43 => rfl
  | 44 => rfl
  | 45 => rfl
  | 46 => rfl
  | 47 => rfl
  | 48 => rfl
  | 49 => rfl
  | 50 => rfl
  | 51 => rfl
  | 52 => rfl
  | 53 => rfl
  | 54 => rfl
  | 55 =>
    match j with
    | 0 => rfl
    | 1 => rfl
    | 2 => rfl
    | 3 => rfl
    | 4 => rfl
    | 5 => rfl
    | 6 => rfl
    | 7 => rfl
    | 8 => rfl
    | 9 => rfl
    | 10 => rfl
    | 11 => rfl
    | 12 => rfl
    | 13 => rfl
    | j + 14 => rfl
  | a + 56 => exact (congrFun (if_neg (by omega)) j).trans rfl
noncomputable def rdA (tp : Nat → Nat) (nt : Nat) : Nat → Nat → Nat → (Nat → Nat) → (Nat → qP) → Nat ⊕ (Nat × (Nat → Nat) × (Nat → qP))
  | 0, _, _, _, _ => Sum.inl 999
  | q + 1, n, e, bw, qw => if tC tp nt e = 0 then Sum.inr (n, bw, qw) else match lnF tp nt n e with
    | Sum.inl f => Sum.inl f
    | Sum.inr (e2, b, p) => rdA tp nt q (n + 1) e2 (upn bw n b) (upq qw n (pq p))
/-- what a text says -/
noncomputable def rdT (tp : Nat → Nat) (nt : Nat) : Nat ⊕ (Nat × (Nat → Nat) × (Nat → qP)) := rdA tp nt 10 0 0 (fun _ => 0) (fun _ _ _ _ => true)
section RDA
variable {tp : Nat → Nat} {nt q n e f e2 b : Nat} {bw : Nat → Nat} {qw : Nat → qP} {p : Option qP}
theorem rd_0 (h : tC tp nt e = 0) : rdA tp nt (q + 1) n e bw qw = Sum.inr (n, bw, qw) := if_pos h
theorem rd_f (h : ¬ tC tp nt e = 0) (hl : lnF tp nt n e = Sum.inl f) : rdA tp nt (q + 1) n e bw qw = Sum.inl f := by
  refine (if_neg h).trans ?_
  rw [hl]
theorem rd_l (h : ¬ tC tp nt e = 0) (hl : lnF tp nt n e = Sum.inr (e2, b, p)) : rdA tp nt (q + 1) n e bw qw = rdA tp nt q (n + 1) e2 (upn bw n b) (upq qw n (pq p)) := by
  refine (if_neg h).trans ?_
  rw [hl]
end RDA
theorem ln_8 {tp : Nat → Nat} {nt n e e2 b : Nat} {p : Option qP} (h : lnF tp nt n e = Sum.inr (e2, b, p)) : n < 8 := by
  by_cases hn : n < 8
  · exact hn
  · rw [ln_1 (fun z => hn z.2)] at h
    cases h
theorem c_readFrom {l : Launch} {dp : Nat} {tp : Nat → Nat} {nt : Nat} {I : hI} {J : hJ} {lt tx : Option Nat} {Q : hQ} (h200 : nt ≤ 200) (htp : ∀ j, j < nt → tp j < 256 ∧ I 61 j = sb (tp j)) (hF : ∀ I2 f, rdT tp nt = Sum.inl f → f ≤ 200 → (∀ a, a < 55 ∨ 60 < a → I2 a = I a) → Q (some (.int (nI f))) hSH I2 J (hRR lt (some 61))) (hO : ∀ I2 n bw qw, rdT tp nt = Sum.inr (n, bw, qw) → (∀ a, a < 55 ∨ 60 < a → I2 a = I a) → cL I2 55 n bw qw → Q (some (.int (-1))) hSH I2 J (hRR lt (some 61)))  : HC l mX3_readFrom (dp + 18) 0 0 [.ref 55, .ref 61, .int (nI nt)] hSH I J (hRR lt tx) Q := by
  refine HC.of (by decide +kernel) rfl (Nat.le_of_ble_eq_true rfl) ?_
  have hb : ∀ j, j < nt → tp j < 256 := fun j hj => (htp j hj).1
  have Fl : ∀ (i : Nat) (I1 : hI) (f : Nat), i ≤ 10 → rdT tp nt = Sum.inl f → f ≤ 200 → (∀ a, a < 55 ∨ 60 < a → I1 a = I a) → I1 55 13 = nI f → HV l mX3_readFrom (dp + 18) 0 0 48 [some (.ref 55), some (.ref 61), some (.int (nI nt)), some (.int (nI i))] [] hSH I1 J (hRR lt (some 61)) Q := by
    intro i I1 f hi hr hf hA hf1
    refine h_iload_n dX3_readFrom_48 rfl ?_
    refine h_bipush dX3_readFrom_49 cb_8 ?_
    refine h_icmpgt (tgt := 80) dX3_readFrom_51 rfl (fun c_51 => ?_) (fun c_51 => ?_)
    · rw [nI_ltI (by omega) (by omega)] at c_51
      refine h_aload_n dX3_readFrom_80 rfl ?_
      refine h_getI dX3_readFrom_81 f_X3_53_3 rfl hf1 ?_
      refine h_ireturn dX3_readFrom_84 rfl ?_
      exact hF I1 f hr hf hA
    · rw [nI_ltI (by omega) (by omega)] at c_51
      refine h_aload_n dX3_readFrom_54 rfl ?_
      refine h_getI dX3_readFrom_55 f_X3_47_3 rfl rfl ?_
      refine h_iconst dX3_readFrom_58 ci_m1 ?_
      refine h_icmpeq (tgt := 80) dX3_readFrom_59 rfl (fun c_59 => ?_) (fun c_59 => ?_)
      · refine h_aload_n dX3_readFrom_80 rfl ?_
        refine h_getI dX3_readFrom_81 f_X3_53_3 rfl hf1 ?_
        refine h_ireturn dX3_readFrom_84 rfl ?_
        exact hF I1 f hr hf hA
      · refine h_aload_n dX3_readFrom_62 rfl ?_
        refine h_getI dX3_readFrom_63 f_X3_53_3 rfl hf1 ?_
        refine h_iconst dX3_readFrom_66 ci_m1 ?_
        refine h_icmpne (tgt := 80) dX3_readFrom_67 rfl (fun c_67 => ?_) (fun c_67 => ?_)
        · refine h_aload_n dX3_readFrom_80 rfl ?_
          refine h_getI dX3_readFrom_81 f_X3_53_3 rfl hf1 ?_
          refine h_ireturn dX3_readFrom_84 rfl ?_
          exact hF I1 f hr hf hA
        · exact absurd c_67 (nI_nn (by omega) (by decide))
  have Lo : ∀ (q n e m : Nat) (bw : Nat → Nat) (qw : Nat → qP) (I1 : hI), n + q = 10 → n ≤ 8 → rdA tp nt q n e bw qw = rdT tp nt → CX I1 tp nt → e ≤ nt → CT I1 tp nt e → I1 55 13 = -1 → DR I1 n m bw qw → 5 * m ≤ 2 * e → (∀ a, a < 55 ∨ 60 < a → I1 a = I a) → HV l mX3_readFrom (dp + 18) 0 0 48 [some (.ref 55), some (.ref 61), some (.int (nI nt)), some (.int (nI n))] [] hSH I1 J (hRR lt (some 61)) Q := by
    intro q
    induction q with
    | zero => intro n e m bw qw I1 h1 h8; omega
    | succ q ih =>
      intro n e m bw qw I1 h1 h8 hr hX h hT hf hD h5 hA
      refine h_iload_n dX3_readFrom_48 rfl ?_
      refine h_bipush dX3_readFrom_49 cb_8 ?_
      refine h_icmpgt (tgt := 80) dX3_readFrom_51 rfl (fun c_51 => ?_) (fun c_51 => ?_)
      · rw [nI_ltI (by omega) (by omega)] at c_51
        omega
      · rw [nI_ltI (by omega) (by omega)] at c_51
        refine h_aload_n dX3_readFrom_54 rfl ?_
        refine h_getI dX3_readFrom_55 f_X3_47_3 rfl hT.2.2.1 ?_
        refine h_iconst dX3_readFrom_58 ci_m1 ?_
        refine h_icmpeq (tgt := 80) dX3_readFrom_59 rfl (fun c_59 => ?_) (fun c_59 => ?_)
        · refine h_aload_n dX3_readFrom_80 rfl ?_
          refine h_getI dX3_readFrom_81 f_X3_53_3 rfl hf ?_
          refine h_ireturn dX3_readFrom_84 rfl ?_
          have h0 := (tI_end h hb).mp c_59
          exact hO I1 n bw qw (by rw [← hr]; exact rd_0 h0) hA (DR_cL hD (by omega))
        · refine h_aload_n dX3_readFrom_62 rfl ?_
          refine h_getI dX3_readFrom_63 f_X3_53_3 rfl hf ?_
          refine h_iconst dX3_readFrom_66 ci_m1 ?_
          refine h_icmpne (tgt := 80) dX3_readFrom_67 rfl (fun c => absurd (by decide) c) (fun _ => ?_)
          refine h_aload_n dX3_readFrom_70 rfl ?_
          refine h_cV0 dX3_readFrom_71 k3_208 oVX3_readLine rfl rfl ?_
          have n0 : ¬ tC tp nt e = 0 := fun z => c_59 ((tI_end h hb).mpr z)
          refine c_readLine hX h hT hf hD h5 (fun I2 f hl hf200 hL2 hf2 => ?_) (fun I2 e2 b p m2 hl he2 hm2 hL2 hT2 hf2 hD2 => ?_)
          · refine h_iinc (v := nI (n + 1)) dX3_readFrom_74 rfl (nI_1 _) (Nat.le_of_ble_eq_true rfl) ?_
            refine h_goto (tgt := 48) dX3_readFrom_77 rfl ?_
            exact Fl (n + 1) I2 f (by omega) (by rw [← hr]; exact rd_f n0 hl) hf200 (fun a ha => (hL2.1 a ha).trans (hA a ha)) hf2
          · refine h_iinc (v := nI (n + 1)) dX3_readFrom_74 rfl (nI_1 _) (Nat.le_of_ble_eq_true rfl) ?_
            refine h_goto (tgt := 48) dX3_readFrom_77 rfl ?_
            have n8 := ln_8 hl
            exact ih (n + 1) e2 m2 _ _ I2 (by omega) (by omega) (by rw [← hr]; exact (rd_l n0 hl).symm) (CX_lf hL2 hX) he2 hT2 hf2 hD2 hm2 (fun a ha => (hL2.1 a ha).trans (hA a ha))
  show HV l mX3_readFrom (dp + 18) 0 0 0 [some (.ref 55), some (.ref 61), some (.int (nI nt)), none] [] hSH I J (hRR lt tx) Q
  refine h_aload_n dX3_readFrom_0 rfl ?_
  refine h_ifnull dX3_readFrom_1 ?_
  refine h_iload_n dX3_readFrom_4 rfl ?_
  refine h_aload_n dX3_readFrom_5 rfl ?_
  refine h_blen (v := nI 200) dX3_readFrom_6 rfl rfl ?_
  refine h_icmple (tgt := 12) dX3_readFrom_7 rfl (fun c_7 => ?_) (fun c_7 => ?_)
  · rw [nI_leI (by omega) (by omega)] at c_7
    refine h_aload_n dX3_readFrom_12 rfl ?_
    refine h_aload_n dX3_readFrom_13 rfl ?_
    refine h_putR dX3_readFrom_14 f_X3_34_3 p_X3_3_7 (fun h => by cases h) rfl ?_
    rw [hRR_tx]
    refine h_aload_n dX3_readFrom_17 rfl ?_
    refine h_iload_n dX3_readFrom_18 rfl ?_
    refine h_putI dX3_readFrom_19 f_X3_38_3 p_X3_3_8 (fun h => by cases h) rfl ?_
    refine h_aload_n dX3_readFrom_22 rfl ?_
    refine h_iconst dX3_readFrom_23 ci_0 ?_
    refine h_putI dX3_readFrom_24 f_X3_44_3 p_X3_3_10 (fun h => by cases h) rfl ?_
    refine h_aload_n dX3_readFrom_27 rfl ?_
    refine h_iconst dX3_readFrom_28 ci_0 ?_
    refine h_putI dX3_readFrom_29 f_X3_9_3 p_X3_3_0 (fun h => by cases h) rfl ?_
    refine h_aload_n dX3_readFrom_32 rfl ?_
    refine h_iconst dX3_readFrom_33 ci_0 ?_
    refine h_putI dX3_readFrom_34 f_X3_22_3 p_X3_3_3 (fun h => by cases h) rfl ?_
    refine h_aload_n dX3_readFrom_37 rfl ?_
    refine h_iconst dX3_readFrom_38 ci_m1 ?_
    refine h_putI dX3_readFrom_39 f_X3_53_3 p_X3_3_13 (fun h => by cases h) rfl ?_
    refine h_aload_n dX3_readFrom_42 rfl ?_
    refine h_cV0 dX3_readFrom_43 k3_204 oVX3_step rfl rfl ?_
    refine c_step (tp := tp) (nt := nt) (e := 0) ⟨h200, rfl, htp⟩ rfl (by omega) (fun I2 hS2 hT2 => ?_)
    refine h_iconst dX3_readFrom_46 ci_0 ?_
    refine h_istore_n dX3_readFrom_47 (Nat.le_of_ble_eq_true rfl) ?_
    refine Lo 10 0 0 0 _ _ I2 rfl (by omega) rfl (CX_pf (SF_pf hS2) ⟨h200, rfl, htp⟩) (by omega) hT2 (SF_k hS2 (by decide) (by decide) (by decide) (by decide)) ⟨SF_k hS2 (by decide) (by decide) (by decide) (by decide), by omega, SF_k hS2 (by decide) (by decide) (by decide) (by decide), fun _ => 0, rfl, fun c hc => absurd hc (by omega), fun c hc => absurd hc (by omega)⟩ (by omega) (fun a ha => ?_)
    rw [(SF_iff.mp hS2).1 a (by omega), upI_n _ _ _ (by omega), upI_n _ _ _ (by omega), upI_n _ _ _ (by omega), upI_n _ _ _ (by omega), upI_n _ _ _ (by omega)]
  · rw [nI_leI (by omega) (by omega)] at c_7
    omega
theorem c_read {l : Launch} {dp : Nat} {tp : Nat → Nat} {nt : Nat} {I : hI} {J : hJ} {lt tx : Option Nat} {Q : hQ} (hT : cT I nt tp) (hF : ∀ I2 f, rdT tp nt = Sum.inl f → f ≤ 200 → (∀ a, (a < 55 ∨ 60 < a) → a ≠ 0 → I2 a = I a) → (∀ j, j ≠ 7 → I2 0 j = I 0 j) → I2 0 7 = nI 0 → Q (some (.int ((-100) - nI f))) hSH I2 J (hRR lt (some 61))) (hO : ∀ I2 n bw qw, rdT tp nt = Sum.inr (n, bw, qw) → (∀ a, (a < 55 ∨ 60 < a) → a ≠ 0 → (a < 12 ∨ 17 < a) → I2 a = I a) → (∀ j, j ≠ 7 → I2 0 j = I 0 j) → I2 0 7 = nI 0 → cL I2 12 n bw qw → Q (some (.int (nI n))) hSH I2 J (hRR lt (some 61)))  : HC l mX11_read (dp + 19) 0 0 [.ref 0] hSH I J (hRR lt tx) Q := by
  refine HC.of (by decide +kernel) rfl (Nat.le_of_ble_eq_true rfl) ?_
  show HV l mX11_read (dp + 19) 0 0 0 [some (.ref 0), none] [] hSH I J (hRR lt tx) Q
  refine h_aload_n dX11_read_0 rfl ?_
  refine h_getR dX11_read_1 f_X11_36_9 rfl rfl ?_
  refine h_aload_n dX11_read_4 rfl ?_
  refine h_getR dX11_read_5 f_X11_39_9 rfl rfl ?_
  refine h_aload_n dX11_read_8 rfl ?_
  refine h_getI dX11_read_9 f_X11_43_9 rfl hT.1 ?_
  refine h_cV2 dX11_read_12 k3_200 oVX3_readFrom rfl rfl ?_
  refine c_readFrom hT.2.1 hT.2.2 (fun I2 f hr hf hA => ?_) (fun I2 n bw qw hr hA hL => ?_)
  · refine h_istore_n dX11_read_15 (Nat.le_of_ble_eq_true rfl) ?_
    refine h_aload_n dX11_read_16 rfl ?_
    refine h_iconst dX11_read_17 ci_0 ?_
    refine h_putI dX11_read_18 f_X11_43_9 p_X11_9_7 (fun h => by cases h) rfl ?_
    refine h_iload_n dX11_read_21 rfl ?_
    refine h_iconst dX11_read_22 ci_m1 ?_
    refine h_icmpeq (tgt := 31) dX11_read_23 rfl (fun c_23 => ?_) (fun c_23 => ?_)
    · exact absurd c_23 (nI_nn (by omega) (by decide))
    · refine h_bipush dX11_read_26 cb_m100 ?_
      refine h_iload_n dX11_read_28 rfl ?_
      refine h_isub dX11_read_29 ?_
      refine h_ireturn dX11_read_30 rfl ?_
      exact hF _ f hr hf (fun a ha h0 => (upI_n _ _ _ h0).trans (hA a ha)) (fun j hj => by rw [upI_f hj, hA 0 (by omega)]) rfl
  · refine h_istore_n dX11_read_15 (Nat.le_of_ble_eq_true rfl) ?_
    refine h_aload_n dX11_read_16 rfl ?_
    refine h_iconst dX11_read_17 ci_0 ?_
    refine h_putI dX11_read_18 f_X11_43_9 p_X11_9_7 (fun h => by cases h) rfl ?_
    refine h_iload_n dX11_read_21 rfl ?_
    refine h_iconst dX11_read_22 ci_m1 ?_
    refine h_icmpeq (tgt := 31) dX11_read_23 rfl (fun _ => ?_) (fun c => absurd (by decide) c)
    refine h_aload_n dX11_read_31 rfl ?_
    refine h_getR dX11_read_32 f_X11_25_9 rfl rfl ?_
    refine h_aload_n dX11_read_35 rfl ?_
    refine h_getR dX11_read_36 f_X11_36_9 rfl rfl ?_
    refine h_cV1 dX11_read_39 k4_11 oVX3_copy rfl rfl ?_
    refine c_lawcopy_12_55 (nw := n) (bw := bw) (qw := qw) hL (fun I3 hL3 hA3 => ?_)
    refine h_aload_n dX11_read_42 rfl ?_
    refine h_getR dX11_read_43 f_X11_25_9 rfl rfl ?_
    refine h_getI dX11_read_46 f_X11_294_3 rfl hL3.1 ?_
    refine h_ireturn dX11_read_49 rfl ?_
    exact hO _ n bw qw hr (fun a ha h0 h12 => (hA3 a h12).trans ((upI_n _ _ _ h0).trans (hA a ha))) (fun j hj => by rw [hA3 0 (by omega), upI_f hj, hA 0 (by omega)]) (by rw [hA3 0 (by omega), upI_s, upd_s]) hL3
