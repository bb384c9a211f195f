noncomputable def cbl (p : Prop) : Bool := @decide p (Classical.propDecidable p)
theorem cbl_t {p : Prop} (h : p) : cbl p = true := @decide_eq_true p (Classical.propDecidable p) h
theorem cbl_f {p : Prop} (h : ¬ p) : ¬ cbl p = true := by
  intro q
  exact h (@of_decide_eq_true p (Classical.propDecidable p) q)
theorem mkB_0 {P : Nat → Bool} : ∀ n, (∀ k, k < n → ¬ P k = true) → mkB P n = nI 0
  | 0, _ => rfl
  | n + 1, h => by rw [mkB_f (h n (by omega)), mkB_0 n (fun k hk => h k (by omega))]
def mbP (ns nl np ml nk nw : Nat) (pl fa fb sl pp pm ki fr tg wh bw : Nat → Nat) (rs sn : Nat → Int32) (fl : Nat → Bool) (qw : Nat → Nat → Nat → Nat → Bool) (s : Nat) (x : Int32) (w p : Nat) : Prop := (∃ q, spG (inS nl fa fb sl fr tg fl p (-9)) (loK nl np ml nw pl fa fb sl pp pm ki fr tg wh bw rs sn qw) (hiK nl np ml nw pl fa fb sl pp pm ki fr tg wh bw rs sn qw) nk = some q ∧ ¬ q.2 < q.1 ∧ ftS nl np ml nw pl fa fb sl pp pm bw rs qw s p 2 x w - nI (rcS nl pl fa fb sl pp s p 2) ≤ q.2 ∧ q.1 ≤ ftS nl np ml nw pl fa fb sl pp pm bw rs qw s p 2 x w + nI (rcS nl pl fa fb sl pp s p 2))
theorem c_mayBe {l : Launch} {dp : Nat} {ns nl np ml nk nw : Nat} {pl fa fb sl pp pm ki fr tg wh bw : Nat → Nat} {rs sn : Nat → Int32} {fl : Nat → Bool} {qw : Nat → Nat → Nat → Nat → Bool} {I : hI} {J : hJ} {lt tx : Option Nat} {x y z : Int32} {Q : hQ} (hG : cG I ns nl np ml nk nw pl fa fb sl pp pm ki fr tg wh bw rs sn fl qw) (hB : ¬ (isIx x ns ∧ (-99 ≤ y ∧ y ≤ nI 999) ∧ isWh z) → Q (some (.int (-1))) hSH I J (hRR lt tx)) (hN3 : ∀ s, x = nI s → s < ns → ¬ dist fa fb sl nl s < 1000000 → ∀ I', CO I I' → Q (some (.int (-3))) hSH I' J (hRR lt tx)) (hO : ∀ s w, x = nI s → z = nI w → s < ns → w ≤ 2340 → dist fa fb sl nl s < 1000000 → ∀ I', CO I I' → Q (some (.int (mkB (fun p => cbl (mbP ns nl np ml nk nw pl fa fb sl pp pm ki fr tg wh bw rs sn fl qw s y w p)) np))) hSH I' J (hRR lt tx)) : HC l mX11_mayBe (dp + 7) 0 0 [.ref 0, .int x, .int y, .int z] hSH I J (hRR lt tx) Q := by
  refine HC.of (by decide +kernel) rfl (Nat.le_of_ble_eq_true rfl) ?_
  obtain ⟨⟨hN, hdo, hla, hlv⟩, hw, ⟨hnp, hml, hnk, hpt, hsi, hbt⟩, ⟨hn8, hm2, hn24, hpW, hsW⟩, hL⟩ := id hG
  obtain ⟨hns, hnl, hpl, hlg⟩ := id hN
  obtain ⟨hn6, hl12, hW, hp99, hr99⟩ := id hw
  have Lo : ∀ (s w : Nat) (hs : s < ns) (hw1 : w / 100 ≤ 23) (hw2 : w % 100 ≤ 40) (hf : dist fa fb sl nl s < 1000000) (hX : ∀ I', CO I I' → Q (some (.int (mkB (fun p => cbl (mbP ns nl np ml nk nw pl fa fb sl pp pm ki fr tg wh bw rs sn fl qw s y w p)) np))) hSH I' J (hRR lt tx)) (m p : Nat) (I2 : hI), CO I I2 → np - p < m → p ≤ np → HV l mX11_mayBe (dp + 7) 0 0 44 [some (.ref 0), some (.int (nI s)), some (.int y), some (.int (nI w)), some (.int (mkB (fun p => cbl (mbP ns nl np ml nk nw pl fa fb sl pp pm ki fr tg wh bw rs sn fl qw s y w p)) p)), some (.int (nI p))] [] hSH I2 J (hRR lt tx) Q := by
    intro s w hs hw1 hw2 hf hX m
    induction m with
    | zero => intro p I2 hC h1 h2 ; omega
    | succ m ih =>
      intro p I2 hC h1 h2 
      obtain ⟨y1, y2, y3, y4, rfl⟩ := hC
      have q1 := hp99 s hs
      refine h_iload dX11_mayBe_44 rfl ?_
      refine h_aload_n dX11_mayBe_46 rfl ?_
      refine h_getR dX11_mayBe_47 f_X11_10_9 rfl rfl ?_
      refine h_getI dX11_mayBe_50 f_X11_166_8 rfl hnp ?_
      refine h_icmpge (tgt := 86) dX11_mayBe_53 rfl (fun c_53 => ?_) (fun c_53 => ?_)
      · rw [nI_leI (by omega) (by omega)] at c_53
        refine h_iload dX11_mayBe_86 rfl ?_
        refine h_ireturn dX11_mayBe_88 rfl ?_
        have ek : np = p := by omega
        subst ek
        exact hX _ ⟨_, _, _, _, rfl⟩
      · rw [nI_leI (by omega) (by omega)] at c_53
        refine h_aload_n dX11_mayBe_56 rfl ?_
        refine h_getR dX11_mayBe_57 f_X11_10_9 rfl rfl ?_
        refine h_iload_n dX11_mayBe_60 rfl ?_
        refine h_iload dX11_mayBe_61 rfl ?_
        refine h_iload_n dX11_mayBe_63 rfl ?_
        refine h_iload_n dX11_mayBe_64 rfl ?_
        refine h_cV4 dX11_mayBe_65 k3_140 oVX10_mayBeSeen rfl rfl ?_
        refine c_mayBeSeen (I := (upA (upA (upA (upA I 11 y1) 25 y2) 26 y3) 27 y4)) hG hs hf (by omega) (by omega) (fun g1 g2 g3 b2 => ?_) (fun g1 g2 g3 b2 => ?_)
        · refine h_ifeq (tgt := 80) dX11_mayBe_68 rfl (fun c => absurd c (by decide)) (fun _ => ?_)
          refine h_iload dX11_mayBe_71 rfl ?_
          refine h_iconst dX11_mayBe_73 ci_1 ?_
          refine h_iload dX11_mayBe_74 rfl ?_
          refine h_ishl dX11_mayBe_76 ?_
          refine h_ior dX11_mayBe_77 ?_
          refine h_istore dX11_mayBe_78 (Nat.le_of_ble_eq_true rfl) ?_
          refine h_iinc (v := nI (p + 1)) dX11_mayBe_80 rfl (nI_1 _) (Nat.le_of_ble_eq_true rfl) ?_
          refine h_goto (tgt := 44) dX11_mayBe_83 rfl ?_
          have h3 := ih (p + 1) _ (CO_tr (I' := (upA (upA (upA (upA I 11 y1) 25 y2) 26 y3) 27 y4)) ⟨_, _, _, _, rfl⟩ (CO_3 _ g1 g2 g3)) (by omega) (by omega)
          rw [mkB_t (P := (fun p => cbl (mbP ns nl np ml nk nw pl fa fb sl pp pm ki fr tg wh bw rs sn fl qw s y w p))) (cbl_t b2)] at h3
          exact h3
        · refine h_ifeq (tgt := 80) dX11_mayBe_68 rfl (fun _ => ?_) (fun c => absurd (by decide) c)
          refine h_iinc (v := nI (p + 1)) dX11_mayBe_80 rfl (nI_1 _) (Nat.le_of_ble_eq_true rfl) ?_
          refine h_goto (tgt := 44) dX11_mayBe_83 rfl ?_
          have h3 := ih (p + 1) _ (CO_tr (I' := (upA (upA (upA (upA I 11 y1) 25 y2) 26 y3) 27 y4)) ⟨_, _, _, _, rfl⟩ (CO_3 _ g1 g2 g3)) (by omega) (by omega)
          rw [mkB_f (P := (fun p => cbl (mbP ns nl np ml nk nw pl fa fb sl pp pm ki fr tg wh bw rs sn fl qw s y w p))) (cbl_f b2)] at h3
          exact h3
  show HV l mX11_mayBe (dp + 7) 0 0 0 [some (.ref 0), some (.int x), some (.int y), some (.int z), none, none] [] hSH I J (hRR lt tx) Q
  refine h_aload_n dX11_mayBe_0 rfl ?_
  refine h_iload_n dX11_mayBe_1 rfl ?_
  refine h_cV1 dX11_mayBe_2 k2_188 oVX11_isStation rfl rfl ?_
  refine c_isStation (n := ns) hns (by omega) (fun b1 => ?_) (fun b1 => ?_)
  · refine h_ifeq (tgt := 22) dX11_mayBe_5 rfl (fun c => absurd c (by decide)) (fun _ => ?_)
    refine h_iload_n dX11_mayBe_8 rfl ?_
    refine h_cS1 dX11_mayBe_9 k3_26 oSX11_isSlant rfl ?_
    refine c_X11_isSlant (fun b2 => ?_) (fun b2 => ?_)
    · refine h_ifeq (tgt := 22) dX11_mayBe_12 rfl (fun c => absurd c (by decide)) (fun _ => ?_)
      refine h_iload_n dX11_mayBe_15 rfl ?_
      refine h_cS1 dX11_mayBe_16 k3_29 oSX11_isWhen rfl ?_
      refine c_isWhen (fun w hv hw1 hw2 => ?_) (fun b4 => ?_)
      · obtain ⟨s, hs, rfl⟩ := b1
        subst hv
        refine h_ifne (tgt := 24) dX11_mayBe_19 rfl (fun _ => ?_) (fun c => absurd c (by decide))
        refine h_aload_n dX11_mayBe_24 rfl ?_
        refine h_getR dX11_mayBe_25 f_X11_20_9 rfl rfl ?_
        refine h_iload_n dX11_mayBe_28 rfl ?_
        refine h_cV1 dX11_mayBe_29 k2_223 oVX5_hasLevel rfl rfl ?_
        refine c_hasLevelN (f := dist fa fb sl nl) hns hn6 hdo hs (fun b3 => ?_) (fun b3 => ?_)
        · refine h_ifne (tgt := 38) dX11_mayBe_32 rfl (fun _ => ?_) (fun c => absurd c (by decide))
          refine h_iconst dX11_mayBe_38 ci_0 ?_
          refine h_istore dX11_mayBe_39 (Nat.le_of_ble_eq_true rfl) ?_
          refine h_iconst dX11_mayBe_41 ci_0 ?_
          refine h_istore dX11_mayBe_42 (Nat.le_of_ble_eq_true rfl) ?_
          exact Lo s w hs hw1 hw2 b3 (hO s w rfl rfl hs (by omega) b3) (np + 1) 0 _ (CO_id I) (by omega) (by omega)
        · refine h_ifne (tgt := 38) dX11_mayBe_32 rfl (fun c => absurd (by decide) c) (fun _ => ?_)
          refine h_bipush dX11_mayBe_35 cb_m3 ?_
          refine h_ireturn dX11_mayBe_37 rfl ?_
          exact hN3 s rfl hs b3 _ (CO_id I)
      · refine h_ifne (tgt := 24) dX11_mayBe_19 rfl (fun c => absurd (by decide) c) (fun _ => ?_)
        refine h_iconst dX11_mayBe_22 ci_m1 ?_
        refine h_ireturn dX11_mayBe_23 rfl ?_
        exact hB (fun z => b4 z.2.2)
    · refine h_ifeq (tgt := 22) dX11_mayBe_12 rfl (fun _ => ?_) (fun c => absurd (by decide) c)
      refine h_iconst dX11_mayBe_22 ci_m1 ?_
      refine h_ireturn dX11_mayBe_23 rfl ?_
      exact hB (fun z => b2 z.2.1)
  · refine h_ifeq (tgt := 22) dX11_mayBe_5 rfl (fun _ => ?_) (fun c => absurd (by decide) c)
    refine h_iconst dX11_mayBe_22 ci_m1 ?_
    refine h_ireturn dX11_mayBe_23 rfl ?_
    exact hB (fun z => b1 z.1)
theorem r_mayBe {l : Launch} {dp : Nat} {ns nl np ml nk nw : Nat} {pl fa fb sl pp pm ki fr tg wh bw : Nat → Nat} {rs sn : Nat → Int32} {fl : Nat → Bool} {qw : Nat → Nat → Nat → Nat → Bool} {I : hI} {J : hJ} {lt tx : Option Nat} {x y z : Int32} {Q : hQ} (hG : rG I ns nl np ml nk nw pl fa fb sl pp pm ki fr tg wh bw rs sn fl qw) (hB : ¬ (isIx x ns ∧ (-99 ≤ y ∧ y ≤ nI 999) ∧ isWh z) → Q (some (.int (-1))) hSH I J (hRR lt tx)) (hN3 : ∀ s, x = nI s → s < ns → ¬ dist fa fb sl nl s < 1000000 → ∀ I', RO I I' → Q (some (.int (-3))) hSH I' J (hRR lt tx)) (hO : ∀ s w, x = nI s → z = nI w → s < ns → w ≤ 2340 → dist fa fb sl nl s < 1000000 → ∀ I', RO I I' → Q (some (.int (mkB (fun p => cbl (mbP ns nl np ml nk nw pl fa fb sl pp pm ki fr tg wh bw rs sn fl qw s y w p)) np))) hSH I' J (hRR lt tx)) : HC l mX12_mayBe (dp + 6) 0 0 [.ref 82, .int x, .int y, .int z] hSH I J (hRR lt tx) Q := by
  refine HC.of (by decide +kernel) rfl (Nat.le_of_ble_eq_true rfl) ?_
  obtain ⟨hN, hw, ⟨hnp, hml, hnk, hpt, hsi⟩, ⟨hn8, hm2, hn24, hpW, hsW⟩, hL⟩ := id hG
  obtain ⟨hns, hnl, hpl, hlg⟩ := id hN
  obtain ⟨hn6, hl12, hW, hp99, hr99⟩ := id hw
  have Lo : ∀ (s w : Nat) (hs : s < ns) (hw1 : w / 100 ≤ 23) (hw2 : w % 100 ≤ 40) (hf : dist fa fb sl nl s < 1000000) (hX : ∀ I', RO I I' → Q (some (.int (mkB (fun p => cbl (mbP ns nl np ml nk nw pl fa fb sl pp pm ki fr tg wh bw rs sn fl qw s y w p)) np))) hSH I' J (hRR lt tx)) (m p : Nat) (I2 : hI), RO I I2 → rL I2 ns nl fa fb sl rs → np - p < m → p ≤ np → ∀ z6 z7 z8, HV l mX12_mayBe (dp + 6) 0 0 45 [some (.ref 82), some (.int (nI s)), some (.int y), some (.int (nI w)), some (.int (mkB (fun p => cbl (mbP ns nl np ml nk nw pl fa fb sl pp pm ki fr tg wh bw rs sn fl qw s y w p)) p)), some (.int (nI p)), z6, z7, z8] [] hSH I2 J (hRR lt tx) Q := by
    intro s w hs hw1 hw2 hf hX m
    induction m with
    | zero => intro p I2 hC hLv h1 h2 z6 z7 z8; omega
    | succ m ih =>
      intro p I2 hC hLv h1 h2 z6 z7 z8
      obtain ⟨a, b, c, lo, hi, f1, f2, rfl⟩ := hC
      have q1 := hp99 s hs
      have q5 : 100 * (w / 100) + w % 100 = w := by omega
      refine h_iload dX12_mayBe_45 rfl ?_
      refine h_aload_n dX12_mayBe_47 rfl ?_
      refine h_getI dX12_mayBe_48 f_X12_110_10 rfl hnp ?_
      refine h_icmpge (tgt := 175) dX12_mayBe_51 rfl (fun c_51 => ?_) (fun c_51 => ?_)
      · rw [nI_leI (by omega) (by omega)] at c_51
        refine h_iload dX12_mayBe_175 rfl ?_
        refine h_ireturn dX12_mayBe_177 rfl ?_
        have ek : np = p := by omega
        subst ek
        exact hX _ (RO_m I a b c lo hi f1 f2)
      · rw [nI_leI (by omega) (by omega)] at c_51
        refine h_aload_n dX12_mayBe_54 rfl ?_
        refine h_iconst dX12_mayBe_55 ci_2 ?_
        refine h_iload_n dX12_mayBe_56 rfl ?_
        refine h_iload dX12_mayBe_57 rfl ?_
        refine h_iload_n dX12_mayBe_59 rfl ?_
        refine h_aload_n dX12_mayBe_60 rfl ?_
        refine h_iconst dX12_mayBe_61 ci_2 ?_
        refine h_aload_n dX12_mayBe_62 rfl ?_
        refine h_iload_n dX12_mayBe_63 rfl ?_
        refine h_iload dX12_mayBe_64 rfl ?_
        refine h_cV2 dX12_mayBe_66 k5_196 oVX12_awayOf rfl rfl ?_
        refine r_awayOf (I := (rM I a b c lo hi f1 f2)) hG hs (by omega) ?_
        have q4 := aw_le q1 (hpW p (by omega)).1
        refine h_iload_n dX12_mayBe_69 rfl ?_
        refine h_bipush dX12_mayBe_70 cb_100 ?_
        refine h_idivN dX12_mayBe_72 (by omega) (by omega) (by omega) ?_
        refine h_iload_n dX12_mayBe_73 rfl ?_
        refine h_bipush dX12_mayBe_74 cb_100 ?_
        refine h_iremN dX12_mayBe_76 (by omega) (by omega) (by omega) ?_
        refine h_cV4 dX12_mayBe_77 k6_32 oVX12_toldBy rfl rfl ?_
        refine r_toldBy (I := (rM I a b c lo hi f1 f2)) (ki := 2) hL (by omega) q4 hw1 hw2 (fun g1 g2 => ?_)
        rw [q5]
        refine h_cV5 dX12_mayBe_80 k6_62 oVX12_footOf rfl rfl ?_
        refine r_footOf (I := upA (upA (rM I a b c lo hi f1 f2) 101 g1) 102 g2) (kn := 2) hG hLv (by omega) hs (by omega) (rW_le hL) hf ?_
        refine h_istore dX12_mayBe_83 (Nat.le_of_ble_eq_true rfl) ?_
        refine h_iconst dX12_mayBe_85 ci_2 ?_
        refine h_iconst dX12_mayBe_86 ci_0 ?_
        refine h_cS2 dX12_mayBe_87 k6_47 oSX12_slackBy rfl ?_
        refine r_slackBy (ki := 2) (a := 0) (by omega) (by omega) ?_
        refine h_aload_n dX12_mayBe_90 rfl ?_
        refine h_getR dX12_mayBe_91 f_X12_31_10 rfl rfl ?_
        refine h_iload_n dX12_mayBe_94 rfl ?_
        refine h_ialdN (j := s) dX12_mayBe_95 rfl rfl (by omega) rfl (hLv.1 _ (by omega)) ?_
        refine h_iaddN dX12_mayBe_96 ?_
        refine h_istore dX12_mayBe_97 (Nat.le_of_ble_eq_true rfl) ?_
        refine h_aload_n dX12_mayBe_99 rfl ?_
        refine h_iload dX12_mayBe_100 rfl ?_
        refine h_iconst dX12_mayBe_102 ci_m1 ?_
        refine h_cV2 dX12_mayBe_103 k6_78 oVX12_findSpan rfl rfl ?_
        refine r_findSpan (I := upA (upA (rM I a b c lo hi f1 f2) 101 g1) 102 g2) (p := p) (e := -1) hG hLv (by omega) (fun lo2 hi2 g3 g4 y2 => ?_)
        have hcg := spG_congr (lo := loK nl np ml nw pl fa fb sl pp pm ki fr tg wh bw rs sn qw) (hi := hiK nl np ml nw pl fa fb sl pp pm ki fr tg wh bw rs sn qw) nk (fun j hj => inS_e (nl := nl) (fa := fa) (fb := fb) (sl := sl) (fr := fr) (tg := tg) (fl := fl) (p := p) (k := j) (by omega))
        rw [hcg] at y2
        have hcb := cntK_le (P := inS nl fa fb sl fr tg fl p (-1)) nk
        refine h_ifle (tgt := 124) dX12_mayBe_106 rfl (fun c_106 => ?_) (fun c_106 => ?_)
        · rw [show (0 : Int32) = nI 0 from rfl, nI_leI (by omega) (by omega)] at c_106
          have hnn : spG (inS nl fa fb sl fr tg fl p (-9)) (loK nl np ml nw pl fa fb sl pp pm ki fr tg wh bw rs sn qw) (hiK nl np ml nw pl fa fb sl pp pm ki fr tg wh bw rs sn qw) nk = none := hcg.symm.trans ((spG_0 nk).mp (by omega))
          refine h_iconst dX12_mayBe_124 ci_0 ?_
          refine h_istore dX12_mayBe_125 (Nat.le_of_ble_eq_true rfl) ?_
          refine h_iload dX12_mayBe_127 rfl ?_
          refine h_iload dX12_mayBe_129 rfl ?_
          refine h_ifeq (tgt := 165) dX12_mayBe_131 rfl (fun _ => ?_) (fun c => absurd (by decide) c)
          refine h_iconst dX12_mayBe_165 ci_0 ?_
          refine h_ior dX12_mayBe_166 ?_
          refine h_istore dX12_mayBe_167 (Nat.le_of_ble_eq_true rfl) ?_
          refine h_iinc (v := nI (p + 1)) dX12_mayBe_169 rfl (nI_1 _) (Nat.le_of_ble_eq_true rfl) ?_
          refine h_goto (tgt := 45) dX12_mayBe_172 rfl ?_
          have h3 := ih (p + 1) _ (RO_tr (RO_m I a b c lo hi f1 f2) (RO_tr (RO_f _ g1 g2) (RO_s _ lo2 hi2 g3 g4))) hLv (by omega) (by omega)
          rw [mkB_f (P := (fun p => cbl (mbP ns nl np ml nk nw pl fa fb sl pp pm ki fr tg wh bw rs sn fl qw s y w p))) (cbl_f (fun z => by
            obtain ⟨q2, e1, e2, e3, e4⟩ := z
            rw [hnn] at e1
            cases e1))] at h3
          rw [show nI 0 = (0 : Int32) by decide, Int32.or_zero]
          exact h3 _ _ _
        · rw [show (0 : Int32) = nI 0 from rfl, nI_leI (by omega) (by omega)] at c_106
          obtain ⟨q, h9⟩ : ∃ q, spG (inS nl fa fb sl fr tg fl p (-9)) (loK nl np ml nw pl fa fb sl pp pm ki fr tg wh bw rs sn qw) (hiK nl np ml nw pl fa fb sl pp pm ki fr tg wh bw rs sn qw) nk = some q := by
            cases e : spG (inS nl fa fb sl fr tg fl p (-9)) (loK nl np ml nw pl fa fb sl pp pm ki fr tg wh bw rs sn qw) (hiK nl np ml nw pl fa fb sl pp pm ki fr tg wh bw rs sn qw) nk with
            | none => exact absurd ((spG_0 nk).mpr (hcg.trans e)) (by omega)
            | some q => exact ⟨q, rfl⟩
          rw [h9] at y2
          refine h_aload_n dX12_mayBe_109 rfl ?_
          refine h_getI dX12_mayBe_110 f_X12_200_10 rfl (show _ = q.1 from y2.1) ?_
          refine h_aload_n dX12_mayBe_113 rfl ?_
          refine h_getI dX12_mayBe_114 f_X12_203_10 rfl (show _ = q.2 from y2.2) ?_
          refine h_icmpgt (tgt := 124) dX12_mayBe_117 rfl (fun c_117 => ?_) (fun c_117 => ?_)
          · refine h_iconst dX12_mayBe_124 ci_0 ?_
            refine h_istore dX12_mayBe_125 (Nat.le_of_ble_eq_true rfl) ?_
            refine h_iload dX12_mayBe_127 rfl ?_
            refine h_iload dX12_mayBe_129 rfl ?_
            refine h_ifeq (tgt := 165) dX12_mayBe_131 rfl (fun _ => ?_) (fun c => absurd (by decide) c)
            refine h_iconst dX12_mayBe_165 ci_0 ?_
            refine h_ior dX12_mayBe_166 ?_
            refine h_istore dX12_mayBe_167 (Nat.le_of_ble_eq_true rfl) ?_
            refine h_iinc (v := nI (p + 1)) dX12_mayBe_169 rfl (nI_1 _) (Nat.le_of_ble_eq_true rfl) ?_
            refine h_goto (tgt := 45) dX12_mayBe_172 rfl ?_
            have h3 := ih (p + 1) _ (RO_tr (RO_m I a b c lo hi f1 f2) (RO_tr (RO_f _ g1 g2) (RO_s _ lo2 hi2 g3 g4))) hLv (by omega) (by omega)
            rw [mkB_f (P := (fun p => cbl (mbP ns nl np ml nk nw pl fa fb sl pp pm ki fr tg wh bw rs sn fl qw s y w p))) (cbl_f (fun z => by
              obtain ⟨q2, e1, e2, e3, e4⟩ := z
              rw [h9] at e1
              cases e1
              exact e2 c_117))] at h3
            rw [show nI 0 = (0 : Int32) by decide, Int32.or_zero]
            exact h3 _ _ _
          · refine h_iconst dX12_mayBe_120 ci_1 ?_
            refine h_goto (tgt := 125) dX12_mayBe_121 rfl ?_
            refine h_istore dX12_mayBe_125 (Nat.le_of_ble_eq_true rfl) ?_
            refine h_iload dX12_mayBe_127 rfl ?_
            refine h_iload dX12_mayBe_129 rfl ?_
            refine h_ifeq (tgt := 165) dX12_mayBe_131 rfl (fun c => absurd c (by decide)) (fun _ => ?_)
            refine h_iload dX12_mayBe_134 rfl ?_
            refine h_iload dX12_mayBe_136 rfl ?_
            refine h_isub dX12_mayBe_138 ?_
            refine h_aload_n dX12_mayBe_139 rfl ?_
            refine h_getI dX12_mayBe_140 f_X12_203_10 rfl (show _ = q.2 from y2.2) ?_
            refine h_icmpgt (tgt := 165) dX12_mayBe_143 rfl (fun c_143 => ?_) (fun c_143 => ?_)
            · refine h_iconst dX12_mayBe_165 ci_0 ?_
              refine h_ior dX12_mayBe_166 ?_
              refine h_istore dX12_mayBe_167 (Nat.le_of_ble_eq_true rfl) ?_
              refine h_iinc (v := nI (p + 1)) dX12_mayBe_169 rfl (nI_1 _) (Nat.le_of_ble_eq_true rfl) ?_
              refine h_goto (tgt := 45) dX12_mayBe_172 rfl ?_
              have h3 := ih (p + 1) _ (RO_tr (RO_m I a b c lo hi f1 f2) (RO_tr (RO_f _ g1 g2) (RO_s _ lo2 hi2 g3 g4))) hLv (by omega) (by omega)
              rw [mkB_f (P := (fun p => cbl (mbP ns nl np ml nk nw pl fa fb sl pp pm ki fr tg wh bw rs sn fl qw s y w p))) (cbl_f (fun z => by
                obtain ⟨q2, e1, e2, e3, e4⟩ := z
                rw [h9] at e1
                cases e1
                exact absurd e3 (Int32.not_le.mpr c_143)))] at h3
              rw [show nI 0 = (0 : Int32) by decide, Int32.or_zero]
              exact h3 _ _ _
            · refine h_iload dX12_mayBe_146 rfl ?_
              refine h_iload dX12_mayBe_148 rfl ?_
              refine h_iadd dX12_mayBe_150 ?_
              refine h_aload_n dX12_mayBe_151 rfl ?_
              refine h_getI dX12_mayBe_152 f_X12_200_10 rfl (show _ = q.1 from y2.1) ?_
              refine h_icmplt (tgt := 165) dX12_mayBe_155 rfl (fun c_155 => ?_) (fun c_155 => ?_)
              · refine h_iconst dX12_mayBe_165 ci_0 ?_
                refine h_ior dX12_mayBe_166 ?_
                refine h_istore dX12_mayBe_167 (Nat.le_of_ble_eq_true rfl) ?_
                refine h_iinc (v := nI (p + 1)) dX12_mayBe_169 rfl (nI_1 _) (Nat.le_of_ble_eq_true rfl) ?_
                refine h_goto (tgt := 45) dX12_mayBe_172 rfl ?_
                have h3 := ih (p + 1) _ (RO_tr (RO_m I a b c lo hi f1 f2) (RO_tr (RO_f _ g1 g2) (RO_s _ lo2 hi2 g3 g4))) hLv (by omega) (by omega)
                rw [mkB_f (P := (fun p => cbl (mbP ns nl np ml nk nw pl fa fb sl pp pm ki fr tg wh bw rs sn fl qw s y w p))) (cbl_f (fun z => by
                  obtain ⟨q2, e1, e2, e3, e4⟩ := z
                  rw [h9] at e1
                  cases e1
                  exact absurd e4 (Int32.not_le.mpr c_155)))] at h3
                rw [show nI 0 = (0 : Int32) by decide, Int32.or_zero]
                exact h3 _ _ _
              · refine h_iconst dX12_mayBe_158 ci_1 ?_
                refine h_iload dX12_mayBe_159 rfl ?_
                refine h_ishl dX12_mayBe_161 ?_
                refine h_goto (tgt := 166) dX12_mayBe_162 rfl ?_
                refine h_ior dX12_mayBe_166 ?_
                refine h_istore dX12_mayBe_167 (Nat.le_of_ble_eq_true rfl) ?_
                refine h_iinc (v := nI (p + 1)) dX12_mayBe_169 rfl (nI_1 _) (Nat.le_of_ble_eq_true rfl) ?_
                refine h_goto (tgt := 45) dX12_mayBe_172 rfl ?_
                have h3 := ih (p + 1) _ (RO_tr (RO_m I a b c lo hi f1 f2) (RO_tr (RO_f _ g1 g2) (RO_s _ lo2 hi2 g3 g4))) hLv (by omega) (by omega)
                rw [mkB_t (P := (fun p => cbl (mbP ns nl np ml nk nw pl fa fb sl pp pm ki fr tg wh bw rs sn fl qw s y w p))) (cbl_t ⟨q, h9, c_117, Int32.not_lt.mp c_143, Int32.not_lt.mp c_155⟩)] at h3
                exact h3 _ _ _
  show HV l mX12_mayBe (dp + 6) 0 0 0 [some (.ref 82), some (.int x), some (.int y), some (.int z), none, none, none, none, none] [] hSH I J (hRR lt tx) Q
  refine h_aload_n dX12_mayBe_0 rfl ?_
  refine h_iload_n dX12_mayBe_1 rfl ?_
  refine h_cV1 dX12_mayBe_2 k5_179 oVX12_isStation rfl rfl ?_
  refine r_isStation (n := ns) hns (by omega) (fun b1 => ?_) (fun b1 => ?_)
  · refine h_ifeq (tgt := 22) dX12_mayBe_5 rfl (fun c => absurd c (by decide)) (fun _ => ?_)
    refine h_iload_n dX12_mayBe_8 rfl ?_
    refine h_cS1 dX12_mayBe_9 k6_10 oSX12_isSlant rfl ?_
    refine c_X12_isSlant (fun b2 => ?_) (fun b2 => ?_)
    · refine h_ifeq (tgt := 22) dX12_mayBe_12 rfl (fun c => absurd c (by decide)) (fun _ => ?_)
      refine h_iload_n dX12_mayBe_15 rfl ?_
      refine h_cS1 dX12_mayBe_16 k6_13 oSX12_isWhen rfl ?_
      refine r_isWhen (fun w hv hw1 hw2 => ?_) (fun b4 => ?_)
      · obtain ⟨s, hs, rfl⟩ := b1
        subst hv
        refine h_ifne (tgt := 24) dX12_mayBe_19 rfl (fun _ => ?_) (fun c => absurd c (by decide))
        refine h_aload_n dX12_mayBe_24 rfl ?_
        refine h_cV0 dX12_mayBe_25 k5_200 oVX12_findLevels rfl rfl ?_
        refine r_findLevels hN hw (fun a c b hLv => ?_)
        refine h_aload_n dX12_mayBe_28 rfl ?_
        refine h_iload_n dX12_mayBe_29 rfl ?_
        refine h_cV1 dX12_mayBe_30 k5_213 oVX12_hasLevel rfl rfl ?_
        refine r_hasLevel (f := dist fa fb sl nl) (by omega) hLv.1 (bf_le 6) (fun b3 => ?_) (fun b3 => ?_)
        · refine h_ifne (tgt := 39) dX12_mayBe_33 rfl (fun _ => ?_) (fun c => absurd c (by decide))
          refine h_iconst dX12_mayBe_39 ci_0 ?_
          refine h_istore dX12_mayBe_40 (Nat.le_of_ble_eq_true rfl) ?_
          refine h_iconst dX12_mayBe_42 ci_0 ?_
          refine h_istore dX12_mayBe_43 (Nat.le_of_ble_eq_true rfl) ?_
          exact Lo s w hs hw1 hw2 b3 (hO s w rfl rfl hs (by omega) b3) (np + 1) 0 _ (RO_l I a b c) hLv (by omega) (by omega) _ _ _
        · refine h_ifne (tgt := 39) dX12_mayBe_33 rfl (fun c => absurd (by decide) c) (fun _ => ?_)
          refine h_bipush dX12_mayBe_36 cb_m3 ?_
          refine h_ireturn dX12_mayBe_38 rfl ?_
          exact hN3 s rfl hs b3 _ (RO_l I a b c)
      · refine h_ifne (tgt := 24) dX12_mayBe_19 rfl (fun c => absurd (by decide) c) (fun _ => ?_)
        refine h_iconst dX12_mayBe_22 ci_m1 ?_
        refine h_ireturn dX12_mayBe_23 rfl ?_
        exact hB (fun z => b4 z.2.2)
    · refine h_ifeq (tgt := 22) dX12_mayBe_12 rfl (fun _ => ?_) (fun c => absurd (by decide) c)
      refine h_iconst dX12_mayBe_22 ci_m1 ?_
      refine h_ireturn dX12_mayBe_23 rfl ?_
      exact hB (fun z => b2 z.2.1)
  · refine h_ifeq (tgt := 22) dX12_mayBe_5 rfl (fun _ => ?_) (fun c => absurd (by decide) c)
    refine h_iconst dX12_mayBe_22 ci_m1 ?_
    refine h_ireturn dX12_mayBe_23 rfl ?_
    exact hB (fun z => b1 z.1)
theorem c_behind {l : Launch} {dp : Nat} {ns nl np ml nk nw : Nat} {pl fa fb sl pp pm ki fr tg wh bw : Nat → Nat} {rs sn : Nat → Int32} {fl : Nat → Bool} {qw : Nat → Nat → Nat → Nat → Bool} {I : hI} {J : hJ} {lt tx : Option Nat} {x y : Int32} {Q : hQ} (hG : cG I ns nl np ml nk nw pl fa fb sl pp pm ki fr tg wh bw rs sn fl qw) (hB : ¬ (isIx x ns ∧ isIx y np) → Q (some (.int (-1))) hSH I J (hRR lt tx)) (hN3 : ∀ s, x = nI s → s < ns → ¬ dist fa fb sl nl s < 1000000 → ∀ I', CO I I' → Q (some (.int (-3))) hSH I' J (hRR lt tx)) (hO : ∀ s q, x = nI s → y = nI q → s < ns → q < np → dist fa fb sl nl s < 1000000 → ∀ I', CO I I' → Q (some (.int (mkB (fun p => cbl (∃ a b, spG (inS nl fa fb sl fr tg fl p (-9)) (loK nl np ml nw pl fa fb sl pp pm ki fr tg wh bw rs sn qw) (hiK nl np ml nw pl fa fb sl pp pm ki fr tg wh bw rs sn qw) nk = some a ∧ ¬ a.2 < a.1 ∧ spG (inS nl fa fb sl fr tg fl q (-9)) (loK nl np ml nw pl fa fb sl pp pm ki fr tg wh bw rs sn qw) (hiK nl np ml nw pl fa fb sl pp pm ki fr tg wh bw rs sn qw) nk = some b ∧ ¬ b.2 < b.1 ∧ pl s < pp p ∧ pp p < pp q ∧ (b.2 - lvl fa fb sl rs nl s).toInt64 * (nI (aw (pl s) (pp p))).toInt64 < (a.1 - lvl fa fb sl rs nl s).toInt64 * (nI (aw (pl s) (pp q))).toInt64)) np))) hSH I' J (hRR lt tx)) : HC l mX11_behind (dp + 7) 0 0 [.ref 0, .int x, .int y] hSH I J (hRR lt tx) Q := by
  refine HC.of (by decide +kernel) rfl (Nat.le_of_ble_eq_true rfl) ?_
  obtain ⟨⟨hN, hdo, hla, hlv⟩, hw, ⟨hnp, hml, hnk, hpt, hsi, hbt⟩, ⟨hn8, hm2, hn24, hpW, hsW⟩, hL⟩ := id hG
  obtain ⟨hns, hnl, hpl, hlg⟩ := id hN
  obtain ⟨hn6, hl12, hW, hp99, hr99⟩ := id hw
  have Lo : ∀ (s q : Nat) (hs : s < ns) (hq : q < np) (g1 g2 g3 : Nat → Int32) (hal : (∀ r, r < np → spA (spG (inS nl fa fb sl fr tg fl r (-9)) (loK nl np ml nw pl fa fb sl pp pm ki fr tg wh bw rs sn qw) (hiK nl np ml nw pl fa fb sl pp pm ki fr tg wh bw rs sn qw) nk) g1 g2 r ∧ g3 r = spc (spG (inS nl fa fb sl fr tg fl r (-9)) (loK nl np ml nw pl fa fb sl pp pm ki fr tg wh bw rs sn qw) (hiK nl np ml nw pl fa fb sl pp pm ki fr tg wh bw rs sn qw) nk))) (hX : Q (some (.int (mkB (fun p => cbl (∃ a b, spG (inS nl fa fb sl fr tg fl p (-9)) (loK nl np ml nw pl fa fb sl pp pm ki fr tg wh bw rs sn qw) (hiK nl np ml nw pl fa fb sl pp pm ki fr tg wh bw rs sn qw) nk = some a ∧ ¬ a.2 < a.1 ∧ spG (inS nl fa fb sl fr tg fl q (-9)) (loK nl np ml nw pl fa fb sl pp pm ki fr tg wh bw rs sn qw) (hiK nl np ml nw pl fa fb sl pp pm ki fr tg wh bw rs sn qw) nk = some b ∧ ¬ b.2 < b.1 ∧ pl s < pp p ∧ pp p < pp q ∧ (b.2 - lvl fa fb sl rs nl s).toInt64 * (nI (aw (pl s) (pp p))).toInt64 < (a.1 - lvl fa fb sl rs nl s).toInt64 * (nI (aw (pl s) (pp q))).toInt64)) np))) hSH (upA (upA (upA I 25 g1) 26 g2) 27 g3) J (hRR lt tx)) (m p : Nat), np - p < m → p ≤ np → HV l mX11_behind (dp + 7) 0 0 45 [some (.ref 0), some (.int (nI s)), some (.int (nI q)), some (.int (mkB (fun p => cbl (∃ a b, spG (inS nl fa fb sl fr tg fl p (-9)) (loK nl np ml nw pl fa fb sl pp pm ki fr tg wh bw rs sn qw) (hiK nl np ml nw pl fa fb sl pp pm ki fr tg wh bw rs sn qw) nk = some a ∧ ¬ a.2 < a.1 ∧ spG (inS nl fa fb sl fr tg fl q (-9)) (loK nl np ml nw pl fa fb sl pp pm ki fr tg wh bw rs sn qw) (hiK nl np ml nw pl fa fb sl pp pm ki fr tg wh bw rs sn qw) nk = some b ∧ ¬ b.2 < b.1 ∧ pl s < pp p ∧ pp p < pp q ∧ (b.2 - lvl fa fb sl rs nl s).toInt64 * (nI (aw (pl s) (pp p))).toInt64 < (a.1 - lvl fa fb sl rs nl s).toInt64 * (nI (aw (pl s) (pp q))).toInt64)) p)), some (.int (nI p))] [] hSH (upA (upA (upA I 25 g1) 26 g2) 27 g3) J (hRR lt tx) Q := by
    intro s q hs hq g1 g2 g3 hal hX m
    induction m with
    | zero => intro p h1 h2; omega
    | succ m ih =>
      intro p h1 h2
      refine h_iload dX11_behind_45 rfl ?_
      refine h_aload_n dX11_behind_47 rfl ?_
      refine h_getR dX11_behind_48 f_X11_10_9 rfl rfl ?_
      refine h_getI dX11_behind_51 f_X11_166_8 rfl hnp ?_
      refine h_icmpge (tgt := 84) dX11_behind_54 rfl (fun c_54 => ?_) (fun c_54 => ?_)
      · rw [nI_leI (by omega) (by omega)] at c_54
        refine h_iload_n dX11_behind_84 rfl ?_
        refine h_ireturn dX11_behind_85 rfl ?_
        have ek : np = p := by omega
        subst ek
        exact hX
      · rw [nI_leI (by omega) (by omega)] at c_54
        refine h_aload_n dX11_behind_57 rfl ?_
        refine h_getR dX11_behind_58 f_X11_10_9 rfl rfl ?_
        refine h_iload_n dX11_behind_61 rfl ?_
        refine h_iload dX11_behind_62 rfl ?_
        refine h_iload_n dX11_behind_64 rfl ?_
        refine h_cV3 dX11_behind_65 k3_158 oVX10_hides rfl rfl ?_
        refine c_hides (I := (upA (upA (upA I 25 g1) 26 g2) 27 g3)) hG hs (by omega) hq hal (fun b2 => ?_) (fun b2 => ?_)
        · refine h_ifeq (tgt := 78) dX11_behind_68 rfl (fun c => absurd c (by decide)) (fun _ => ?_)
          refine h_iload_n dX11_behind_71 rfl ?_
          refine h_iconst dX11_behind_72 ci_1 ?_
          refine h_iload dX11_behind_73 rfl ?_
          refine h_ishl dX11_behind_75 ?_
          refine h_ior dX11_behind_76 ?_
          refine h_istore_n dX11_behind_77 (Nat.le_of_ble_eq_true rfl) ?_
          refine h_iinc (v := nI (p + 1)) dX11_behind_78 rfl (nI_1 _) (Nat.le_of_ble_eq_true rfl) ?_
          refine h_goto (tgt := 45) dX11_behind_81 rfl ?_
          have h3 := ih (p + 1) (by omega) (by omega)
          rw [mkB_t (P := (fun p => cbl (∃ a b, spG (inS nl fa fb sl fr tg fl p (-9)) (loK nl np ml nw pl fa fb sl pp pm ki fr tg wh bw rs sn qw) (hiK nl np ml nw pl fa fb sl pp pm ki fr tg wh bw rs sn qw) nk = some a ∧ ¬ a.2 < a.1 ∧ spG (inS nl fa fb sl fr tg fl q (-9)) (loK nl np ml nw pl fa fb sl pp pm ki fr tg wh bw rs sn qw) (hiK nl np ml nw pl fa fb sl pp pm ki fr tg wh bw rs sn qw) nk = some b ∧ ¬ b.2 < b.1 ∧ pl s < pp p ∧ pp p < pp q ∧ (b.2 - lvl fa fb sl rs nl s).toInt64 * (nI (aw (pl s) (pp p))).toInt64 < (a.1 - lvl fa fb sl rs nl s).toInt64 * (nI (aw (pl s) (pp q))).toInt64))) (cbl_t b2)] at h3
          exact h3
        · refine h_ifeq (tgt := 78) dX11_behind_68 rfl (fun _ => ?_) (fun c => absurd (by decide) c)
          refine h_iinc (v := nI (p + 1)) dX11_behind_78 rfl (nI_1 _) (Nat.le_of_ble_eq_true rfl) ?_
          refine h_goto (tgt := 45) dX11_behind_81 rfl ?_
          have h3 := ih (p + 1) (by omega) (by omega)
          rw [mkB_f (P := (fun p => cbl (∃ a b, spG (inS nl fa fb sl fr tg fl p (-9)) (loK nl np ml nw pl fa fb sl pp pm ki fr tg wh bw rs sn qw) (hiK nl np ml nw pl fa fb sl pp pm ki fr tg wh bw rs sn qw) nk = some a ∧ ¬ a.2 < a.1 ∧ spG (inS nl fa fb sl fr tg fl q (-9)) (loK nl np ml nw pl fa fb sl pp pm ki fr tg wh bw rs sn qw) (hiK nl np ml nw pl fa fb sl pp pm ki fr tg wh bw rs sn qw) nk = some b ∧ ¬ b.2 < b.1 ∧ pl s < pp p ∧ pp p < pp q ∧ (b.2 - lvl fa fb sl rs nl s).toInt64 * (nI (aw (pl s) (pp p))).toInt64 < (a.1 - lvl fa fb sl rs nl s).toInt64 * (nI (aw (pl s) (pp q))).toInt64))) (cbl_f b2)] at h3
          exact h3
  show HV l mX11_behind (dp + 7) 0 0 0 [some (.ref 0), some (.int x), some (.int y), none, none] [] hSH I J (hRR lt tx) Q
  refine h_aload_n dX11_behind_0 rfl ?_
  refine h_iload_n dX11_behind_1 rfl ?_
  refine h_cV1 dX11_behind_2 k2_188 oVX11_isStation rfl rfl ?_
  refine c_isStation (n := ns) hns (by omega) (fun b1 => ?_) (fun b1 => ?_)
  · refine h_ifeq (tgt := 16) dX11_behind_5 rfl (fun c => absurd c (by decide)) (fun _ => ?_)
    refine h_aload_n dX11_behind_8 rfl ?_
    refine h_iload_n dX11_behind_9 rfl ?_
    refine h_cV1 dX11_behind_10 k3_11 oVX11_isPoint rfl rfl ?_
    refine c_isPoint (n := np) hnp (by omega) (fun b2 => ?_) (fun b2 => ?_)
    · obtain ⟨s, hs, rfl⟩ := b1
      obtain ⟨q, hq, rfl⟩ := b2
      refine h_ifne (tgt := 18) dX11_behind_13 rfl (fun _ => ?_) (fun c => absurd c (by decide))
      refine h_aload_n dX11_behind_18 rfl ?_
      refine h_getR dX11_behind_19 f_X11_20_9 rfl rfl ?_
      refine h_iload_n dX11_behind_22 rfl ?_
      refine h_cV1 dX11_behind_23 k2_223 oVX5_hasLevel rfl rfl ?_
      refine c_hasLevelN (f := dist fa fb sl nl) hns hn6 hdo hs (fun b3 => ?_) (fun b3 => ?_)
      · refine h_ifne (tgt := 32) dX11_behind_26 rfl (fun _ => ?_) (fun c => absurd c (by decide))
        refine h_aload_n dX11_behind_32 rfl ?_
        refine h_getR dX11_behind_33 f_X11_10_9 rfl rfl ?_
        refine h_cV0 dX11_behind_36 k3_154 oVX10_measureAll rfl rfl ?_
        refine c_measureAll hG (fun g1 g2 g3 hal => ?_)
        refine h_pop dX11_behind_39 rfl ?_
        refine h_iconst dX11_behind_40 ci_0 ?_
        refine h_istore_n dX11_behind_41 (Nat.le_of_ble_eq_true rfl) ?_
        refine h_iconst dX11_behind_42 ci_0 ?_
        refine h_istore dX11_behind_43 (Nat.le_of_ble_eq_true rfl) ?_
        exact Lo s q hs hq g1 g2 g3 hal (hO s q rfl rfl hs hq b3 _ (CO_3 I g1 g2 g3)) (np + 1) 0 (by omega) (by omega)
      · refine h_ifne (tgt := 32) dX11_behind_26 rfl (fun c => absurd (by decide) c) (fun _ => ?_)
        refine h_bipush dX11_behind_29 cb_m3 ?_
        refine h_ireturn dX11_behind_31 rfl ?_
        exact hN3 s rfl hs b3 _ (CO_id I)
    · refine h_ifne (tgt := 18) dX11_behind_13 rfl (fun c => absurd (by decide) c) (fun _ => ?_)
      refine h_iconst dX11_behind_16 ci_m1 ?_
      refine h_ireturn dX11_behind_17 rfl ?_
      exact hB (fun z => b2 z.2)
  · refine h_ifeq (tgt := 16) dX11_behind_5 rfl (fun _ => ?_) (fun c => absurd (by decide) c)
    refine h_iconst dX11_behind_16 ci_m1 ?_
    refine h_ireturn dX11_behind_17 rfl ?_
    exact hB (fun z => b1 z.1)
theorem r_behind {l : Launch} {dp : Nat} {ns nl np ml nk nw : Nat} {pl fa fb sl pp pm ki fr tg wh bw : Nat → Nat} {rs sn : Nat → Int32} {fl : Nat → Bool} {qw : Nat → Nat → Nat → Nat → Bool} {I : hI} {J : hJ} {lt tx : Option Nat} {x y : Int32} {Q : hQ} (hG : rG I ns nl np ml nk nw pl fa fb sl pp pm ki fr tg wh bw rs sn fl qw) (hB : ¬ (isIx x ns ∧ isIx y np) → Q (some (.int (-1))) hSH I J (hRR lt tx)) (hN3 : ∀ s, x = nI s → s < ns → ¬ dist fa fb sl nl s < 1000000 → ∀ I', RO I I' → Q (some (.int (-3))) hSH I' J (hRR lt tx)) (hO : ∀ s q, x = nI s → y = nI q → s < ns → q < np → dist fa fb sl nl s < 1000000 → ∀ I', RO I I' → Q (some (.int (mkB (fun p => cbl (∃ a b, spG (inS nl fa fb sl fr tg fl p (-9)) (loK nl np ml nw pl fa fb sl pp pm ki fr tg wh bw rs sn qw) (hiK nl np ml nw pl fa fb sl pp pm ki fr tg wh bw rs sn qw) nk = some a ∧ ¬ a.2 < a.1 ∧ spG (inS nl fa fb sl fr tg fl q (-9)) (loK nl np ml nw pl fa fb sl pp pm ki fr tg wh bw rs sn qw) (hiK nl np ml nw pl fa fb sl pp pm ki fr tg wh bw rs sn qw) nk = some b ∧ ¬ b.2 < b.1 ∧ pl s < pp p ∧ pp p < pp q ∧ (b.2 - lvl fa fb sl rs nl s).toInt64 * (nI (aw (pl s) (pp p))).toInt64 < (a.1 - lvl fa fb sl rs nl s).toInt64 * (nI (aw (pl s) (pp q))).toInt64)) np))) hSH I' J (hRR lt tx)) : HC l mX12_behind (dp + 7) 0 0 [.ref 82, .int x, .int y] hSH I J (hRR lt tx) Q := by
  refine HC.of (by decide +kernel) rfl (Nat.le_of_ble_eq_true rfl) ?_
  obtain ⟨hN, hw, ⟨hnp, hml, hnk, hpt, hsi⟩, ⟨hn8, hm2, hn24, hpW, hsW⟩, hL⟩ := id hG
  obtain ⟨hns, hnl, hpl, hlg⟩ := id hN
  obtain ⟨hn6, hl12, hW, hp99, hr99⟩ := id hw
  have Lo : ∀ (s q : Nat) (hs : s < ns) (hq : q < np) (hf : dist fa fb sl nl s < 1000000) (b0 : Int32 × Int32) (hb1 : spG (inS nl fa fb sl fr tg fl q (-9)) (loK nl np ml nw pl fa fb sl pp pm ki fr tg wh bw rs sn qw) (hiK nl np ml nw pl fa fb sl pp pm ki fr tg wh bw rs sn qw) nk = some b0) (hb2 : ¬ b0.2 < b0.1) (hX : ∀ I', RO I I' → Q (some (.int (mkB (fun p => cbl (∃ a b, spG (inS nl fa fb sl fr tg fl p (-9)) (loK nl np ml nw pl fa fb sl pp pm ki fr tg wh bw rs sn qw) (hiK nl np ml nw pl fa fb sl pp pm ki fr tg wh bw rs sn qw) nk = some a ∧ ¬ a.2 < a.1 ∧ spG (inS nl fa fb sl fr tg fl q (-9)) (loK nl np ml nw pl fa fb sl pp pm ki fr tg wh bw rs sn qw) (hiK nl np ml nw pl fa fb sl pp pm ki fr tg wh bw rs sn qw) nk = some b ∧ ¬ b.2 < b.1 ∧ pl s < pp p ∧ pp p < pp q ∧ (b.2 - lvl fa fb sl rs nl s).toInt64 * (nI (aw (pl s) (pp p))).toInt64 < (a.1 - lvl fa fb sl rs nl s).toInt64 * (nI (aw (pl s) (pp q))).toInt64)) np))) hSH I' J (hRR lt tx)) (m p : Nat) (I2 : hI), RO I I2 → rL I2 ns nl fa fb sl rs → np - p < m → p ≤ np → ∀ z7 z8, HV l mX12_behind (dp + 7) 0 0 79 [some (.ref 82), some (.int (nI s)), some (.int (nI q)), some (.long ((b0.2 - lvl fa fb sl rs nl s).toInt64)), none, some (.int (mkB (fun p => cbl (∃ a b, spG (inS nl fa fb sl fr tg fl p (-9)) (loK nl np ml nw pl fa fb sl pp pm ki fr tg wh bw rs sn qw) (hiK nl np ml nw pl fa fb sl pp pm ki fr tg wh bw rs sn qw) nk = some a ∧ ¬ a.2 < a.1 ∧ spG (inS nl fa fb sl fr tg fl q (-9)) (loK nl np ml nw pl fa fb sl pp pm ki fr tg wh bw rs sn qw) (hiK nl np ml nw pl fa fb sl pp pm ki fr tg wh bw rs sn qw) nk = some b ∧ ¬ b.2 < b.1 ∧ pl s < pp p ∧ pp p < pp q ∧ (b.2 - lvl fa fb sl rs nl s).toInt64 * (nI (aw (pl s) (pp p))).toInt64 < (a.1 - lvl fa fb sl rs nl s).toInt64 * (nI (aw (pl s) (pp q))).toInt64)) p)), some (.int (nI p)), z7, z8] [] hSH I2 J (hRR lt tx) Q := by
    intro s q hs hq hf b0 hb1 hb2 hX m
    induction m with
    | zero => intro p I2 hC hLv h1 h2 z7 z8; omega
    | succ m ih =>
      intro p I2 hC hLv h1 h2 z7 z8
      obtain ⟨a, b, c, lo, hi, f1, f2, rfl⟩ := hC
      have q1 := hp99 s hs
      have w3 := hpW q hq
      have w2 := fun h => hpW p h
      refine h_iload dX12_behind_79 rfl ?_
      refine h_aload_n dX12_behind_81 rfl ?_
      refine h_getI dX12_behind_82 f_X12_110_10 rfl hnp ?_
      refine h_icmpge (tgt := 192) dX12_behind_85 rfl (fun c_85 => ?_) (fun c_85 => ?_)
      · rw [nI_leI (by omega) (by omega)] at c_85
        refine h_iload dX12_behind_192 rfl ?_
        refine h_ireturn dX12_behind_194 rfl ?_
        have ek : np = p := by omega
        subst ek
        exact hX _ (RO_m I a b c lo hi f1 f2)
      · rw [nI_leI (by omega) (by omega)] at c_85
        have w4 := w2 (by omega)
        refine h_aload_n dX12_behind_88 rfl ?_
        refine h_getR dX12_behind_89 f_X12_16_10 rfl rfl ?_
        refine h_iconst dX12_behind_92 ci_2 ?_
        refine h_iload dX12_behind_93 rfl ?_
        refine h_imulN dX12_behind_95 ?_
        refine h_ialdN (j := 2 * p) dX12_behind_96 rfl rfl (by omega) rfl (hpt p (by omega)).1 ?_
        refine h_aload_n dX12_behind_97 rfl ?_
        refine h_getR dX12_behind_98 f_X12_7_10 rfl rfl ?_
        refine h_iload_n dX12_behind_101 rfl ?_
        refine h_ialdN (j := s) dX12_behind_102 rfl rfl (by omega) rfl (hpl _ (by omega)) ?_
        refine h_icmple (tgt := 186) dX12_behind_103 rfl (fun c_103 => ?_) (fun c_103 => ?_)
        · rw [nI_leI (by omega) (by omega)] at c_103
          refine h_iinc (v := nI (p + 1)) dX12_behind_186 rfl (nI_1 _) (Nat.le_of_ble_eq_true rfl) ?_
          refine h_goto (tgt := 79) dX12_behind_189 rfl ?_
          have h3 := ih (p + 1) _ (RO_m I a b c lo hi f1 f2) hLv (by omega) (by omega)
          rw [mkB_f (P := (fun p => cbl (∃ a b, spG (inS nl fa fb sl fr tg fl p (-9)) (loK nl np ml nw pl fa fb sl pp pm ki fr tg wh bw rs sn qw) (hiK nl np ml nw pl fa fb sl pp pm ki fr tg wh bw rs sn qw) nk = some a ∧ ¬ a.2 < a.1 ∧ spG (inS nl fa fb sl fr tg fl q (-9)) (loK nl np ml nw pl fa fb sl pp pm ki fr tg wh bw rs sn qw) (hiK nl np ml nw pl fa fb sl pp pm ki fr tg wh bw rs sn qw) nk = some b ∧ ¬ b.2 < b.1 ∧ pl s < pp p ∧ pp p < pp q ∧ (b.2 - lvl fa fb sl rs nl s).toInt64 * (nI (aw (pl s) (pp p))).toInt64 < (a.1 - lvl fa fb sl rs nl s).toInt64 * (nI (aw (pl s) (pp q))).toInt64))) (cbl_f (fun z => by
            obtain ⟨a9, b9, e1, e2, e3, e4, e5, e6, e7⟩ := z
            omega))] at h3
          exact h3 _ _
        · rw [nI_leI (by omega) (by omega)] at c_103
          refine h_aload_n dX12_behind_106 rfl ?_
          refine h_getR dX12_behind_107 f_X12_16_10 rfl rfl ?_
          refine h_iconst dX12_behind_110 ci_2 ?_
          refine h_iload dX12_behind_111 rfl ?_
          refine h_imulN dX12_behind_113 ?_
          refine h_ialdN (j := 2 * p) dX12_behind_114 rfl rfl (by omega) rfl (hpt p (by omega)).1 ?_
          refine h_aload_n dX12_behind_115 rfl ?_
          refine h_getR dX12_behind_116 f_X12_16_10 rfl rfl ?_
          refine h_iconst dX12_behind_119 ci_2 ?_
          refine h_iload_n dX12_behind_120 rfl ?_
          refine h_imulN dX12_behind_121 ?_
          refine h_ialdN (j := 2 * q) dX12_behind_122 rfl rfl (by omega) rfl (hpt q (by omega)).1 ?_
          refine h_icmpge (tgt := 186) dX12_behind_123 rfl (fun c_123 => ?_) (fun c_123 => ?_)
          · rw [nI_leI (by omega) (by omega)] at c_123
            refine h_iinc (v := nI (p + 1)) dX12_behind_186 rfl (nI_1 _) (Nat.le_of_ble_eq_true rfl) ?_
            refine h_goto (tgt := 79) dX12_behind_189 rfl ?_
            have h3 := ih (p + 1) _ (RO_m I a b c lo hi f1 f2) hLv (by omega) (by omega)
            rw [mkB_f (P := (fun p => cbl (∃ a b, spG (inS nl fa fb sl fr tg fl p (-9)) (loK nl np ml nw pl fa fb sl pp pm ki fr tg wh bw rs sn qw) (hiK nl np ml nw pl fa fb sl pp pm ki fr tg wh bw rs sn qw) nk = some a ∧ ¬ a.2 < a.1 ∧ spG (inS nl fa fb sl fr tg fl q (-9)) (loK nl np ml nw pl fa fb sl pp pm ki fr tg wh bw rs sn qw) (hiK nl np ml nw pl fa fb sl pp pm ki fr tg wh bw rs sn qw) nk = some b ∧ ¬ b.2 < b.1 ∧ pl s < pp p ∧ pp p < pp q ∧ (b.2 - lvl fa fb sl rs nl s).toInt64 * (nI (aw (pl s) (pp p))).toInt64 < (a.1 - lvl fa fb sl rs nl s).toInt64 * (nI (aw (pl s) (pp q))).toInt64))) (cbl_f (fun z => by
              obtain ⟨a9, b9, e1, e2, e3, e4, e5, e6, e7⟩ := z
              omega))] at h3
            exact h3 _ _
          · rw [nI_leI (by omega) (by omega)] at c_123
            refine h_aload_n dX12_behind_126 rfl ?_
            refine h_iload dX12_behind_127 rfl ?_
            refine h_cV1 dX12_behind_129 k6_74 oVX12_noSpan rfl rfl ?_
            refine r_noSpan (I := (rM I a b c lo hi f1 f2)) (p := p) hG (by omega) (fun a2 b2 c2 lo2 hi2 g1 g2 hLv2 y2 => ?_)
            refine h_ifne (tgt := 186) dX12_behind_132 rfl (fun c_132 => ?_) (fun c_132 => ?_)
            · refine h_iinc (v := nI (p + 1)) dX12_behind_186 rfl (nI_1 _) (Nat.le_of_ble_eq_true rfl) ?_
              refine h_goto (tgt := 79) dX12_behind_189 rfl ?_
              have h3 := ih (p + 1) _ (RO_tr (RO_m I a b c lo hi f1 f2) (RO_m _ a2 b2 c2 lo2 hi2 g1 g2)) hLv2 (by omega) (by omega)
              rw [mkB_f (P := (fun p => cbl (∃ a b, spG (inS nl fa fb sl fr tg fl p (-9)) (loK nl np ml nw pl fa fb sl pp pm ki fr tg wh bw rs sn qw) (hiK nl np ml nw pl fa fb sl pp pm ki fr tg wh bw rs sn qw) nk = some a ∧ ¬ a.2 < a.1 ∧ spG (inS nl fa fb sl fr tg fl q (-9)) (loK nl np ml nw pl fa fb sl pp pm ki fr tg wh bw rs sn qw) (hiK nl np ml nw pl fa fb sl pp pm ki fr tg wh bw rs sn qw) nk = some b ∧ ¬ b.2 < b.1 ∧ pl s < pp p ∧ pp p < pp q ∧ (b.2 - lvl fa fb sl rs nl s).toInt64 * (nI (aw (pl s) (pp p))).toInt64 < (a.1 - lvl fa fb sl rs nl s).toInt64 * (nI (aw (pl s) (pp q))).toInt64))) (cbl_f (fun z => by
                obtain ⟨a9, b9, e1, e2, e3, e4, e5, e6, e7⟩ := z
                exact c_132 (spc_is e1 e2)))] at h3
              exact h3 _ _
            · obtain ⟨a0, hsn, hqq⟩ := spE_ok c_132
              rw [hsn] at y2
              refine h_aload_n dX12_behind_135 rfl ?_
              refine h_getI dX12_behind_136 f_X12_200_10 rfl (show _ = a0.1 from y2.1) ?_
              refine h_aload_n dX12_behind_139 rfl ?_
              refine h_getR dX12_behind_140 f_X12_37_10 rfl rfl ?_
              refine h_iload_n dX12_behind_143 rfl ?_
              refine h_ialdN (j := s) dX12_behind_144 rfl rfl (by omega) rfl (hLv2.2.1 _ hs hf) ?_
              refine h_isub dX12_behind_145 ?_
              refine h_i2l dX12_behind_146 ?_
              refine h_lstore dX12_behind_147 (Nat.le_of_ble_eq_true rfl) ?_
              refine h_iload dX12_behind_149 rfl ?_
              refine h_lload dX12_behind_151 rfl ?_
              refine h_aload_n dX12_behind_153 rfl ?_
              refine h_iload_n dX12_behind_154 rfl ?_
              refine h_iload_n dX12_behind_155 rfl ?_
              refine h_cV2 dX12_behind_156 k5_196 oVX12_awayOf rfl rfl ?_
              refine r_awayOf (I := (rM (rM I a b c lo hi f1 f2) a2 b2 c2 lo2 hi2 g1 g2)) hG hs (by omega) ?_
              refine h_i2l dX12_behind_159 ?_
              refine h_lmul dX12_behind_160 ?_
              refine h_lload_n dX12_behind_161 rfl ?_
              refine h_aload_n dX12_behind_162 rfl ?_
              refine h_iload_n dX12_behind_163 rfl ?_
              refine h_iload dX12_behind_164 rfl ?_
              refine h_cV2 dX12_behind_166 k5_196 oVX12_awayOf rfl rfl ?_
              refine r_awayOf (I := (rM (rM I a b c lo hi f1 f2) a2 b2 c2 lo2 hi2 g1 g2)) hG hs (by omega) ?_
              refine h_i2l dX12_behind_169 ?_
              refine h_lmul dX12_behind_170 ?_
              refine h_lcmp dX12_behind_171 ?_
              refine h_ifle (tgt := 182) dX12_behind_172 rfl (fun c_172 => ?_) (fun c_172 => ?_)
              · refine h_iconst dX12_behind_182 ci_0 ?_
                refine h_ior dX12_behind_183 ?_
                refine h_istore dX12_behind_184 (Nat.le_of_ble_eq_true rfl) ?_
                refine h_iinc (v := nI (p + 1)) dX12_behind_186 rfl (nI_1 _) (Nat.le_of_ble_eq_true rfl) ?_
                refine h_goto (tgt := 79) dX12_behind_189 rfl ?_
                have h3 := ih (p + 1) _ (RO_tr (RO_m I a b c lo hi f1 f2) (RO_m _ a2 b2 c2 lo2 hi2 g1 g2)) hLv2 (by omega) (by omega)
                rw [mkB_f (P := (fun p => cbl (∃ a b, spG (inS nl fa fb sl fr tg fl p (-9)) (loK nl np ml nw pl fa fb sl pp pm ki fr tg wh bw rs sn qw) (hiK nl np ml nw pl fa fb sl pp pm ki fr tg wh bw rs sn qw) nk = some a ∧ ¬ a.2 < a.1 ∧ spG (inS nl fa fb sl fr tg fl q (-9)) (loK nl np ml nw pl fa fb sl pp pm ki fr tg wh bw rs sn qw) (hiK nl np ml nw pl fa fb sl pp pm ki fr tg wh bw rs sn qw) nk = some b ∧ ¬ b.2 < b.1 ∧ pl s < pp p ∧ pp p < pp q ∧ (b.2 - lvl fa fb sl rs nl s).toInt64 * (nI (aw (pl s) (pp p))).toInt64 < (a.1 - lvl fa fb sl rs nl s).toInt64 * (nI (aw (pl s) (pp q))).toInt64))) (cbl_f (fun z => by
                  obtain ⟨a9, b9, e1, e2, e3, e4, e5, e6, e7⟩ := z
                  rw [hsn] at e1
                  cases e1
                  rw [hb1] at e3
                  cases e3
                  exact (lg_le _ _).mp c_172 e7))] at h3
                rw [show nI 0 = (0 : Int32) by decide, Int32.or_zero]
                exact h3 _ _
              · refine h_iconst dX12_behind_175 ci_1 ?_
                refine h_iload dX12_behind_176 rfl ?_
                refine h_ishl dX12_behind_178 ?_
                refine h_goto (tgt := 183) dX12_behind_179 rfl ?_
                refine h_ior dX12_behind_183 ?_
                refine h_istore dX12_behind_184 (Nat.le_of_ble_eq_true rfl) ?_
                refine h_iinc (v := nI (p + 1)) dX12_behind_186 rfl (nI_1 _) (Nat.le_of_ble_eq_true rfl) ?_
                refine h_goto (tgt := 79) dX12_behind_189 rfl ?_
                have h3 := ih (p + 1) _ (RO_tr (RO_m I a b c lo hi f1 f2) (RO_m _ a2 b2 c2 lo2 hi2 g1 g2)) hLv2 (by omega) (by omega)
                rw [mkB_t (P := (fun p => cbl (∃ a b, spG (inS nl fa fb sl fr tg fl p (-9)) (loK nl np ml nw pl fa fb sl pp pm ki fr tg wh bw rs sn qw) (hiK nl np ml nw pl fa fb sl pp pm ki fr tg wh bw rs sn qw) nk = some a ∧ ¬ a.2 < a.1 ∧ spG (inS nl fa fb sl fr tg fl q (-9)) (loK nl np ml nw pl fa fb sl pp pm ki fr tg wh bw rs sn qw) (hiK nl np ml nw pl fa fb sl pp pm ki fr tg wh bw rs sn qw) nk = some b ∧ ¬ b.2 < b.1 ∧ pl s < pp p ∧ pp p < pp q ∧ (b.2 - lvl fa fb sl rs nl s).toInt64 * (nI (aw (pl s) (pp p))).toInt64 < (a.1 - lvl fa fb sl rs nl s).toInt64 * (nI (aw (pl s) (pp q))).toInt64))) (cbl_t ⟨a0, b0, hsn, hqq, hb1, hb2, by omega, by omega, Classical.not_not.mp (fun z => c_172 ((lg_le _ _).mpr z))⟩)] at h3
                exact h3 _ _
  show HV l mX12_behind (dp + 7) 0 0 0 [some (.ref 82), some (.int x), some (.int y), none, none, none, none, none, none] [] hSH I J (hRR lt tx) Q
  refine h_aload_n dX12_behind_0 rfl ?_
  refine h_iload_n dX12_behind_1 rfl ?_
  refine h_cV1 dX12_behind_2 k5_179 oVX12_isStation rfl rfl ?_
  refine r_isStation (n := ns) hns (by omega) (fun b1 => ?_) (fun b1 => ?_)
  · refine h_ifeq (tgt := 16) dX12_behind_5 rfl (fun c => absurd c (by decide)) (fun _ => ?_)
    refine h_aload_n dX12_behind_8 rfl ?_
    refine h_iload_n dX12_behind_9 rfl ?_
    refine h_cV1 dX12_behind_10 k5_238 oVX12_isPoint rfl rfl ?_
    refine r_isPoint (n := np) hnp (by omega) (fun b2 => ?_) (fun b2 => ?_)
    · obtain ⟨s, hs, rfl⟩ := b1
      obtain ⟨q, hq, rfl⟩ := b2
      have q1 := hp99 s hs
      have w3 := hpW q hq
      refine h_ifne (tgt := 18) dX12_behind_13 rfl (fun _ => ?_) (fun c => absurd c (by decide))
      refine h_aload_n dX12_behind_18 rfl ?_
      refine h_cV0 dX12_behind_19 k5_200 oVX12_findLevels rfl rfl ?_
      refine r_findLevels hN hw (fun a c b hLv => ?_)
      refine h_aload_n dX12_behind_22 rfl ?_
      refine h_iload_n dX12_behind_23 rfl ?_
      refine h_cV1 dX12_behind_24 k5_213 oVX12_hasLevel rfl rfl ?_
      refine r_hasLevel (f := dist fa fb sl nl) (by omega) hLv.1 (bf_le 6) (fun b3 => ?_) (fun b3 => ?_)
      · refine h_ifne (tgt := 33) dX12_behind_27 rfl (fun _ => ?_) (fun c => absurd c (by decide))
        refine h_aload_n dX12_behind_33 rfl ?_
        refine h_iload_n dX12_behind_34 rfl ?_
        refine h_cV1 dX12_behind_35 k6_74 oVX12_noSpan rfl rfl ?_
        refine r_noSpan (I := upA (upA (upA I 90 a) 92 b) 91 c) (p := q) hG hq (fun a2 b2 c2 lo2 hi2 g1 g2 hLv2 y2 => ?_)
        refine h_ifne (tgt := 58) dX12_behind_38 rfl (fun c_38 => ?_) (fun c_38 => ?_)
        · refine h_iconst dX12_behind_58 ci_0 ?_
          refine h_ireturn dX12_behind_59 rfl ?_
          have hQ := hO s q rfl rfl hs hq b3 _ (RO_tr (RO_l I a b c) (RO_m _ a2 b2 c2 lo2 hi2 g1 g2))
          rw [mkB_0 np (fun p hp => cbl_f (fun z => by
            obtain ⟨a9, b9, e1, e2, e3, e4, e5, e6, e7⟩ := z
            exact c_38 (spc_is e3 e4)))] at hQ
          exact hQ
        · obtain ⟨b0, hb1, hb2⟩ := spE_ok c_38
          rw [hb1] at y2
          refine h_aload_n dX12_behind_41 rfl ?_
          refine h_getR dX12_behind_42 f_X12_16_10 rfl rfl ?_
          refine h_iconst dX12_behind_45 ci_2 ?_
          refine h_iload_n dX12_behind_46 rfl ?_
          refine h_imulN dX12_behind_47 ?_
          refine h_ialdN (j := 2 * q) dX12_behind_48 rfl rfl (by omega) rfl (hpt q (by omega)).1 ?_
          refine h_aload_n dX12_behind_49 rfl ?_
          refine h_getR dX12_behind_50 f_X12_7_10 rfl rfl ?_
          refine h_iload_n dX12_behind_53 rfl ?_
          refine h_ialdN (j := s) dX12_behind_54 rfl rfl (by omega) rfl (hpl _ (by omega)) ?_
          refine h_icmpgt (tgt := 60) dX12_behind_55 rfl (fun c_55 => ?_) (fun c_55 => ?_)
          · rw [nI_ltI (by omega) (by omega)] at c_55
            refine h_aload_n dX12_behind_60 rfl ?_
            refine h_getI dX12_behind_61 f_X12_203_10 rfl (show _ = b0.2 from y2.2) ?_
            refine h_aload_n dX12_behind_64 rfl ?_
            refine h_getR dX12_behind_65 f_X12_37_10 rfl rfl ?_
            refine h_iload_n dX12_behind_68 rfl ?_
            refine h_ialdN (j := s) dX12_behind_69 rfl rfl (by omega) rfl (hLv2.2.1 _ hs b3) ?_
            refine h_isub dX12_behind_70 ?_
            refine h_i2l dX12_behind_71 ?_
            refine h_lstore_n dX12_behind_72 (Nat.le_of_ble_eq_true rfl) ?_
            refine h_iconst dX12_behind_73 ci_0 ?_
            refine h_istore dX12_behind_74 (Nat.le_of_ble_eq_true rfl) ?_
            refine h_iconst dX12_behind_76 ci_0 ?_
            refine h_istore dX12_behind_77 (Nat.le_of_ble_eq_true rfl) ?_
            exact Lo s q hs hq b3 b0 hb1 hb2 (hO s q rfl rfl hs hq b3) (np + 1) 0 _ (RO_tr (RO_l I a b c) (RO_m _ a2 b2 c2 lo2 hi2 g1 g2)) hLv2 (by omega) (by omega) _ _
          · rw [nI_ltI (by omega) (by omega)] at c_55
            refine h_iconst dX12_behind_58 ci_0 ?_
            refine h_ireturn dX12_behind_59 rfl ?_
            have hQ := hO s q rfl rfl hs hq b3 _ (RO_tr (RO_l I a b c) (RO_m _ a2 b2 c2 lo2 hi2 g1 g2))
            rw [mkB_0 np (fun p hp => cbl_f (fun z => by
              obtain ⟨a9, b9, e1, e2, e3, e4, e5, e6, e7⟩ := z
              omega))] at hQ
            exact hQ
      · refine h_ifne (tgt := 33) dX12_behind_27 rfl (fun c => absurd (by decide) c) (fun _ => ?_)
        refine h_bipush dX12_behind_30 cb_m3 ?_
        refine h_ireturn dX12_behind_32 rfl ?_
        exact hN3 s rfl hs b3 _ (RO_l I a b c)
    · refine h_ifne (tgt := 18) dX12_behind_13 rfl (fun c => absurd (by decide) c) (fun _ => ?_)
      refine h_iconst dX12_behind_16 ci_m1 ?_
      refine h_ireturn dX12_behind_17 rfl ?_
      exact hB (fun z => b2 z.2)
  · refine h_ifeq (tgt := 16) dX12_behind_5 rfl (fun _ => ?_) (fun c => absurd (by decide) c)
    refine h_iconst dX12_behind_16 ci_m1 ?_
    refine h_ireturn dX12_behind_17 rfl ?_
    exact hB (fun z => b1 z.1)
