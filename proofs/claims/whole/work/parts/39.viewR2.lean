def spR (o : Option (Int32 × Int32)) (lo hi : Int32) : Prop := match o with
  | none => True
  | some q => lo = q.1 ∧ hi = q.2
theorem spG_0 {P : Nat → Bool} {lo hi : Nat → Int32} : ∀ n, cntK P n = 0 ↔ spG P lo hi n = none
  | 0 => ⟨fun _ => rfl, fun _ => rfl⟩
  | n + 1 => by
    have ih := spG_0 (P := P) (lo := lo) (hi := hi) n
    unfold cntK spG
    by_cases e : P n = true
    · rw [if_pos e, if_pos e]
      constructor
      · intro h; omega
      · intro h
        cases hs : spG P lo hi n with
        | none => rw [hs] at h; cases h
        | some q => rw [hs] at h; cases h
    · rw [if_neg e, if_neg e]; exact ih
theorem spG_congr {P P' : Nat → Bool} {lo hi : Nat → Int32} : ∀ n, (∀ k, k < n → P k = P' k) → spG P lo hi n = spG P' lo hi n
  | 0, _ => rfl
  | n + 1, h => by
    unfold spG
    rw [h n (by omega), spG_congr n (fun k hk => h k (by omega))]
theorem r_findSpan {l : Launch} {dp : Nat} {ns nl np ml nk nw : Nat} {pl fa fb sl pp pm ki fr tg wh bw : Nat → Nat} {rs sn : Nat → Int32} {fl : Nat → Bool} {qw : Nat → Nat → Nat → Nat → Bool} {I : hI} {J : hJ} {lt tx : Option Nat} {p : Nat} {e : Int32} {Q : hQ} (hG : rG I ns nl np ml nk nw pl fa fb sl pp pm ki fr tg wh bw rs sn fl qw) (hLv : rL I ns nl fa fb sl rs) (hp : p < np) (hQ : ∀ lo hi g1 g2, spR (spG (inS nl fa fb sl fr tg fl p e) (loK nl np ml nw pl fa fb sl pp pm ki fr tg wh bw rs sn qw) (hiK nl np ml nw pl fa fb sl pp pm ki fr tg wh bw rs sn qw) nk) lo hi → Q (some (.int (nI (cntK (inS nl fa fb sl fr tg fl p e) nk)))) hSH (rS I lo hi g1 g2) J (hRR lt tx)) : HC l mX12_findSpan (dp + 5) 0 0 [.ref 82, .int (nI p), .int e] hSH I J (hRR lt tx) Q := by
  refine HC.of (by decide +kernel) rfl (Nat.le_of_ble_eq_true rfl) ?_
  obtain ⟨hN, hw, ⟨hnp, hml, hnk, hpt, hsi⟩, ⟨hn8, hm2, hn24, hpW, hsW⟩, hL⟩ := id hG
  obtain ⟨hns, hnl, hpl, hlg⟩ := id hN
  obtain ⟨hn6, hl12, hW, hp99, hr99⟩ := id hw
  have Lo : ∀ (m k n : Nat) (lo hi : Int32) (g1 g2 : Nat → Int32), nk - k < m → k ≤ nk → n = cntK (inS nl fa fb sl fr tg fl p e) k → n ≤ k → spR (spG (inS nl fa fb sl fr tg fl p e) (loK nl np ml nw pl fa fb sl pp pm ki fr tg wh bw rs sn qw) (hiK nl np ml nw pl fa fb sl pp pm ki fr tg wh bw rs sn qw) k) lo hi → ∀ z5 z6, HV l mX12_findSpan (dp + 5) 0 0 5 [some (.ref 82), some (.int (nI p)), some (.int e), some (.int (nI n)), some (.int (nI k)), z5, z6] [] hSH (rS I lo hi g1 g2) J (hRR lt tx) Q := by
    intro m
    induction m with
    | zero => intro k n lo hi g1 g2 h1 h2 hn h4 hs z5 z6; omega
    | succ m ih =>
      intro k n lo hi g1 g2 h1 h2 hn h4 hs z5 z6
      refine h_iload dX12_findSpan_5 rfl ?_
      refine h_aload_n dX12_findSpan_7 rfl ?_
      refine h_getI dX12_findSpan_8 f_X12_113_10 rfl hnk ?_
      refine h_icmpge (tgt := 136) dX12_findSpan_11 rfl (fun c_11 => ?_) (fun c_11 => ?_)
      · rw [nI_leI (by omega) (by omega)] at c_11
        refine h_iload_n dX12_findSpan_136 rfl ?_
        refine h_ireturn dX12_findSpan_137 rfl ?_
        have ek : nk = k := by omega
        subst ek
        rw [hn]
        exact hQ lo hi g1 g2 hs
      · rw [nI_leI (by omega) (by omega)] at c_11
        refine h_iload dX12_findSpan_14 rfl ?_
        refine h_iload_n dX12_findSpan_16 rfl ?_
        refine h_icmpeq (tgt := 130) dX12_findSpan_17 rfl (fun c_17 => ?_) (fun c_17 => ?_)
        · refine h_iinc (v := nI (k + 1)) dX12_findSpan_130 rfl (nI_1 _) (Nat.le_of_ble_eq_true rfl) ?_
          refine h_goto (tgt := 5) dX12_findSpan_133 rfl ?_
          have eN : ¬ inS nl fa fb sl fr tg fl p e k = true := by unfold inS; simp only [Bool.and_eq_true, decide_eq_true_eq]; rintro ⟨⟨y1, y2⟩, y3⟩; exact y2 c_17
          exact ih (k + 1) n lo hi g1 g2 (by omega) (by omega) (hn.trans (if_neg eN).symm) (by omega) (by rw [show spG (inS nl fa fb sl fr tg fl p e) (loK nl np ml nw pl fa fb sl pp pm ki fr tg wh bw rs sn qw) (hiK nl np ml nw pl fa fb sl pp pm ki fr tg wh bw rs sn qw) (k + 1) = spG (inS nl fa fb sl fr tg fl p e) (loK nl np ml nw pl fa fb sl pp pm ki fr tg wh bw rs sn qw) (hiK nl np ml nw pl fa fb sl pp pm ki fr tg wh bw rs sn qw) k from if_neg eN]; exact hs) _ _
        · have q1 := hsW k (by omega)
          refine h_aload_n dX12_findSpan_20 rfl ?_
          refine h_getR dX12_findSpan_21 f_X12_19_10 rfl rfl ?_
          refine h_bipush dX12_findSpan_24 cb_7 ?_
          refine h_iload dX12_findSpan_26 rfl ?_
          refine h_imulN dX12_findSpan_28 ?_
          refine h_iconst dX12_findSpan_29 ci_2 ?_
          refine h_iaddN dX12_findSpan_30 ?_
          refine h_ialdN (j := (7 * k) + 2) dX12_findSpan_31 rfl rfl (by omega) rfl (hsi k (by omega)).2.2.1 ?_
          refine h_iload_n dX12_findSpan_32 rfl ?_
          refine h_icmpne (tgt := 130) dX12_findSpan_33 rfl (fun c_33 => ?_) (fun c_33 => ?_)
          · rw [nI_eq (by omega) (by omega)] at c_33
            refine h_iinc (v := nI (k + 1)) dX12_findSpan_130 rfl (nI_1 _) (Nat.le_of_ble_eq_true rfl) ?_
            refine h_goto (tgt := 5) dX12_findSpan_133 rfl ?_
            have eN : ¬ inS nl fa fb sl fr tg fl p e k = true := by unfold inS; simp only [Bool.and_eq_true, decide_eq_true_eq]; rintro ⟨⟨y1, y2⟩, y3⟩; exact c_33 y1
            exact ih (k + 1) n lo hi g1 g2 (by omega) (by omega) (hn.trans (if_neg eN).symm) (by omega) (by rw [show spG (inS nl fa fb sl fr tg fl p e) (loK nl np ml nw pl fa fb sl pp pm ki fr tg wh bw rs sn qw) (hiK nl np ml nw pl fa fb sl pp pm ki fr tg wh bw rs sn qw) (k + 1) = spG (inS nl fa fb sl fr tg fl p e) (loK nl np ml nw pl fa fb sl pp pm ki fr tg wh bw rs sn qw) (hiK nl np ml nw pl fa fb sl pp pm ki fr tg wh bw rs sn qw) k from if_neg eN]; exact hs) _ _
          · rw [nI_eq (by omega) (by omega)] at c_33
            refine h_aload_n dX12_findSpan_36 rfl ?_
            refine h_iload dX12_findSpan_37 rfl ?_
            refine h_cV1 dX12_findSpan_39 k6_82 oVX12_counts rfl rfl ?_
            refine r_counts (I := rS I lo hi g1 g2) hG hLv (by omega) (fun b1 => ?_) (fun b1 => ?_)
            · refine h_ifeq (tgt := 130) dX12_findSpan_42 rfl (fun c => absurd c (by decide)) (fun _ => ?_)
              have hfk : dist fa fb sl nl (fr k) < 1000000 := by
                unfold cnK at b1
                simp at b1
                exact b1.2
              refine h_aload_n dX12_findSpan_45 rfl ?_
              refine h_iload dX12_findSpan_46 rfl ?_
              refine h_cV1 dX12_findSpan_48 k6_58 oVX12_sightFoot rfl rfl ?_
              refine r_sightFoot (I := rS I lo hi g1 g2) hG hLv (by omega) hfk (fun k1 k2 => ?_)
              rw [rS_f]
              refine h_aload_n dX12_findSpan_51 rfl ?_
              refine h_iload dX12_findSpan_52 rfl ?_
              refine h_cV1 dX12_findSpan_54 k6_66 oVX12_widthOf rfl rfl ?_
              refine r_widthOf (I := rS I lo hi k1 k2) hG hLv (by omega) ?_
              refine h_isub dX12_findSpan_57 ?_
              refine h_istore dX12_findSpan_58 (Nat.le_of_ble_eq_true rfl) ?_
              refine h_aload_n dX12_findSpan_60 rfl ?_
              refine h_iload dX12_findSpan_61 rfl ?_
              refine h_cV1 dX12_findSpan_63 k6_58 oVX12_sightFoot rfl rfl ?_
              refine r_sightFoot (I := rS I lo hi k1 k2) hG hLv (by omega) hfk (fun k3 k4 => ?_)
              rw [rS_f]
              refine h_aload_n dX12_findSpan_66 rfl ?_
              refine h_iload dX12_findSpan_67 rfl ?_
              refine h_cV1 dX12_findSpan_69 k6_66 oVX12_widthOf rfl rfl ?_
              refine r_widthOf (I := rS I lo hi k3 k4) hG hLv (by omega) ?_
              refine h_iadd dX12_findSpan_72 ?_
              refine h_istore dX12_findSpan_73 (Nat.le_of_ble_eq_true rfl) ?_
              refine h_aload_n dX12_findSpan_75 rfl ?_
              refine h_iload_n dX12_findSpan_76 rfl ?_
              refine h_ifeq (tgt := 89) dX12_findSpan_77 rfl (fun c_77 => ?_) (fun c_77 => ?_)
              · rw [show (0 : Int32) = nI 0 from rfl, nI_eq (by omega) (by omega)] at c_77
                refine h_iload dX12_findSpan_89 rfl ?_
                refine h_goto (tgt := 98) dX12_findSpan_91 rfl ?_
                refine h_putI dX12_findSpan_98 f_X12_200_10 p_X12_10_16 (fun h => by cases h) rfl ?_
                rw [rS_16]
                refine h_aload_n dX12_findSpan_101 rfl ?_
                refine h_iload_n dX12_findSpan_102 rfl ?_
                refine h_ifeq (tgt := 115) dX12_findSpan_103 rfl (fun c_103 => ?_) (fun c_103 => ?_)
                · rw [show (0 : Int32) = nI 0 from rfl, nI_eq (by omega) (by omega)] at c_103
                  refine h_iload dX12_findSpan_115 rfl ?_
                  refine h_goto (tgt := 124) dX12_findSpan_117 rfl ?_
                  refine h_putI dX12_findSpan_124 f_X12_203_10 p_X12_10_17 (fun h => by cases h) rfl ?_
                  rw [rS_17]
                  refine h_iinc (v := nI (n + 1)) dX12_findSpan_127 rfl (nI_1 _) (Nat.le_of_ble_eq_true rfl) ?_
                  refine h_iinc (v := nI (k + 1)) dX12_findSpan_130 rfl (nI_1 _) (Nat.le_of_ble_eq_true rfl) ?_
                  refine h_goto (tgt := 5) dX12_findSpan_133 rfl ?_
                  have hin : inS nl fa fb sl fr tg fl p e k = true := by unfold inS; simp only [Bool.and_eq_true, decide_eq_true_eq]; exact ⟨⟨c_33, c_17⟩, b1⟩
                  have hsn : spG (inS nl fa fb sl fr tg fl p e) (loK nl np ml nw pl fa fb sl pp pm ki fr tg wh bw rs sn qw) (hiK nl np ml nw pl fa fb sl pp pm ki fr tg wh bw rs sn qw) k = none := (spG_0 k).mp (by rw [← hn]; exact c_77)
                  have eS : spG (inS nl fa fb sl fr tg fl p e) (loK nl np ml nw pl fa fb sl pp pm ki fr tg wh bw rs sn qw) (hiK nl np ml nw pl fa fb sl pp pm ki fr tg wh bw rs sn qw) (k + 1) = some (loK nl np ml nw pl fa fb sl pp pm ki fr tg wh bw rs sn qw k, hiK nl np ml nw pl fa fb sl pp pm ki fr tg wh bw rs sn qw k) := by
                    show (if _ then _ else _) = _
                    rw [if_pos hin, hsn]
                  refine ih (k + 1) (n + 1) _ _ _ _ (by omega) (by omega) (by rw [hn]; exact (if_pos hin).symm) (by omega) ?_ _ _
                  rw [eS]
                  exact ⟨rfl, rfl⟩
                · rw [show (0 : Int32) = nI 0 from rfl, nI_eq (by omega) (by omega)] at c_103
                  exact absurd c_77 c_103
              · rw [show (0 : Int32) = nI 0 from rfl, nI_eq (by omega) (by omega)] at c_77
                refine h_iload dX12_findSpan_80 rfl ?_
                refine h_aload_n dX12_findSpan_82 rfl ?_
                refine h_getI dX12_findSpan_83 f_X12_200_10 rfl (show _ = lo from rfl) ?_
                refine h_icmple (tgt := 94) dX12_findSpan_86 rfl (fun c_86 => ?_) (fun c_86 => ?_)
                · refine h_aload_n dX12_findSpan_94 rfl ?_
                  refine h_getI dX12_findSpan_95 f_X12_200_10 rfl (show _ = lo from rfl) ?_
                  refine h_putI dX12_findSpan_98 f_X12_200_10 p_X12_10_16 (fun h => by cases h) rfl ?_
                  rw [rS_16]
                  refine h_aload_n dX12_findSpan_101 rfl ?_
                  refine h_iload_n dX12_findSpan_102 rfl ?_
                  refine h_ifeq (tgt := 115) dX12_findSpan_103 rfl (fun c_103 => ?_) (fun c_103 => ?_)
                  · rw [show (0 : Int32) = nI 0 from rfl, nI_eq (by omega) (by omega)] at c_103
                    exact absurd c_103 c_77
                  · rw [show (0 : Int32) = nI 0 from rfl, nI_eq (by omega) (by omega)] at c_103
                    refine h_iload dX12_findSpan_106 rfl ?_
                    refine h_aload_n dX12_findSpan_108 rfl ?_
                    refine h_getI dX12_findSpan_109 f_X12_203_10 rfl (show _ = hi from rfl) ?_
                    refine h_icmpge (tgt := 120) dX12_findSpan_112 rfl (fun c_112 => ?_) (fun c_112 => ?_)
                    · refine h_aload_n dX12_findSpan_120 rfl ?_
                      refine h_getI dX12_findSpan_121 f_X12_203_10 rfl (show _ = hi from rfl) ?_
                      refine h_putI dX12_findSpan_124 f_X12_203_10 p_X12_10_17 (fun h => by cases h) rfl ?_
                      rw [rS_17]
                      refine h_iinc (v := nI (n + 1)) dX12_findSpan_127 rfl (nI_1 _) (Nat.le_of_ble_eq_true rfl) ?_
                      refine h_iinc (v := nI (k + 1)) dX12_findSpan_130 rfl (nI_1 _) (Nat.le_of_ble_eq_true rfl) ?_
                      refine h_goto (tgt := 5) dX12_findSpan_133 rfl ?_
                      have hin : inS nl fa fb sl fr tg fl p e k = true := by unfold inS; simp only [Bool.and_eq_true, decide_eq_true_eq]; exact ⟨⟨c_33, c_17⟩, b1⟩
                      obtain ⟨q, hsn⟩ : ∃ q, spG (inS nl fa fb sl fr tg fl p e) (loK nl np ml nw pl fa fb sl pp pm ki fr tg wh bw rs sn qw) (hiK nl np ml nw pl fa fb sl pp pm ki fr tg wh bw rs sn qw) k = some q := by
                        cases e0 : spG (inS nl fa fb sl fr tg fl p e) (loK nl np ml nw pl fa fb sl pp pm ki fr tg wh bw rs sn qw) (hiK nl np ml nw pl fa fb sl pp pm ki fr tg wh bw rs sn qw) k with
                        | none => exact absurd (by rw [hn]; exact (spG_0 k).mpr e0) c_77
                        | some q => exact ⟨q, rfl⟩
                      rw [hsn] at hs
                      have eS : spG (inS nl fa fb sl fr tg fl p e) (loK nl np ml nw pl fa fb sl pp pm ki fr tg wh bw rs sn qw) (hiK nl np ml nw pl fa fb sl pp pm ki fr tg wh bw rs sn qw) (k + 1) = some ((if lo < loK nl np ml nw pl fa fb sl pp pm ki fr tg wh bw rs sn qw k then loK nl np ml nw pl fa fb sl pp pm ki fr tg wh bw rs sn qw k else lo), (if hiK nl np ml nw pl fa fb sl pp pm ki fr tg wh bw rs sn qw k < hi then hiK nl np ml nw pl fa fb sl pp pm ki fr tg wh bw rs sn qw k else hi)) := by
                        show (if _ then _ else _) = _
                        rw [if_pos hin, hsn]
                        show some (if q.1 < _ then _ else q.1, if _ < q.2 then _ else q.2) = _
                        rw [hs.1, hs.2]
                      refine ih (k + 1) (n + 1) _ _ _ _ (by omega) (by omega) (by rw [hn]; exact (if_pos hin).symm) (by omega) ?_ _ _
                      rw [eS]
                      exact ⟨(if_neg (Int32.not_lt.mpr c_86)).symm, (if_neg (Int32.not_lt.mpr c_112)).symm⟩
                    · refine h_iload dX12_findSpan_115 rfl ?_
                      refine h_goto (tgt := 124) dX12_findSpan_117 rfl ?_
                      refine h_putI dX12_findSpan_124 f_X12_203_10 p_X12_10_17 (fun h => by cases h) rfl ?_
                      rw [rS_17]
                      refine h_iinc (v := nI (n + 1)) dX12_findSpan_127 rfl (nI_1 _) (Nat.le_of_ble_eq_true rfl) ?_
                      refine h_iinc (v := nI (k + 1)) dX12_findSpan_130 rfl (nI_1 _) (Nat.le_of_ble_eq_true rfl) ?_
                      refine h_goto (tgt := 5) dX12_findSpan_133 rfl ?_
                      have hin : inS nl fa fb sl fr tg fl p e k = true := by unfold inS; simp only [Bool.and_eq_true, decide_eq_true_eq]; exact ⟨⟨c_33, c_17⟩, b1⟩
                      obtain ⟨q, hsn⟩ : ∃ q, spG (inS nl fa fb sl fr tg fl p e) (loK nl np ml nw pl fa fb sl pp pm ki fr tg wh bw rs sn qw) (hiK nl np ml nw pl fa fb sl pp pm ki fr tg wh bw rs sn qw) k = some q := by
                        cases e0 : spG (inS nl fa fb sl fr tg fl p e) (loK nl np ml nw pl fa fb sl pp pm ki fr tg wh bw rs sn qw) (hiK nl np ml nw pl fa fb sl pp pm ki fr tg wh bw rs sn qw) k with
                        | none => exact absurd (by rw [hn]; exact (spG_0 k).mpr e0) c_77
                        | some q => exact ⟨q, rfl⟩
                      rw [hsn] at hs
                      have eS : spG (inS nl fa fb sl fr tg fl p e) (loK nl np ml nw pl fa fb sl pp pm ki fr tg wh bw rs sn qw) (hiK nl np ml nw pl fa fb sl pp pm ki fr tg wh bw rs sn qw) (k + 1) = some ((if lo < loK nl np ml nw pl fa fb sl pp pm ki fr tg wh bw rs sn qw k then loK nl np ml nw pl fa fb sl pp pm ki fr tg wh bw rs sn qw k else lo), (if hiK nl np ml nw pl fa fb sl pp pm ki fr tg wh bw rs sn qw k < hi then hiK nl np ml nw pl fa fb sl pp pm ki fr tg wh bw rs sn qw k else hi)) := by
                        show (if _ then _ else _) = _
                        rw [if_pos hin, hsn]
                        show some (if q.1 < _ then _ else q.1, if _ < q.2 then _ else q.2) = _
                        rw [hs.1, hs.2]
                      refine ih (k + 1) (n + 1) _ _ _ _ (by omega) (by omega) (by rw [hn]; exact (if_pos hin).symm) (by omega) ?_ _ _
                      rw [eS]
                      exact ⟨(if_neg (Int32.not_lt.mpr c_86)).symm, (if_pos (Int32.not_le.mp c_112)).symm⟩
                · refine h_iload dX12_findSpan_89 rfl ?_
                  refine h_goto (tgt := 98) dX12_findSpan_91 rfl ?_
                  refine h_putI dX12_findSpan_98 f_X12_200_10 p_X12_10_16 (fun h => by cases h) rfl ?_
                  rw [rS_16]
                  refine h_aload_n dX12_findSpan_101 rfl ?_
                  refine h_iload_n dX12_findSpan_102 rfl ?_
                  refine h_ifeq (tgt := 115) dX12_findSpan_103 rfl (fun c_103 => ?_) (fun c_103 => ?_)
                  · rw [show (0 : Int32) = nI 0 from rfl, nI_eq (by omega) (by omega)] at c_103
                    exact absurd c_103 c_77
                  · rw [show (0 : Int32) = nI 0 from rfl, nI_eq (by omega) (by omega)] at c_103
                    refine h_iload dX12_findSpan_106 rfl ?_
                    refine h_aload_n dX12_findSpan_108 rfl ?_
                    refine h_getI dX12_findSpan_109 f_X12_203_10 rfl (show _ = hi from rfl) ?_
                    refine h_icmpge (tgt := 120) dX12_findSpan_112 rfl (fun c_112 => ?_) (fun c_112 => ?_)
                    · refine h_aload_n dX12_findSpan_120 rfl ?_
                      refine h_getI dX12_findSpan_121 f_X12_203_10 rfl (show _ = hi from rfl) ?_
                      refine h_putI dX12_findSpan_124 f_X12_203_10 p_X12_10_17 (fun h => by cases h) rfl ?_
                      rw [rS_17]
                      refine h_iinc (v := nI (n + 1)) dX12_findSpan_127 rfl (nI_1 _) (Nat.le_of_ble_eq_true rfl) ?_
                      refine h_iinc (v := nI (k + 1)) dX12_findSpan_130 rfl (nI_1 _) (Nat.le_of_ble_eq_true rfl) ?_
                      refine h_goto (tgt := 5) dX12_findSpan_133 rfl ?_
                      have hin : inS nl fa fb sl fr tg fl p e k = true := by unfold inS; simp only [Bool.and_eq_true, decide_eq_true_eq]; exact ⟨⟨c_33, c_17⟩, b1⟩
                      obtain ⟨q, hsn⟩ : ∃ q, spG (inS nl fa fb sl fr tg fl p e) (loK nl np ml nw pl fa fb sl pp pm ki fr tg wh bw rs sn qw) (hiK nl np ml nw pl fa fb sl pp pm ki fr tg wh bw rs sn qw) k = some q := by
                        cases e0 : spG (inS nl fa fb sl fr tg fl p e) (loK nl np ml nw pl fa fb sl pp pm ki fr tg wh bw rs sn qw) (hiK nl np ml nw pl fa fb sl pp pm ki fr tg wh bw rs sn qw) k with
                        | none => exact absurd (by rw [hn]; exact (spG_0 k).mpr e0) c_77
                        | some q => exact ⟨q, rfl⟩
                      rw [hsn] at hs
                      have eS : spG (inS nl fa fb sl fr tg fl p e) (loK nl np ml nw pl fa fb sl pp pm ki fr tg wh bw rs sn qw) (hiK nl np ml nw pl fa fb sl pp pm ki fr tg wh bw rs sn qw) (k + 1) = some ((if lo < loK nl np ml nw pl fa fb sl pp pm ki fr tg wh bw rs sn qw k then loK nl np ml nw pl fa fb sl pp pm ki fr tg wh bw rs sn qw k else lo), (if hiK nl np ml nw pl fa fb sl pp pm ki fr tg wh bw rs sn qw k < hi then hiK nl np ml nw pl fa fb sl pp pm ki fr tg wh bw rs sn qw k else hi)) := by
                        show (if _ then _ else _) = _
                        rw [if_pos hin, hsn]
                        show some (if q.1 < _ then _ else q.1, if _ < q.2 then _ else q.2) = _
                        rw [hs.1, hs.2]
                      refine ih (k + 1) (n + 1) _ _ _ _ (by omega) (by omega) (by rw [hn]; exact (if_pos hin).symm) (by omega) ?_ _ _
                      rw [eS]
                      exact ⟨(if_pos (Int32.not_le.mp c_86)).symm, (if_neg (Int32.not_lt.mpr c_112)).symm⟩
                    · refine h_iload dX12_findSpan_115 rfl ?_
                      refine h_goto (tgt := 124) dX12_findSpan_117 rfl ?_
                      refine h_putI dX12_findSpan_124 f_X12_203_10 p_X12_10_17 (fun h => by cases h) rfl ?_
                      rw [rS_17]
                      refine h_iinc (v := nI (n + 1)) dX12_findSpan_127 rfl (nI_1 _) (Nat.le_of_ble_eq_true rfl) ?_
                      refine h_iinc (v := nI (k + 1)) dX12_findSpan_130 rfl (nI_1 _) (Nat.le_of_ble_eq_true rfl) ?_
                      refine h_goto (tgt := 5) dX12_findSpan_133 rfl ?_
                      have hin : inS nl fa fb sl fr tg fl p e k = true := by unfold inS; simp only [Bool.and_eq_true, decide_eq_true_eq]; exact ⟨⟨c_33, c_17⟩, b1⟩
                      obtain ⟨q, hsn⟩ : ∃ q, spG (inS nl fa fb sl fr tg fl p e) (loK nl np ml nw pl fa fb sl pp pm ki fr tg wh bw rs sn qw) (hiK nl np ml nw pl fa fb sl pp pm ki fr tg wh bw rs sn qw) k = some q := by
                        cases e0 : spG (inS nl fa fb sl fr tg fl p e) (loK nl np ml nw pl fa fb sl pp pm ki fr tg wh bw rs sn qw) (hiK nl np ml nw pl fa fb sl pp pm ki fr tg wh bw rs sn qw) k with
                        | none => exact absurd (by rw [hn]; exact (spG_0 k).mpr e0) c_77
                        | some q => exact ⟨q, rfl⟩
                      rw [hsn] at hs
                      have eS : spG (inS nl fa fb sl fr tg fl p e) (loK nl np ml nw pl fa fb sl pp pm ki fr tg wh bw rs sn qw) (hiK nl np ml nw pl fa fb sl pp pm ki fr tg wh bw rs sn qw) (k + 1) = some ((if lo < loK nl np ml nw pl fa fb sl pp pm ki fr tg wh bw rs sn qw k then loK nl np ml nw pl fa fb sl pp pm ki fr tg wh bw rs sn qw k else lo), (if hiK nl np ml nw pl fa fb sl pp pm ki fr tg wh bw rs sn qw k < hi then hiK nl np ml nw pl fa fb sl pp pm ki fr tg wh bw rs sn qw k else hi)) := by
                        show (if _ then _ else _) = _
                        rw [if_pos hin, hsn]
                        show some (if q.1 < _ then _ else q.1, if _ < q.2 then _ else q.2) = _
                        rw [hs.1, hs.2]
                      refine ih (k + 1) (n + 1) _ _ _ _ (by omega) (by omega) (by rw [hn]; exact (if_pos hin).symm) (by omega) ?_ _ _
                      rw [eS]
                      exact ⟨(if_pos (Int32.not_le.mp c_86)).symm, (if_pos (Int32.not_le.mp c_112)).symm⟩
            · refine h_ifeq (tgt := 130) dX12_findSpan_42 rfl (fun _ => ?_) (fun c => absurd (by decide) c)
              refine h_iinc (v := nI (k + 1)) dX12_findSpan_130 rfl (nI_1 _) (Nat.le_of_ble_eq_true rfl) ?_
              refine h_goto (tgt := 5) dX12_findSpan_133 rfl ?_
              have eN : ¬ inS nl fa fb sl fr tg fl p e k = true := by unfold inS; simp only [Bool.and_eq_true, decide_eq_true_eq]; rintro ⟨⟨y1, y2⟩, y3⟩; exact b1 y3
              exact ih (k + 1) n lo hi g1 g2 (by omega) (by omega) (hn.trans (if_neg eN).symm) (by omega) (by rw [show spG (inS nl fa fb sl fr tg fl p e) (loK nl np ml nw pl fa fb sl pp pm ki fr tg wh bw rs sn qw) (hiK nl np ml nw pl fa fb sl pp pm ki fr tg wh bw rs sn qw) (k + 1) = spG (inS nl fa fb sl fr tg fl p e) (loK nl np ml nw pl fa fb sl pp pm ki fr tg wh bw rs sn qw) (hiK nl np ml nw pl fa fb sl pp pm ki fr tg wh bw rs sn qw) k from if_neg eN]; exact hs) _ _
  show HV l mX12_findSpan (dp + 5) 0 0 0 [some (.ref 82), some (.int (nI p)), some (.int e), none, none, none, none] [] hSH I J (hRR lt tx) Q
  refine h_iconst dX12_findSpan_0 ci_0 ?_
  refine h_istore_n dX12_findSpan_1 (Nat.le_of_ble_eq_true rfl) ?_
  refine h_iconst dX12_findSpan_2 ci_0 ?_
  refine h_istore dX12_findSpan_3 (Nat.le_of_ble_eq_true rfl) ?_
  have h0 := Lo (nk + 1) 0 0 (I 82 16) (I 82 17) (I 101) (I 102) (by omega) (by omega) rfl (by omega) trivial none none
  rw [rS_id] at h0
  exact h0
theorem ins_m {nl : Nat} {fa fb sl fr tg : Nat → Nat} {fl : Nat → Bool} {p k : Nat} (hk : k < 1000) : inS nl fa fb sl fr tg fl p (-1) k = inS nl fa fb sl fr tg fl p (-9) k := by
  unfold inS
  rw [decide_eq_true (nI_nem1 (x := k) (by omega)), decide_eq_true (nI_nem9 (x := k) (by omega))]
theorem cntK_le (P : Nat → Bool) : ∀ n, cntK P n ≤ n
  | 0 => Nat.le_refl _
  | n + 1 => by
    have := cntK_le P n
    unfold cntK
    by_cases e : P n = true
    · rw [if_pos e]; omega
    · rw [if_neg e]; omega
theorem r_noSpan {l : Launch} {dp : Nat} {ns nl np ml nk nw : Nat} {pl fa fb sl pp pm ki fr tg wh bw : Nat → Nat} {rs sn : Nat → Int32} {fl : Nat → Bool} {qw : Nat → Nat → Nat → Nat → Bool} {I : hI} {J : hJ} {lt tx : Option Nat} {p : Nat} {Q : hQ} (hG : rG I ns nl np ml nk nw pl fa fb sl pp pm ki fr tg wh bw rs sn fl qw) (hp : p < np) (hQ : ∀ a b c lo hi g1 g2, rL (rM I a b c lo hi g1 g2) ns nl fa fb sl rs → spR (spG (inS nl fa fb sl fr tg fl p (-9)) (loK nl np ml nw pl fa fb sl pp pm ki fr tg wh bw rs sn qw) (hiK nl np ml nw pl fa fb sl pp pm ki fr tg wh bw rs sn qw) nk) lo hi → Q (some (.int (spc (spG (inS nl fa fb sl fr tg fl p (-9)) (loK nl np ml nw pl fa fb sl pp pm ki fr tg wh bw rs sn qw) (hiK nl np ml nw pl fa fb sl pp pm ki fr tg wh bw rs sn qw) nk)))) hSH (rM I a b c lo hi g1 g2) J (hRR lt tx)) : HC l mX12_noSpan (dp + 6) 0 0 [.ref 82, .int (nI p)] hSH I J (hRR lt tx) Q := by
  refine HC.of (by decide +kernel) rfl (Nat.le_of_ble_eq_true rfl) ?_
  show HV l mX12_noSpan (dp + 6) 0 0 0 [some (.ref 82), some (.int (nI p))] [] hSH I J (hRR lt tx) Q
  obtain ⟨hN, hw, ⟨hnp, hml, hnk, hpt, hsi⟩, ⟨hn8, hm2, hn24, hpW, hsW⟩, hL⟩ := id hG
  obtain ⟨hns, hnl, hpl, hlg⟩ := id hN
  obtain ⟨hn6, hl12, hW, hp99, hr99⟩ := id hw
  have e9 : spG (inS nl fa fb sl fr tg fl p (-1)) (loK nl np ml nw pl fa fb sl pp pm ki fr tg wh bw rs sn qw) (hiK nl np ml nw pl fa fb sl pp pm ki fr tg wh bw rs sn qw) nk = spG (inS nl fa fb sl fr tg fl p (-9)) (loK nl np ml nw pl fa fb sl pp pm ki fr tg wh bw rs sn qw) (hiK nl np ml nw pl fa fb sl pp pm ki fr tg wh bw rs sn qw) nk := spG_congr nk (fun k hk => ins_m (by omega))
  refine h_aload_n dX12_noSpan_0 rfl ?_
  refine h_cV0 dX12_noSpan_1 k5_200 oVX12_findLevels rfl rfl ?_
  refine r_findLevels hN hw (fun a c b hLv => ?_)
  refine h_aload_n dX12_noSpan_4 rfl ?_
  refine h_iload_n dX12_noSpan_5 rfl ?_
  refine h_iconst dX12_noSpan_6 ci_m1 ?_
  refine h_cV2 dX12_noSpan_7 k6_78 oVX12_findSpan rfl rfl ?_
  refine r_findSpan (I := upA (upA (upA I 90 a) 92 b) 91 c) hG hLv hp (fun lo hi g1 g2 hs => ?_)
  rw [e9] at hs
  have e0 := spG_0 (P := inS nl fa fb sl fr tg fl p (-1)) (lo := loK nl np ml nw pl fa fb sl pp pm ki fr tg wh bw rs sn qw) (hi := hiK nl np ml nw pl fa fb sl pp pm ki fr tg wh bw rs sn qw) nk
  rw [e9] at e0
  refine h_ifne (tgt := 18) dX12_noSpan_10 rfl (fun c_10 => ?_) (fun c_10 => ?_)
  · refine h_aload_n dX12_noSpan_18 rfl ?_
    refine h_getI dX12_noSpan_19 f_X12_200_10 rfl (show _ = lo from rfl) ?_
    refine h_aload_n dX12_noSpan_22 rfl ?_
    refine h_getI dX12_noSpan_23 f_X12_203_10 rfl (show _ = hi from rfl) ?_
    refine h_icmple (tgt := 34) dX12_noSpan_26 rfl (fun c_26 => ?_) (fun c_26 => ?_)
    · refine h_iconst dX12_noSpan_34 ci_0 ?_
      refine h_ireturn dX12_noSpan_35 rfl ?_
      have h4 := hQ a b c lo hi g1 g2 hLv hs
      obtain ⟨q, hz⟩ : ∃ q, spG (inS nl fa fb sl fr tg fl p (-9)) (loK nl np ml nw pl fa fb sl pp pm ki fr tg wh bw rs sn qw) (hiK nl np ml nw pl fa fb sl pp pm ki fr tg wh bw rs sn qw) nk = some q := by
        cases e1 : spG (inS nl fa fb sl fr tg fl p (-9)) (loK nl np ml nw pl fa fb sl pp pm ki fr tg wh bw rs sn qw) (hiK nl np ml nw pl fa fb sl pp pm ki fr tg wh bw rs sn qw) nk with
        | none => exact absurd (by rw [e0.mpr e1]; rfl) c_10
        | some q => exact ⟨q, rfl⟩
      rw [hz] at hs h4
      obtain ⟨hs1, hs2⟩ := hs
      rw [show spc (some q) = nI 0 from if_neg (by rw [← hs1, ← hs2]; exact Int32.not_lt.mpr c_26)] at h4
      exact h4
    · refine h_bipush dX12_noSpan_29 cb_m4 ?_
      refine h_goto (tgt := 35) dX12_noSpan_31 rfl ?_
      refine h_ireturn dX12_noSpan_35 rfl ?_
      have h4 := hQ a b c lo hi g1 g2 hLv hs
      obtain ⟨q, hz⟩ : ∃ q, spG (inS nl fa fb sl fr tg fl p (-9)) (loK nl np ml nw pl fa fb sl pp pm ki fr tg wh bw rs sn qw) (hiK nl np ml nw pl fa fb sl pp pm ki fr tg wh bw rs sn qw) nk = some q := by
        cases e1 : spG (inS nl fa fb sl fr tg fl p (-9)) (loK nl np ml nw pl fa fb sl pp pm ki fr tg wh bw rs sn qw) (hiK nl np ml nw pl fa fb sl pp pm ki fr tg wh bw rs sn qw) nk with
        | none => exact absurd (by rw [e0.mpr e1]; rfl) c_10
        | some q => exact ⟨q, rfl⟩
      rw [hz] at hs h4
      obtain ⟨hs1, hs2⟩ := hs
      rw [show spc (some q) = -4 from if_pos (by rw [← hs1, ← hs2]; exact Int32.not_le.mp c_26)] at h4
      exact h4
  · refine h_bipush dX12_noSpan_13 cb_m3 ?_
    refine h_goto (tgt := 35) dX12_noSpan_15 rfl ?_
    refine h_ireturn dX12_noSpan_35 rfl ?_
    have h4 := hQ a b c lo hi g1 g2 hLv hs
    have hz : spG (inS nl fa fb sl fr tg fl p (-9)) (loK nl np ml nw pl fa fb sl pp pm ki fr tg wh bw rs sn qw) (hiK nl np ml nw pl fa fb sl pp pm ki fr tg wh bw rs sn qw) nk = none := e0.mp (by
      have := c_10
      rw [show (0 : Int32) = nI 0 from rfl, nI_eq (by have := cntK_le (inS nl fa fb sl fr tg fl p (-1)) nk; omega) (by omega)] at this
      exact this)
    rw [hz] at h4
    exact h4
