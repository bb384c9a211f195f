def nxF (ok : Nat → Prop) [DecidablePred ok] (D : Nat → Nat) : Nat → Option (Nat × Nat)
  | 0 => none
  | k + 1 => if ok k then (match nxF ok D k with
    | none => some (k, D k)
    | some q => if D k < q.2 then some (k, D k) else some q) else nxF ok D k
theorem nxF_n {ok : Nat → Prop} [DecidablePred ok] {D : Nat → Nat} {k : Nat} (h : ¬ ok k) : nxF ok D (k + 1) = nxF ok D k := if_neg h
theorem nxF_0 {ok : Nat → Prop} [DecidablePred ok] {D : Nat → Nat} {k : Nat} (h : ok k) (e : nxF ok D k = none) : nxF ok D (k + 1) = some (k, D k) := by
  unfold nxF; rw [if_pos h, e]
theorem nxF_1 {ok : Nat → Prop} [DecidablePred ok] {D : Nat → Nat} {k : Nat} {q : Nat × Nat} (h : ok k) (e : nxF ok D k = some q) (h2 : D k < q.2) : nxF ok D (k + 1) = some (k, D k) := by
  unfold nxF; rw [if_pos h, e]; exact if_pos h2
theorem nxF_2 {ok : Nat → Prop} [DecidablePred ok] {D : Nat → Nat} {k : Nat} {q : Nat × Nat} (h : ok k) (e : nxF ok D k = some q) (h2 : ¬ D k < q.2) : nxF ok D (k + 1) = some q := by
  unfold nxF; rw [if_pos h, e]; exact if_neg h2
theorem nxF_some {ok : Nat → Prop} [DecidablePred ok] {D : Nat → Nat} : ∀ {k : Nat} {q : Nat × Nat}, nxF ok D k = some q → q.1 < k ∧ q.2 = D q.1
  | 0, q, h => by cases h
  | k + 1, q, h => by
    by_cases c0 : ok k
    · cases e : nxF ok D k with
      | none => rw [nxF_0 c0 e] at h; cases h; exact ⟨by show k < k + 1; omega, rfl⟩
      | some r =>
        obtain ⟨h1, h2⟩ := nxF_some e
        by_cases c : D k < r.2
        · rw [nxF_1 c0 e c] at h; cases h; exact ⟨by show k < k + 1; omega, rfl⟩
        · rw [nxF_2 c0 e c] at h; cases h; exact ⟨by omega, h2⟩
    · rw [nxF_n c0] at h
      obtain ⟨h1, h2⟩ := nxF_some h
      exact ⟨by omega, h2⟩
theorem c_next {l : Launch} {dp : Nat} {ns nl np ml nk nw : Nat} {pl fa fb sl pp pm ki fr tg wh bw : Nat → Nat} {rs sn : Nat → Int32} {fl : Nat → Bool} {qw : Nat → Nat → Nat → Nat → Bool} {I : hI} {J : hJ} {lt tx : Option Nat} {x y : Int32} {Q : hQ} (hG : cG I ns nl np ml nk nw pl fa fb sl pp pm ki fr tg wh bw rs sn fl qw) (hB : ¬ (isIx x np ∧ nI 1 ≤ y ∧ y ≤ nI 5) → Q (some (.int (-1))) hSH I J (hRR lt tx)) (hO : ∀ p kn, x = nI p → y = nI kn → p < np → 1 ≤ kn → kn ≤ 5 → Q (some (.int (agI (nxF (fun s => dist fa fb sl nl s < 1000000) (fun s => rcS nl pl fa fb sl pp s p kn) ns)))) hSH I J (hRR lt tx)) : HC l mX11_next (dp + 3) 0 0 [.ref 0, .int x, .int y] hSH I J (hRR lt tx) Q := by
  refine HC.of (by decide +kernel) rfl (Nat.le_of_ble_eq_true rfl) ?_
  obtain ⟨⟨hN, hdo, hla, hlv⟩, hw, ⟨hnp, hml, hnk, hpt, hsi, hbt⟩, ⟨hn8, hm2, hn24, hpW, hsW⟩, hL⟩ := id hG
  obtain ⟨hns, hnl, hpl, hlg⟩ := id hN
  obtain ⟨hn6, hl12, hW, hp99, hr99⟩ := id hw
  have Lo : ∀ (p kn : Nat) (hp : p < np) (hkn : kn ≤ 5) (hX : Q (some (.int (agI (nxF (fun s => dist fa fb sl nl s < 1000000) (fun s => rcS nl pl fa fb sl pp s p kn) ns)))) hSH I J (hRR lt tx)) (m k : Nat), ns - k < m → k ≤ ns → ∀ z6, HV l mX11_next (dp + 3) 0 0 26 [some (.ref 0), some (.int (nI p)), some (.int (nI kn)), some (.int (agI (nxF (fun s => dist fa fb sl nl s < 1000000) (fun s => rcS nl pl fa fb sl pp s p kn) k))), some (.int (lsA 0 (nxF (fun s => dist fa fb sl nl s < 1000000) (fun s => rcS nl pl fa fb sl pp s p kn) k))), some (.int (nI k)), z6] [] hSH I J (hRR lt tx) Q := by
    intro p kn hp hkn hX m
    induction m with
    | zero => intro k h1 h2 z6; omega
    | succ m ih =>
      intro k h1 h2 z6
      have hS : ∀ s, s < ns → skF kn (aw (pl s) (pp p)) ≤ 22 := fun s hs => skF_le (aw_le (hp99 s hs) (hpW p hp).1)
      have hR0 : rcS nl pl fa fb sl pp k p kn = skF kn (aw (pl k) (pp p)) + dist fa fb sl nl k := rfl
      have hDb : dist fa fb sl nl k ≤ 1000000 := bf_le 6 _
      cases e0 : nxF (fun s => dist fa fb sl nl s < 1000000) (fun s => rcS nl pl fa fb sl pp s p kn) k with
      | none =>
        show HV l mX11_next (dp + 3) 0 0 26 [some (.ref 0), some (.int (nI p)), some (.int (nI kn)), some (.int (-3)), some (.int (nI 0)), some (.int (nI k)), z6] [] hSH I J (hRR lt tx) Q
        refine h_iload dX11_next_26 rfl ?_
        refine h_aload_n dX11_next_28 rfl ?_
        refine h_getR dX11_next_29 f_X11_20_9 rfl rfl ?_
        refine h_getI dX11_next_32 f_X11_105_5 rfl hns ?_
        refine h_icmpge (tgt := 89) dX11_next_35 rfl (fun c_35 => ?_) (fun c_35 => ?_)
        · rw [nI_leI (by omega) (by omega)] at c_35
          refine h_iload_n dX11_next_89 rfl ?_
          refine h_ireturn dX11_next_90 rfl ?_
          have ek : ns = k := by omega
          subst ek
          have := hX
          rw [e0] at this
          exact this
        · rw [nI_leI (by omega) (by omega)] at c_35
          refine h_aload_n dX11_next_38 rfl ?_
          refine h_getR dX11_next_39 f_X11_10_9 rfl rfl ?_
          refine h_iload_n dX11_next_42 rfl ?_
          refine h_iload dX11_next_43 rfl ?_
          refine h_iload_n dX11_next_45 rfl ?_
          refine h_cV3 dX11_next_46 k3_149 oVX10_reach rfl rfl ?_
          refine c_reach0 hG hkn (by omega) hp ?_
          refine h_istore dX11_next_49 (Nat.le_of_ble_eq_true rfl) ?_
          refine h_aload_n dX11_next_51 rfl ?_
          refine h_getR dX11_next_52 f_X11_20_9 rfl rfl ?_
          refine h_iload dX11_next_55 rfl ?_
          refine h_cV1 dX11_next_57 k2_223 oVX5_hasLevel rfl rfl ?_
          refine c_hasLevelN (f := dist fa fb sl nl) hns hn6 hdo (by omega) (fun b3 => ?_) (fun b3 => ?_)
          · have hSk := hS k (by omega)
            rw [enc_lt b3, nI_add]
            refine h_ifeq (tgt := 83) dX11_next_60 rfl (fun c => absurd c (by decide)) (fun _ => ?_)
            refine h_iload_n dX11_next_63 rfl ?_
            refine h_bipush dX11_next_64 cb_m3 ?_
            refine h_icmpeq (tgt := 76) dX11_next_66 rfl (fun _ => ?_) (fun c => absurd (by decide) c)
            refine h_iload dX11_next_76 rfl ?_
            refine h_istore_n dX11_next_78 (Nat.le_of_ble_eq_true rfl) ?_
            refine h_iload dX11_next_79 rfl ?_
            refine h_istore dX11_next_81 (Nat.le_of_ble_eq_true rfl) ?_
            refine h_iinc (v := nI (k + 1)) dX11_next_83 rfl (nI_1 _) (Nat.le_of_ble_eq_true rfl) ?_
            refine h_goto (tgt := 26) dX11_next_86 rfl ?_
            have h3 := ih (k + 1) (by omega) (by omega)
            rw [nxF_0 (ok := fun s => dist fa fb sl nl s < 1000000) (D := fun s => rcS nl pl fa fb sl pp s p kn) b3 e0] at h3
            exact h3 _
          · refine h_ifeq (tgt := 83) dX11_next_60 rfl (fun _ => ?_) (fun c => absurd (by decide) c)
            refine h_iinc (v := nI (k + 1)) dX11_next_83 rfl (nI_1 _) (Nat.le_of_ble_eq_true rfl) ?_
            refine h_goto (tgt := 26) dX11_next_86 rfl ?_
            have h3 := ih (k + 1) (by omega) (by omega)
            rw [(nxF_n (ok := fun s => dist fa fb sl nl s < 1000000) (D := fun s => rcS nl pl fa fb sl pp s p kn) b3).trans e0] at h3
            exact h3 _
      | some q =>
        obtain ⟨hq1, hq2⟩ := nxF_some e0
        have hq2 : q.2 = skF kn (aw (pl q.1) (pp p)) + dist fa fb sl nl q.1 := hq2
        have hq3 := hS q.1 (by omega)
        have hq4 : dist fa fb sl nl q.1 ≤ 1000000 := bf_le 6 _
        show HV l mX11_next (dp + 3) 0 0 26 [some (.ref 0), some (.int (nI p)), some (.int (nI kn)), some (.int (nI q.1)), some (.int (nI q.2)), some (.int (nI k)), z6] [] hSH I J (hRR lt tx) Q
        refine h_iload dX11_next_26 rfl ?_
        refine h_aload_n dX11_next_28 rfl ?_
        refine h_getR dX11_next_29 f_X11_20_9 rfl rfl ?_
        refine h_getI dX11_next_32 f_X11_105_5 rfl hns ?_
        refine h_icmpge (tgt := 89) dX11_next_35 rfl (fun c_35 => ?_) (fun c_35 => ?_)
        · rw [nI_leI (by omega) (by omega)] at c_35
          refine h_iload_n dX11_next_89 rfl ?_
          refine h_ireturn dX11_next_90 rfl ?_
          have ek : ns = k := by omega
          subst ek
          have := hX
          rw [e0] at this
          exact this
        · rw [nI_leI (by omega) (by omega)] at c_35
          refine h_aload_n dX11_next_38 rfl ?_
          refine h_getR dX11_next_39 f_X11_10_9 rfl rfl ?_
          refine h_iload_n dX11_next_42 rfl ?_
          refine h_iload dX11_next_43 rfl ?_
          refine h_iload_n dX11_next_45 rfl ?_
          refine h_cV3 dX11_next_46 k3_149 oVX10_reach rfl rfl ?_
          refine c_reach0 hG hkn (by omega) hp ?_
          refine h_istore dX11_next_49 (Nat.le_of_ble_eq_true rfl) ?_
          refine h_aload_n dX11_next_51 rfl ?_
          refine h_getR dX11_next_52 f_X11_20_9 rfl rfl ?_
          refine h_iload dX11_next_55 rfl ?_
          refine h_cV1 dX11_next_57 k2_223 oVX5_hasLevel rfl rfl ?_
          refine c_hasLevelN (f := dist fa fb sl nl) hns hn6 hdo (by omega) (fun b3 => ?_) (fun b3 => ?_)
          · have hSk := hS k (by omega)
            rw [enc_lt b3, nI_add]
            refine h_ifeq (tgt := 83) dX11_next_60 rfl (fun c => absurd c (by decide)) (fun _ => ?_)
            refine h_iload_n dX11_next_63 rfl ?_
            refine h_bipush dX11_next_64 cb_m3 ?_
            refine h_icmpeq (tgt := 76) dX11_next_66 rfl (fun c_66 => ?_) (fun c_66 => ?_)
            · exact absurd c_66 (nI_nem3 (by omega))
            · refine h_iload dX11_next_69 rfl ?_
              refine h_iload dX11_next_71 rfl ?_
              refine h_icmpge (tgt := 83) dX11_next_73 rfl (fun c_73 => ?_) (fun c_73 => ?_)
              · rw [nI_leI (by omega) (by omega)] at c_73
                refine h_iinc (v := nI (k + 1)) dX11_next_83 rfl (nI_1 _) (Nat.le_of_ble_eq_true rfl) ?_
                refine h_goto (tgt := 26) dX11_next_86 rfl ?_
                have h3 := ih (k + 1) (by omega) (by omega)
                rw [nxF_2 (ok := fun s => dist fa fb sl nl s < 1000000) (D := fun s => rcS nl pl fa fb sl pp s p kn) b3 e0 (show ¬ rcS nl pl fa fb sl pp k p kn < q.2 by omega)] at h3
                exact h3 _
              · rw [nI_leI (by omega) (by omega)] at c_73
                refine h_iload dX11_next_76 rfl ?_
                refine h_istore_n dX11_next_78 (Nat.le_of_ble_eq_true rfl) ?_
                refine h_iload dX11_next_79 rfl ?_
                refine h_istore dX11_next_81 (Nat.le_of_ble_eq_true rfl) ?_
                refine h_iinc (v := nI (k + 1)) dX11_next_83 rfl (nI_1 _) (Nat.le_of_ble_eq_true rfl) ?_
                refine h_goto (tgt := 26) dX11_next_86 rfl ?_
                have h3 := ih (k + 1) (by omega) (by omega)
                rw [nxF_1 (ok := fun s => dist fa fb sl nl s < 1000000) (D := fun s => rcS nl pl fa fb sl pp s p kn) b3 e0 (show rcS nl pl fa fb sl pp k p kn < q.2 by omega)] at h3
                exact h3 _
          · refine h_ifeq (tgt := 83) dX11_next_60 rfl (fun _ => ?_) (fun c => absurd (by decide) c)
            refine h_iinc (v := nI (k + 1)) dX11_next_83 rfl (nI_1 _) (Nat.le_of_ble_eq_true rfl) ?_
            refine h_goto (tgt := 26) dX11_next_86 rfl ?_
            have h3 := ih (k + 1) (by omega) (by omega)
            rw [(nxF_n (ok := fun s => dist fa fb sl nl s < 1000000) (D := fun s => rcS nl pl fa fb sl pp s p kn) b3).trans e0] at h3
            exact h3 _
  show HV l mX11_next (dp + 3) 0 0 0 [some (.ref 0), some (.int x), some (.int y), none, none, none, none] [] hSH I J (hRR lt tx) Q
  refine h_aload_n dX11_next_0 rfl ?_
  refine h_iload_n dX11_next_1 rfl ?_
  refine h_cV1 dX11_next_2 k3_11 oVX11_isPoint rfl rfl ?_
  refine c_isPoint (n := np) hnp (by omega) (fun b1 => ?_) (fun b1 => ?_)
  · refine h_ifeq (tgt := 15) dX11_next_5 rfl (fun c => absurd c (by decide)) (fun _ => ?_)
    refine h_iload_n dX11_next_8 rfl ?_
    refine h_cS1 dX11_next_9 k3_23 oSX11_isKind rfl ?_
    refine c_X11_isKind (fun b2 => ?_) (fun b2 => ?_)
    · obtain ⟨p, hp, rfl⟩ := b1
      obtain ⟨kn, rfl, hk1, hk5⟩ := rng_ex (by omega) (by omega) b2.1 b2.2
      refine h_ifne (tgt := 17) dX11_next_12 rfl (fun _ => ?_) (fun c => absurd c (by decide))
      refine h_bipush dX11_next_17 cb_m3 ?_
      refine h_istore_n dX11_next_19 (Nat.le_of_ble_eq_true rfl) ?_
      refine h_iconst dX11_next_20 ci_0 ?_
      refine h_istore dX11_next_21 (Nat.le_of_ble_eq_true rfl) ?_
      refine h_iconst dX11_next_23 ci_0 ?_
      refine h_istore dX11_next_24 (Nat.le_of_ble_eq_true rfl) ?_
      exact Lo p kn hp hk5 (hO p kn rfl rfl hp hk1 hk5) (ns + 1) 0 (by omega) (by omega) _
    · refine h_ifne (tgt := 17) dX11_next_12 rfl (fun c => absurd (by decide) c) (fun _ => ?_)
      refine h_iconst dX11_next_15 ci_m1 ?_
      refine h_ireturn dX11_next_16 rfl ?_
      exact hB (fun z => b2 z.2)
  · refine h_ifeq (tgt := 15) dX11_next_5 rfl (fun _ => ?_) (fun c => absurd (by decide) c)
    refine h_iconst dX11_next_15 ci_m1 ?_
    refine h_ireturn dX11_next_16 rfl ?_
    exact hB (fun z => b1 z.1)
theorem r_next {l : Launch} {dp : Nat} {ns nl np ml nk nw : Nat} {pl fa fb sl pp pm ki fr tg wh bw : Nat → Nat} {rs sn : Nat → Int32} {fl : Nat → Bool} {qw : Nat → Nat → Nat → Nat → Bool} {I : hI} {J : hJ} {lt tx : Option Nat} {x y : Int32} {Q : hQ} (hG : rG I ns nl np ml nk nw pl fa fb sl pp pm ki fr tg wh bw rs sn fl qw) (hB : ¬ (isIx x np ∧ nI 1 ≤ y ∧ y ≤ nI 5) → Q (some (.int (-1))) hSH I J (hRR lt tx)) (hO : ∀ p kn, x = nI p → y = nI kn → p < np → 1 ≤ kn → kn ≤ 5 → ∀ a b c, Q (some (.int (agI (nxF (fun s => dist fa fb sl nl s < 1000000) (fun s => rcS nl pl fa fb sl pp s p kn) ns)))) hSH (upA (upA (upA I 90 a) 92 b) 91 c) J (hRR lt tx)) : HC l mX12_next (dp + 3) 0 0 [.ref 82, .int x, .int y] hSH I J (hRR lt tx) Q := by
  refine HC.of (by decide +kernel) rfl (Nat.le_of_ble_eq_true rfl) ?_
  obtain ⟨hN, hw, ⟨hnp, hml, hnk, hpt, hsi⟩, ⟨hn8, hm2, hn24, hpW, hsW⟩, hL⟩ := id hG
  obtain ⟨hns, hnl, hpl, hlg⟩ := id hN
  obtain ⟨hn6, hl12, hW, hp99, hr99⟩ := id hw
  have Lo : ∀ (p kn : Nat) (hp : p < np) (hkn : kn ≤ 5) (hX : ∀ a b c, Q (some (.int (agI (nxF (fun s => dist fa fb sl nl s < 1000000) (fun s => rcS nl pl fa fb sl pp s p kn) ns)))) hSH (upA (upA (upA I 90 a) 92 b) 91 c) J (hRR lt tx)) (a b c : Nat → Int32) (hLv : rL (upA (upA (upA I 90 a) 92 b) 91 c) ns nl fa fb sl rs) (m k : Nat), ns - k < m → k ≤ ns → ∀ z6, HV l mX12_next (dp + 3) 0 0 33 [some (.ref 82), some (.int (nI p)), some (.int (nI kn)), some (.int (agI (nxF (fun s => dist fa fb sl nl s < 1000000) (fun s => rcS nl pl fa fb sl pp s p kn) k))), some (.int (lsA 1000000 (nxF (fun s => dist fa fb sl nl s < 1000000) (fun s => rcS nl pl fa fb sl pp s p kn) k))), some (.int (nI k)), z6] [] hSH (upA (upA (upA I 90 a) 92 b) 91 c) J (hRR lt tx) Q := by
    intro p kn hp hkn hX a b c hLv m
    induction m with
    | zero => intro k h1 h2 z6; omega
    | succ m ih =>
      intro k h1 h2 z6
      have hS : ∀ s, s < ns → skF kn (aw (pl s) (pp p)) ≤ 22 := fun s hs => skF_le (aw_le (hp99 s hs) (hpW p hp).1)
      have hR0 : rcS nl pl fa fb sl pp k p kn = skF kn (aw (pl k) (pp p)) + dist fa fb sl nl k := rfl
      have hDb : dist fa fb sl nl k ≤ 1000000 := bf_le 6 _
      cases e0 : nxF (fun s => dist fa fb sl nl s < 1000000) (fun s => rcS nl pl fa fb sl pp s p kn) k with
      | none =>
        show HV l mX12_next (dp + 3) 0 0 33 [some (.ref 82), some (.int (nI p)), some (.int (nI kn)), some (.int (-3)), some (.int (nI 1000000)), some (.int (nI k)), z6] [] hSH (upA (upA (upA I 90 a) 92 b) 91 c) J (hRR lt tx) Q
        refine h_iload dX12_next_33 rfl ?_
        refine h_aload_n dX12_next_35 rfl ?_
        refine h_getI dX12_next_36 f_X12_102_10 rfl hns ?_
        refine h_icmpge (tgt := 92) dX12_next_39 rfl (fun c_39 => ?_) (fun c_39 => ?_)
        · rw [nI_leI (by omega) (by omega)] at c_39
          refine h_iload_n dX12_next_92 rfl ?_
          refine h_ireturn dX12_next_93 rfl ?_
          have ek : ns = k := by omega
          subst ek
          have := hX a b c
          rw [e0] at this
          exact this
        · rw [nI_leI (by omega) (by omega)] at c_39
          refine h_iload_n dX12_next_42 rfl ?_
          refine h_aload_n dX12_next_43 rfl ?_
          refine h_iload dX12_next_44 rfl ?_
          refine h_iload_n dX12_next_46 rfl ?_
          refine h_cV2 dX12_next_47 k5_196 oVX12_awayOf rfl rfl ?_
          refine r_awayOf (I := upA (upA (upA I 90 a) 92 b) 91 c) hG (by omega) hp ?_
          have q4 := aw_le (hp99 k (by omega)) (hpW p hp).1
          have hSk := hS k (by omega)
          refine h_cS2 dX12_next_50 k6_47 oSX12_slackBy rfl ?_
          refine r_slackBy hkn q4 ?_
          refine h_aload_n dX12_next_53 rfl ?_
          refine h_getR dX12_next_54 f_X12_31_10 rfl rfl ?_
          refine h_iload dX12_next_57 rfl ?_
          refine h_ialdN (j := k) dX12_next_59 rfl rfl (by omega) rfl (hLv.1 _ (by omega)) ?_
          refine h_iaddN dX12_next_60 ?_
          refine h_istore dX12_next_61 (Nat.le_of_ble_eq_true rfl) ?_
          refine h_aload_n dX12_next_63 rfl ?_
          refine h_iload dX12_next_64 rfl ?_
          refine h_cV1 dX12_next_66 k5_213 oVX12_hasLevel rfl rfl ?_
          refine r_hasLevel (f := dist fa fb sl nl) (by omega) hLv.1 (bf_le 6) (fun b3 => ?_) (fun b3 => ?_)
          · refine h_ifeq (tgt := 86) dX12_next_69 rfl (fun c => absurd c (by decide)) (fun _ => ?_)
            refine h_iload dX12_next_72 rfl ?_
            refine h_iload dX12_next_74 rfl ?_
            refine h_icmpge (tgt := 86) dX12_next_76 rfl (fun c_76 => ?_) (fun c_76 => ?_)
            · rw [nI_leI (by omega) (by omega)] at c_76
              refine h_iinc (v := nI (k + 1)) dX12_next_86 rfl (nI_1 _) (Nat.le_of_ble_eq_true rfl) ?_
              refine h_goto (tgt := 33) dX12_next_89 rfl ?_
              exfalso
              have := dist_45 hW hn6 (show k < ns by omega) b3
              have := hS k (by omega)
              omega
            · rw [nI_leI (by omega) (by omega)] at c_76
              refine h_iload dX12_next_79 rfl ?_
              refine h_istore dX12_next_81 (Nat.le_of_ble_eq_true rfl) ?_
              refine h_iload dX12_next_83 rfl ?_
              refine h_istore_n dX12_next_85 (Nat.le_of_ble_eq_true rfl) ?_
              refine h_iinc (v := nI (k + 1)) dX12_next_86 rfl (nI_1 _) (Nat.le_of_ble_eq_true rfl) ?_
              refine h_goto (tgt := 33) dX12_next_89 rfl ?_
              have h3 := ih (k + 1) (by omega) (by omega)
              rw [nxF_0 (ok := fun s => dist fa fb sl nl s < 1000000) (D := fun s => rcS nl pl fa fb sl pp s p kn) b3 e0] at h3
              exact h3 _
          · refine h_ifeq (tgt := 86) dX12_next_69 rfl (fun _ => ?_) (fun c => absurd (by decide) c)
            refine h_iinc (v := nI (k + 1)) dX12_next_86 rfl (nI_1 _) (Nat.le_of_ble_eq_true rfl) ?_
            refine h_goto (tgt := 33) dX12_next_89 rfl ?_
            have h3 := ih (k + 1) (by omega) (by omega)
            rw [(nxF_n (ok := fun s => dist fa fb sl nl s < 1000000) (D := fun s => rcS nl pl fa fb sl pp s p kn) b3).trans e0] at h3
            exact h3 _
      | some q =>
        obtain ⟨hq1, hq2⟩ := nxF_some e0
        have hq2 : q.2 = skF kn (aw (pl q.1) (pp p)) + dist fa fb sl nl q.1 := hq2
        have hq3 := hS q.1 (by omega)
        have hq4 : dist fa fb sl nl q.1 ≤ 1000000 := bf_le 6 _
        show HV l mX12_next (dp + 3) 0 0 33 [some (.ref 82), some (.int (nI p)), some (.int (nI kn)), some (.int (nI q.1)), some (.int (nI q.2)), some (.int (nI k)), z6] [] hSH (upA (upA (upA I 90 a) 92 b) 91 c) J (hRR lt tx) Q
        refine h_iload dX12_next_33 rfl ?_
        refine h_aload_n dX12_next_35 rfl ?_
        refine h_getI dX12_next_36 f_X12_102_10 rfl hns ?_
        refine h_icmpge (tgt := 92) dX12_next_39 rfl (fun c_39 => ?_) (fun c_39 => ?_)
        · rw [nI_leI (by omega) (by omega)] at c_39
          refine h_iload_n dX12_next_92 rfl ?_
          refine h_ireturn dX12_next_93 rfl ?_
          have ek : ns = k := by omega
          subst ek
          have := hX a b c
          rw [e0] at this
          exact this
        · rw [nI_leI (by omega) (by omega)] at c_39
          refine h_iload_n dX12_next_42 rfl ?_
          refine h_aload_n dX12_next_43 rfl ?_
          refine h_iload dX12_next_44 rfl ?_
          refine h_iload_n dX12_next_46 rfl ?_
          refine h_cV2 dX12_next_47 k5_196 oVX12_awayOf rfl rfl ?_
          refine r_awayOf (I := upA (upA (upA I 90 a) 92 b) 91 c) hG (by omega) hp ?_
          have q4 := aw_le (hp99 k (by omega)) (hpW p hp).1
          have hSk := hS k (by omega)
          refine h_cS2 dX12_next_50 k6_47 oSX12_slackBy rfl ?_
          refine r_slackBy hkn q4 ?_
          refine h_aload_n dX12_next_53 rfl ?_
          refine h_getR dX12_next_54 f_X12_31_10 rfl rfl ?_
          refine h_iload dX12_next_57 rfl ?_
          refine h_ialdN (j := k) dX12_next_59 rfl rfl (by omega) rfl (hLv.1 _ (by omega)) ?_
          refine h_iaddN dX12_next_60 ?_
          refine h_istore dX12_next_61 (Nat.le_of_ble_eq_true rfl) ?_
          refine h_aload_n dX12_next_63 rfl ?_
          refine h_iload dX12_next_64 rfl ?_
          refine h_cV1 dX12_next_66 k5_213 oVX12_hasLevel rfl rfl ?_
          refine r_hasLevel (f := dist fa fb sl nl) (by omega) hLv.1 (bf_le 6) (fun b3 => ?_) (fun b3 => ?_)
          · refine h_ifeq (tgt := 86) dX12_next_69 rfl (fun c => absurd c (by decide)) (fun _ => ?_)
            refine h_iload dX12_next_72 rfl ?_
            refine h_iload dX12_next_74 rfl ?_
            refine h_icmpge (tgt := 86) dX12_next_76 rfl (fun c_76 => ?_) (fun c_76 => ?_)
            · rw [nI_leI (by omega) (by omega)] at c_76
              refine h_iinc (v := nI (k + 1)) dX12_next_86 rfl (nI_1 _) (Nat.le_of_ble_eq_true rfl) ?_
              refine h_goto (tgt := 33) dX12_next_89 rfl ?_
              have h3 := ih (k + 1) (by omega) (by omega)
              rw [nxF_2 (ok := fun s => dist fa fb sl nl s < 1000000) (D := fun s => rcS nl pl fa fb sl pp s p kn) b3 e0 (show ¬ rcS nl pl fa fb sl pp k p kn < q.2 by omega)] at h3
              exact h3 _
            · rw [nI_leI (by omega) (by omega)] at c_76
              refine h_iload dX12_next_79 rfl ?_
              refine h_istore dX12_next_81 (Nat.le_of_ble_eq_true rfl) ?_
              refine h_iload dX12_next_83 rfl ?_
              refine h_istore_n dX12_next_85 (Nat.le_of_ble_eq_true rfl) ?_
              refine h_iinc (v := nI (k + 1)) dX12_next_86 rfl (nI_1 _) (Nat.le_of_ble_eq_true rfl) ?_
              refine h_goto (tgt := 33) dX12_next_89 rfl ?_
              have h3 := ih (k + 1) (by omega) (by omega)
              rw [nxF_1 (ok := fun s => dist fa fb sl nl s < 1000000) (D := fun s => rcS nl pl fa fb sl pp s p kn) b3 e0 (show rcS nl pl fa fb sl pp k p kn < q.2 by omega)] at h3
              exact h3 _
          · refine h_ifeq (tgt := 86) dX12_next_69 rfl (fun _ => ?_) (fun c => absurd (by decide) c)
            refine h_iinc (v := nI (k + 1)) dX12_next_86 rfl (nI_1 _) (Nat.le_of_ble_eq_true rfl) ?_
            refine h_goto (tgt := 33) dX12_next_89 rfl ?_
            have h3 := ih (k + 1) (by omega) (by omega)
            rw [(nxF_n (ok := fun s => dist fa fb sl nl s < 1000000) (D := fun s => rcS nl pl fa fb sl pp s p kn) b3).trans e0] at h3
            exact h3 _
  show HV l mX12_next (dp + 3) 0 0 0 [some (.ref 82), some (.int x), some (.int y), none, none, none, none] [] hSH I J (hRR lt tx) Q
  refine h_aload_n dX12_next_0 rfl ?_
  refine h_iload_n dX12_next_1 rfl ?_
  refine h_cV1 dX12_next_2 k5_238 oVX12_isPoint rfl rfl ?_
  refine r_isPoint (n := np) hnp (by omega) (fun b1 => ?_) (fun b1 => ?_)
  · refine h_ifeq (tgt := 17) dX12_next_5 rfl (fun c => absurd c (by decide)) (fun _ => ?_)
    refine h_iload_n dX12_next_8 rfl ?_
    refine h_iconst dX12_next_9 ci_1 ?_
    refine h_iconst dX12_next_10 ci_5 ?_
    refine h_cS3 dX12_next_11 k5_172 oSX12_in rfl ?_
    refine c_X12_in (fun b2 => ?_) (fun b2 => ?_)
    · obtain ⟨p, hp, rfl⟩ := b1
      obtain ⟨kn, rfl, hk1, hk5⟩ := rng_ex (by omega) (by omega) b2.1 b2.2
      refine h_ifne (tgt := 19) dX12_next_14 rfl (fun _ => ?_) (fun c => absurd c (by decide))
      refine h_aload_n dX12_next_19 rfl ?_
      refine h_cV0 dX12_next_20 k5_200 oVX12_findLevels rfl rfl ?_
      refine r_findLevels hN hw (fun a c b hLv => ?_)
      refine h_bipush dX12_next_23 cb_m3 ?_
      refine h_istore_n dX12_next_25 (Nat.le_of_ble_eq_true rfl) ?_
      refine h_ldc (v := nI 1000000) dX12_next_26 k5_208 ?_
      refine h_istore dX12_next_28 (Nat.le_of_ble_eq_true rfl) ?_
      refine h_iconst dX12_next_30 ci_0 ?_
      refine h_istore dX12_next_31 (Nat.le_of_ble_eq_true rfl) ?_
      exact Lo p kn hp hk5 (hO p kn rfl rfl hp hk1 hk5) a b c hLv (ns + 1) 0 (by omega) (by omega) _
    · refine h_ifne (tgt := 19) dX12_next_14 rfl (fun c => absurd (by decide) c) (fun _ => ?_)
      refine h_iconst dX12_next_17 ci_m1 ?_
      refine h_ireturn dX12_next_18 rfl ?_
      exact hB (fun z => b2 z.2)
  · refine h_ifeq (tgt := 17) dX12_next_5 rfl (fun _ => ?_) (fun c => absurd (by decide) c)
    refine h_iconst dX12_next_17 ci_m1 ?_
    refine h_ireturn dX12_next_18 rfl ?_
    exact hB (fun z => b1 z.1)
