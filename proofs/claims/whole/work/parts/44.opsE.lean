def CO (I I' : hI) : Prop := ∃ g1 g2 g3 g4, I' = upA (upA (upA (upA I 11 g1) 25 g2) 26 g3) 27 g4
theorem CO_iff {I I' : hI} : CO I I' ↔ ∀ x, x ≠ 11 → x ≠ 25 → x ≠ 26 → x ≠ 27 → I' x = I x := by
  constructor
  · rintro ⟨g1, g2, g3, g4, rfl⟩ x h1 h2 h3 h4
    simp [upA, h1, h2, h3, h4]
  · intro h
    refine ⟨I' 11, I' 25, I' 26, I' 27, ?_⟩
    funext x
    by_cases e1 : x = 27
    · subst e1; simp [upA]
    · by_cases e2 : x = 26
      · subst e2; simp [upA]
      · by_cases e3 : x = 25
        · subst e3; simp [upA]
        · by_cases e4 : x = 11
          · subst e4; simp [upA]
          · simp [upA, e1, e2, e3, e4, h x e4 e3 e2 e1]
theorem CO_id (I : hI) : CO I I := CO_iff.mpr (fun _ _ _ _ _ => rfl)
theorem CO_3 (I : hI) (g1 g2 g3 : Nat → Int32) : CO I (upA (upA (upA I 25 g1) 26 g2) 27 g3) := CO_iff.mpr (fun x h1 h2 h3 h4 => by simp [upA, h1, h2, h3, h4])
theorem CO_11 (I : hI) (g : Nat → Int32) : CO I (upA I 11 g) := CO_iff.mpr (fun x h1 h2 h3 h4 => by simp [upA, h1])
theorem CO_tr {I I' I2 : hI} (h : CO I I') (h' : CO I' I2) : CO I I2 := CO_iff.mpr (fun x h1 h2 h3 h4 => (CO_iff.mp h' x h1 h2 h3 h4).trans (CO_iff.mp h x h1 h2 h3 h4))
theorem RO_iff {I I' : hI} : RO I I' ↔ (∀ x, x ≠ 90 → x ≠ 91 → x ≠ 92 → x ≠ 101 → x ≠ 102 → x ≠ 82 → I' x = I x) ∧ ∀ j, j ≠ 16 → j ≠ 17 → I' 82 j = I 82 j := by
  constructor
  · rintro ⟨a, b, c, lo, hi, f1, f2, rfl⟩
    exact ⟨fun x h1 h2 h3 h4 h5 h6 => by simp [rM, rS, upA, upI, h1, h2, h3, h4, h5, h6], fun j h1 h2 => by simp [rM, rS, upA, upI, upd, h1, h2]⟩
  · rintro ⟨h, h82⟩
    refine ⟨I' 90, I' 92, I' 91, I' 82 16, I' 82 17, I' 101, I' 102, ?_⟩
    funext x
    by_cases e1 : x = 90
    · subst e1; simp [rM, rS, upA, upI]
    · by_cases e2 : x = 91
      · subst e2; simp [rM, rS, upA, upI]
      · by_cases e3 : x = 92
        · subst e3; simp [rM, rS, upA, upI]
        · by_cases e4 : x = 101
          · subst e4; simp [rM, rS, upA, upI]
          · by_cases e5 : x = 102
            · subst e5; simp [rM, rS, upA, upI]
            · by_cases e6 : x = 82
              · subst e6
                funext j
                by_cases q1 : j = 16
                · subst q1; simp [rM, rS, upA, upI, upd]
                · by_cases q2 : j = 17
                  · subst q2; simp [rM, rS, upA, upI, upd]
                  · simp [rM, rS, upA, upI, upd, q1, q2, h82 j q1 q2]
              · simp [rM, rS, upA, upI, e1, e2, e3, e4, e5, e6, h x e1 e2 e3 e4 e5 e6]
theorem RO_tr {I I' I2 : hI} (h : RO I I') (h' : RO I' I2) : RO I I2 := RO_iff.mpr ⟨fun x h1 h2 h3 h4 h5 h6 => ((RO_iff.mp h').1 x h1 h2 h3 h4 h5 h6).trans ((RO_iff.mp h).1 x h1 h2 h3 h4 h5 h6), fun j h1 h2 => ((RO_iff.mp h').2 j h1 h2).trans ((RO_iff.mp h).2 j h1 h2)⟩
theorem RO_f (I : hI) (g1 g2 : Nat → Int32) : RO I (upA (upA I 101 g1) 102 g2) := RO_iff.mpr ⟨fun x h1 h2 h3 h4 h5 h6 => by simp [upA, h4, h5], fun j h1 h2 => by simp [upA]⟩
theorem RO_s (I : hI) (lo hi : Int32) (g1 g2 : Nat → Int32) : RO I (rS I lo hi g1 g2) := RO_iff.mpr ⟨fun x h1 h2 h3 h4 h5 h6 => by simp [rS, upA, upI, h4, h5, h6], fun j h1 h2 => by simp [rS, upA, upI, upd, h1, h2]⟩
theorem RO_m (I : hI) (a b c : Nat → Int32) (lo hi : Int32) (g1 g2 : Nat → Int32) : RO I (rM I a b c lo hi g1 g2) := ⟨a, b, c, lo, hi, g1, g2, rfl⟩
def spE (o : Option (Int32 × Int32)) (v : Int32 × Int32 → Int32) : Int32 := match o with
  | none => -10000003
  | some q => if q.2 < q.1 then -10000004 else v q
theorem spE_bad {o : Option (Int32 × Int32)} {v : Int32 × Int32 → Int32} (h : ¬ spc o = 0) : -10000000 + spc o = spE o v := by
  unfold spc at *
  unfold spE
  cases o with
  | none => show (-10000000 + -3 : Int32) = -10000003; decide
  | some q =>
    have h : ¬ (if q.2 < q.1 then (-4 : Int32) else nI 0) = 0 := h
    show -10000000 + (if q.2 < q.1 then (-4 : Int32) else nI 0) = (if q.2 < q.1 then -10000004 else v q)
    by_cases e : q.2 < q.1
    · rw [if_pos e, if_pos e]; decide
    · rw [if_neg e] at h; exact absurd rfl h
theorem spE_ok {o : Option (Int32 × Int32)} (h : spc o = 0) : ∃ q, o = some q ∧ ¬ q.2 < q.1 := by
  unfold spc at h
  cases o with
  | none => exact absurd h (by decide)
  | some q =>
    refine ⟨q, rfl, fun z => ?_⟩
    have h : (if q.2 < q.1 then (-4 : Int32) else nI 0) = 0 := h
    rw [if_pos z] at h
    exact absurd h (by decide)
theorem spE_s {q : Int32 × Int32} {v : Int32 × Int32 → Int32} (h : ¬ q.2 < q.1) : spE (some q) v = v q := if_neg h
noncomputable def sgV (nw : Nat) (pl pp ki fr tg wh bw : Nat → Nat) (sn : Nat → Int32) (fl : Nat → Bool) (qw : Nat → Nat → Nat → Nat → Bool) (k : Nat) (w : Int32) : Int32 := cif (w = nI 0) (nI (ki k)) (cif (w = nI 1) (nI (fr k)) (cif (w = nI 2) (nI (tg k)) (cif (w = nI 3) (sn k) (cif (w = nI 4) (nI (tol bw qw (ki k) (aw (pl (fr k)) (pp (tg k))) (wh k) nw)) (cif (w = nI 5) (nI (bdF (ki k) (tol bw qw (ki k) (aw (pl (fr k)) (pp (tg k))) (wh k) nw) (aw (pl (fr k)) (pp (tg k))))) (cif (w = nI 6) (nI (skF (ki k) (aw (pl (fr k)) (pp (tg k))))) (cif (w = nI 7) (if fl k = true then nI 1 else nI 0) (-10000001))))))))
noncomputable def sgF (nk nw : Nat) (pl pp ki fr tg wh bw : Nat → Nat) (sn : Nat → Int32) (fl : Nat → Bool) (qw : Nat → Nat → Nat → Nat → Bool) (x w : Int32) : Int32 := cif (isIx x nk) (sgV nw pl pp ki fr tg wh bw sn fl qw x.toNatClampNeg w) (-10000001)
theorem sgF_b {nk nw : Nat} {pl pp ki fr tg wh bw : Nat → Nat} {sn : Nat → Int32} {fl : Nat → Bool} {qw : Nat → Nat → Nat → Nat → Bool} {x w : Int32} (h : ¬ isIx x nk) : sgF nk nw pl pp ki fr tg wh bw sn fl qw x w = -10000001 := cif_f h
theorem sgF_d {nk nw : Nat} {pl pp ki fr tg wh bw : Nat → Nat} {sn : Nat → Int32} {fl : Nat → Bool} {qw : Nat → Nat → Nat → Nat → Bool} {x w : Int32} (e_0 : ¬ w = nI 0) (e_1 : ¬ w = nI 1) (e_2 : ¬ w = nI 2) (e_3 : ¬ w = nI 3) (e_4 : ¬ w = nI 4) (e_5 : ¬ w = nI 5) (e_6 : ¬ w = nI 6) (e_7 : ¬ w = nI 7) : sgF nk nw pl pp ki fr tg wh bw sn fl qw x w = -10000001 := by
  unfold sgF
  by_cases h : isIx x nk
  · rw [cif_t h]
    unfold sgV
    rw [cif_f e_0, cif_f e_1, cif_f e_2, cif_f e_3, cif_f e_4, cif_f e_5, cif_f e_6, cif_f e_7]
  · rw [cif_f h]
theorem sgF_0 {nk nw : Nat} {pl pp ki fr tg wh bw : Nat → Nat} {sn : Nat → Int32} {fl : Nat → Bool} {qw : Nat → Nat → Nat → Nat → Bool} {k : Nat} (hk : k < nk) (hb : nk ≤ 24) : sgF nk nw pl pp ki fr tg wh bw sn fl qw (nI k) (nI 0) = nI (ki k) := by
  unfold sgF
  rw [cif_t ⟨k, hk, rfl⟩, nI_clamp (show k < 2 ^ 31 by omega)]
  unfold sgV
  rw [cif_t rfl]
theorem sgF_1 {nk nw : Nat} {pl pp ki fr tg wh bw : Nat → Nat} {sn : Nat → Int32} {fl : Nat → Bool} {qw : Nat → Nat → Nat → Nat → Bool} {k : Nat} (hk : k < nk) (hb : nk ≤ 24) : sgF nk nw pl pp ki fr tg wh bw sn fl qw (nI k) (nI 1) = nI (fr k) := by
  unfold sgF
  rw [cif_t ⟨k, hk, rfl⟩, nI_clamp (show k < 2 ^ 31 by omega)]
  unfold sgV
  rw [cif_f (by decide), cif_t rfl]
theorem sgF_2 {nk nw : Nat} {pl pp ki fr tg wh bw : Nat → Nat} {sn : Nat → Int32} {fl : Nat → Bool} {qw : Nat → Nat → Nat → Nat → Bool} {k : Nat} (hk : k < nk) (hb : nk ≤ 24) : sgF nk nw pl pp ki fr tg wh bw sn fl qw (nI k) (nI 2) = nI (tg k) := by
  unfold sgF
  rw [cif_t ⟨k, hk, rfl⟩, nI_clamp (show k < 2 ^ 31 by omega)]
  unfold sgV
  rw [cif_f (by decide), cif_f (by decide), cif_t rfl]
theorem sgF_3 {nk nw : Nat} {pl pp ki fr tg wh bw : Nat → Nat} {sn : Nat → Int32} {fl : Nat → Bool} {qw : Nat → Nat → Nat → Nat → Bool} {k : Nat} (hk : k < nk) (hb : nk ≤ 24) : sgF nk nw pl pp ki fr tg wh bw sn fl qw (nI k) (nI 3) = sn k := by
  unfold sgF
  rw [cif_t ⟨k, hk, rfl⟩, nI_clamp (show k < 2 ^ 31 by omega)]
  unfold sgV
  rw [cif_f (by decide), cif_f (by decide), cif_f (by decide), cif_t rfl]
theorem sgF_4 {nk nw : Nat} {pl pp ki fr tg wh bw : Nat → Nat} {sn : Nat → Int32} {fl : Nat → Bool} {qw : Nat → Nat → Nat → Nat → Bool} {k : Nat} (hk : k < nk) (hb : nk ≤ 24) : sgF nk nw pl pp ki fr tg wh bw sn fl qw (nI k) (nI 4) = nI (tol bw qw (ki k) (aw (pl (fr k)) (pp (tg k))) (wh k) nw) := by
  unfold sgF
  rw [cif_t ⟨k, hk, rfl⟩, nI_clamp (show k < 2 ^ 31 by omega)]
  unfold sgV
  rw [cif_f (by decide), cif_f (by decide), cif_f (by decide), cif_f (by decide), cif_t rfl]
theorem sgF_5 {nk nw : Nat} {pl pp ki fr tg wh bw : Nat → Nat} {sn : Nat → Int32} {fl : Nat → Bool} {qw : Nat → Nat → Nat → Nat → Bool} {k : Nat} (hk : k < nk) (hb : nk ≤ 24) : sgF nk nw pl pp ki fr tg wh bw sn fl qw (nI k) (nI 5) = nI (bdF (ki k) (tol bw qw (ki k) (aw (pl (fr k)) (pp (tg k))) (wh k) nw) (aw (pl (fr k)) (pp (tg k)))) := by
  unfold sgF
  rw [cif_t ⟨k, hk, rfl⟩, nI_clamp (show k < 2 ^ 31 by omega)]
  unfold sgV
  rw [cif_f (by decide), cif_f (by decide), cif_f (by decide), cif_f (by decide), cif_f (by decide), cif_t rfl]
theorem sgF_6 {nk nw : Nat} {pl pp ki fr tg wh bw : Nat → Nat} {sn : Nat → Int32} {fl : Nat → Bool} {qw : Nat → Nat → Nat → Nat → Bool} {k : Nat} (hk : k < nk) (hb : nk ≤ 24) : sgF nk nw pl pp ki fr tg wh bw sn fl qw (nI k) (nI 6) = nI (skF (ki k) (aw (pl (fr k)) (pp (tg k)))) := by
  unfold sgF
  rw [cif_t ⟨k, hk, rfl⟩, nI_clamp (show k < 2 ^ 31 by omega)]
  unfold sgV
  rw [cif_f (by decide), cif_f (by decide), cif_f (by decide), cif_f (by decide), cif_f (by decide), cif_f (by decide), cif_t rfl]
theorem sgF_7 {nk nw : Nat} {pl pp ki fr tg wh bw : Nat → Nat} {sn : Nat → Int32} {fl : Nat → Bool} {qw : Nat → Nat → Nat → Nat → Bool} {k : Nat} (hk : k < nk) (hb : nk ≤ 24) : sgF nk nw pl pp ki fr tg wh bw sn fl qw (nI k) (nI 7) = if fl k = true then nI 1 else nI 0 := by
  unfold sgF
  rw [cif_t ⟨k, hk, rfl⟩, nI_clamp (show k < 2 ^ 31 by omega)]
  unfold sgV
  rw [cif_f (by decide), cif_f (by decide), cif_f (by decide), cif_f (by decide), cif_f (by decide), cif_f (by decide), cif_f (by decide), cif_t rfl]
theorem c_sightOf {l : Launch} {dp : Nat} {ns nl np ml nk nw : Nat} {pl fa fb sl pp pm ki fr tg wh bw : Nat → Nat} {rs sn : Nat → Int32} {fl : Nat → Bool} {qw : Nat → Nat → Nat → Nat → Bool} {I : hI} {J : hJ} {lt tx : Option Nat} {x w : Int32} {Q : hQ} (hG : cG I ns nl np ml nk nw pl fa fb sl pp pm ki fr tg wh bw rs sn fl qw) (hQ : Q (some (.int (sgF nk nw pl pp ki fr tg wh bw sn fl qw x w))) hSH I J (hRR lt tx)) : HC l mX11_sightOf (dp + 4) 0 0 [.ref 0, .int x, .int w] hSH I J (hRR lt tx) Q := by
  refine HC.of (by decide +kernel) rfl (Nat.le_of_ble_eq_true rfl) ?_
  obtain ⟨⟨hN, hdo, hla, hlv⟩, hw, ⟨hnp, hml, hnk, hpt, hsi, hbt⟩, ⟨hn8, hm2, hn24, hpW, hsW⟩, hL⟩ := id hG
  obtain ⟨hns, hnl, hpl, hlg⟩ := id hN
  obtain ⟨hn6, hl12, hW, hp99, hr99⟩ := id hw
  by_cases e_0 : w = nI 0
  · subst e_0
    show HV l mX11_sightOf (dp + 4) 0 0 0 [some (.ref 0), some (.int x), some (.int (nI 0))] [] hSH I J (hRR lt tx) Q
    refine h_aload_n dX11_sightOf_0 rfl ?_
    refine h_iload_n dX11_sightOf_1 rfl ?_
    refine h_cV1 dX11_sightOf_2 k3_40 oVX11_isSight rfl rfl ?_
    refine c_isSight (n := nk) hnk (by omega) (fun b1 => ?_) (fun b1 => ?_)
    · obtain ⟨k, hk, rfl⟩ := b1
      have q1 := hsW k hk
      have q2 := hp99 (fr k) (by omega)
      have q3 := hpW (tg k) (by omega)
      have q4 := aw_le q2 q3.1
      refine h_ifne (tgt := 11) dX11_sightOf_5 rfl (fun _ => ?_) (fun c => absurd c (by decide))
      refine h_iload_n dX11_sightOf_11 rfl ?_
      refine h_tableIn (off := 48) (tgt := 60) dX11_sightOf_12 (by decide) (by decide) (by decide) rfl ?_
      refine h_aload_n dX11_sightOf_60 rfl ?_
      refine h_getR dX11_sightOf_61 f_X11_10_9 rfl rfl ?_
      refine h_getR dX11_sightOf_64 f_X11_201_8 rfl rfl ?_
      refine h_iload_n dX11_sightOf_67 rfl ?_
      refine h_ialdN (j := k) dX11_sightOf_68 rfl rfl (by omega) rfl (hsi _ (by omega)).1 ?_
      refine h_ireturn dX11_sightOf_69 rfl ?_
      rw [sgF_0 hk hn24] at hQ
      exact hQ
    · refine h_ifne (tgt := 11) dX11_sightOf_5 rfl (fun c => absurd (by decide) c) (fun _ => ?_)
      refine h_ldc dX11_sightOf_8 k2_206 ?_
      refine h_ireturn dX11_sightOf_10 rfl ?_
      rw [sgF_b b1] at hQ
      exact hQ
  by_cases e_1 : w = nI 1
  · subst e_1
    show HV l mX11_sightOf (dp + 4) 0 0 0 [some (.ref 0), some (.int x), some (.int (nI 1))] [] hSH I J (hRR lt tx) Q
    refine h_aload_n dX11_sightOf_0 rfl ?_
    refine h_iload_n dX11_sightOf_1 rfl ?_
    refine h_cV1 dX11_sightOf_2 k3_40 oVX11_isSight rfl rfl ?_
    refine c_isSight (n := nk) hnk (by omega) (fun b1 => ?_) (fun b1 => ?_)
    · obtain ⟨k, hk, rfl⟩ := b1
      have q1 := hsW k hk
      have q2 := hp99 (fr k) (by omega)
      have q3 := hpW (tg k) (by omega)
      have q4 := aw_le q2 q3.1
      refine h_ifne (tgt := 11) dX11_sightOf_5 rfl (fun _ => ?_) (fun c => absurd c (by decide))
      refine h_iload_n dX11_sightOf_11 rfl ?_
      refine h_tableIn (off := 58) (tgt := 70) dX11_sightOf_12 (by decide) (by decide) (by decide) rfl ?_
      refine h_aload_n dX11_sightOf_70 rfl ?_
      refine h_getR dX11_sightOf_71 f_X11_10_9 rfl rfl ?_
      refine h_getR dX11_sightOf_74 f_X11_204_8 rfl rfl ?_
      refine h_iload_n dX11_sightOf_77 rfl ?_
      refine h_ialdN (j := k) dX11_sightOf_78 rfl rfl (by omega) rfl (hsi _ (by omega)).2.1 ?_
      refine h_ireturn dX11_sightOf_79 rfl ?_
      rw [sgF_1 hk hn24] at hQ
      exact hQ
    · refine h_ifne (tgt := 11) dX11_sightOf_5 rfl (fun c => absurd (by decide) c) (fun _ => ?_)
      refine h_ldc dX11_sightOf_8 k2_206 ?_
      refine h_ireturn dX11_sightOf_10 rfl ?_
      rw [sgF_b b1] at hQ
      exact hQ
  by_cases e_2 : w = nI 2
  · subst e_2
    show HV l mX11_sightOf (dp + 4) 0 0 0 [some (.ref 0), some (.int x), some (.int (nI 2))] [] hSH I J (hRR lt tx) Q
    refine h_aload_n dX11_sightOf_0 rfl ?_
    refine h_iload_n dX11_sightOf_1 rfl ?_
    refine h_cV1 dX11_sightOf_2 k3_40 oVX11_isSight rfl rfl ?_
    refine c_isSight (n := nk) hnk (by omega) (fun b1 => ?_) (fun b1 => ?_)
    · obtain ⟨k, hk, rfl⟩ := b1
      have q1 := hsW k hk
      have q2 := hp99 (fr k) (by omega)
      have q3 := hpW (tg k) (by omega)
      have q4 := aw_le q2 q3.1
      refine h_ifne (tgt := 11) dX11_sightOf_5 rfl (fun _ => ?_) (fun c => absurd c (by decide))
      refine h_iload_n dX11_sightOf_11 rfl ?_
      refine h_tableIn (off := 68) (tgt := 80) dX11_sightOf_12 (by decide) (by decide) (by decide) rfl ?_
      refine h_aload_n dX11_sightOf_80 rfl ?_
      refine h_getR dX11_sightOf_81 f_X11_10_9 rfl rfl ?_
      refine h_getR dX11_sightOf_84 f_X11_207_8 rfl rfl ?_
      refine h_iload_n dX11_sightOf_87 rfl ?_
      refine h_ialdN (j := k) dX11_sightOf_88 rfl rfl (by omega) rfl (hsi _ (by omega)).2.2.1 ?_
      refine h_ireturn dX11_sightOf_89 rfl ?_
      rw [sgF_2 hk hn24] at hQ
      exact hQ
    · refine h_ifne (tgt := 11) dX11_sightOf_5 rfl (fun c => absurd (by decide) c) (fun _ => ?_)
      refine h_ldc dX11_sightOf_8 k2_206 ?_
      refine h_ireturn dX11_sightOf_10 rfl ?_
      rw [sgF_b b1] at hQ
      exact hQ
  by_cases e_3 : w = nI 3
  · subst e_3
    show HV l mX11_sightOf (dp + 4) 0 0 0 [some (.ref 0), some (.int x), some (.int (nI 3))] [] hSH I J (hRR lt tx) Q
    refine h_aload_n dX11_sightOf_0 rfl ?_
    refine h_iload_n dX11_sightOf_1 rfl ?_
    refine h_cV1 dX11_sightOf_2 k3_40 oVX11_isSight rfl rfl ?_
    refine c_isSight (n := nk) hnk (by omega) (fun b1 => ?_) (fun b1 => ?_)
    · obtain ⟨k, hk, rfl⟩ := b1
      have q1 := hsW k hk
      have q2 := hp99 (fr k) (by omega)
      have q3 := hpW (tg k) (by omega)
      have q4 := aw_le q2 q3.1
      refine h_ifne (tgt := 11) dX11_sightOf_5 rfl (fun _ => ?_) (fun c => absurd c (by decide))
      refine h_iload_n dX11_sightOf_11 rfl ?_
      refine h_tableIn (off := 78) (tgt := 90) dX11_sightOf_12 (by decide) (by decide) (by decide) rfl ?_
      refine h_aload_n dX11_sightOf_90 rfl ?_
      refine h_getR dX11_sightOf_91 f_X11_10_9 rfl rfl ?_
      refine h_getR dX11_sightOf_94 f_X11_210_8 rfl rfl ?_
      refine h_iload_n dX11_sightOf_97 rfl ?_
      refine h_ialdN (j := k) dX11_sightOf_98 rfl rfl (by omega) rfl (hsi _ (by omega)).2.2.2.1 ?_
      refine h_ireturn dX11_sightOf_99 rfl ?_
      rw [sgF_3 hk hn24] at hQ
      exact hQ
    · refine h_ifne (tgt := 11) dX11_sightOf_5 rfl (fun c => absurd (by decide) c) (fun _ => ?_)
      refine h_ldc dX11_sightOf_8 k2_206 ?_
      refine h_ireturn dX11_sightOf_10 rfl ?_
      rw [sgF_b b1] at hQ
      exact hQ
  by_cases e_4 : w = nI 4
  · subst e_4
    show HV l mX11_sightOf (dp + 4) 0 0 0 [some (.ref 0), some (.int x), some (.int (nI 4))] [] hSH I J (hRR lt tx) Q
    refine h_aload_n dX11_sightOf_0 rfl ?_
    refine h_iload_n dX11_sightOf_1 rfl ?_
    refine h_cV1 dX11_sightOf_2 k3_40 oVX11_isSight rfl rfl ?_
    refine c_isSight (n := nk) hnk (by omega) (fun b1 => ?_) (fun b1 => ?_)
    · obtain ⟨k, hk, rfl⟩ := b1
      have q1 := hsW k hk
      have q2 := hp99 (fr k) (by omega)
      have q3 := hpW (tg k) (by omega)
      have q4 := aw_le q2 q3.1
      refine h_ifne (tgt := 11) dX11_sightOf_5 rfl (fun _ => ?_) (fun c => absurd c (by decide))
      refine h_iload_n dX11_sightOf_11 rfl ?_
      refine h_tableIn (off := 88) (tgt := 100) dX11_sightOf_12 (by decide) (by decide) (by decide) rfl ?_
      refine h_aload_n dX11_sightOf_100 rfl ?_
      refine h_getR dX11_sightOf_101 f_X11_10_9 rfl rfl ?_
      refine h_iload_n dX11_sightOf_104 rfl ?_
      refine h_cV1 dX11_sightOf_105 k3_44 oVX10_toldOf rfl rfl ?_
      refine c_toldOf hG hk ?_
      refine h_ireturn dX11_sightOf_108 rfl ?_
      rw [sgF_4 hk hn24] at hQ
      exact hQ
    · refine h_ifne (tgt := 11) dX11_sightOf_5 rfl (fun c => absurd (by decide) c) (fun _ => ?_)
      refine h_ldc dX11_sightOf_8 k2_206 ?_
      refine h_ireturn dX11_sightOf_10 rfl ?_
      rw [sgF_b b1] at hQ
      exact hQ
  by_cases e_5 : w = nI 5
  · subst e_5
    show HV l mX11_sightOf (dp + 4) 0 0 0 [some (.ref 0), some (.int x), some (.int (nI 5))] [] hSH I J (hRR lt tx) Q
    refine h_aload_n dX11_sightOf_0 rfl ?_
    refine h_iload_n dX11_sightOf_1 rfl ?_
    refine h_cV1 dX11_sightOf_2 k3_40 oVX11_isSight rfl rfl ?_
    refine c_isSight (n := nk) hnk (by omega) (fun b1 => ?_) (fun b1 => ?_)
    · obtain ⟨k, hk, rfl⟩ := b1
      have q1 := hsW k hk
      have q2 := hp99 (fr k) (by omega)
      have q3 := hpW (tg k) (by omega)
      have q4 := aw_le q2 q3.1
      refine h_ifne (tgt := 11) dX11_sightOf_5 rfl (fun _ => ?_) (fun c => absurd c (by decide))
      refine h_iload_n dX11_sightOf_11 rfl ?_
      refine h_tableIn (off := 97) (tgt := 109) dX11_sightOf_12 (by decide) (by decide) (by decide) rfl ?_
      refine h_aload_n dX11_sightOf_109 rfl ?_
      refine h_getR dX11_sightOf_110 f_X11_10_9 rfl rfl ?_
      refine h_getR dX11_sightOf_113 f_X11_201_8 rfl rfl ?_
      refine h_iload_n dX11_sightOf_116 rfl ?_
      refine h_ialdN (j := k) dX11_sightOf_117 rfl rfl (by omega) rfl (hsi _ (by omega)).1 ?_
      refine h_aload_n dX11_sightOf_118 rfl ?_
      refine h_getR dX11_sightOf_119 f_X11_10_9 rfl rfl ?_
      refine h_iload_n dX11_sightOf_122 rfl ?_
      refine h_cV1 dX11_sightOf_123 k3_44 oVX10_toldOf rfl rfl ?_
      refine c_toldOf hG hk ?_
      refine h_aload_n dX11_sightOf_126 rfl ?_
      refine h_getR dX11_sightOf_127 f_X11_10_9 rfl rfl ?_
      refine h_iload_n dX11_sightOf_130 rfl ?_
      refine h_cV1 dX11_sightOf_131 k3_66 oVX10_awayOf rfl rfl ?_
      refine c_awayOf hG hk ?_
      refine h_cS3 dX11_sightOf_134 k3_67 oSX11_bendOf rfl ?_
      refine c_bendOf (by omega) (cL_le hL) q4 ?_
      refine h_ireturn dX11_sightOf_137 rfl ?_
      rw [sgF_5 hk hn24] at hQ
      exact hQ
    · refine h_ifne (tgt := 11) dX11_sightOf_5 rfl (fun c => absurd (by decide) c) (fun _ => ?_)
      refine h_ldc dX11_sightOf_8 k2_206 ?_
      refine h_ireturn dX11_sightOf_10 rfl ?_
      rw [sgF_b b1] at hQ
      exact hQ
  by_cases e_6 : w = nI 6
  · subst e_6
    show HV l mX11_sightOf (dp + 4) 0 0 0 [some (.ref 0), some (.int x), some (.int (nI 6))] [] hSH I J (hRR lt tx) Q
    refine h_aload_n dX11_sightOf_0 rfl ?_
    refine h_iload_n dX11_sightOf_1 rfl ?_
    refine h_cV1 dX11_sightOf_2 k3_40 oVX11_isSight rfl rfl ?_
    refine c_isSight (n := nk) hnk (by omega) (fun b1 => ?_) (fun b1 => ?_)
    · obtain ⟨k, hk, rfl⟩ := b1
      have q1 := hsW k hk
      have q2 := hp99 (fr k) (by omega)
      have q3 := hpW (tg k) (by omega)
      have q4 := aw_le q2 q3.1
      refine h_ifne (tgt := 11) dX11_sightOf_5 rfl (fun _ => ?_) (fun c => absurd c (by decide))
      refine h_iload_n dX11_sightOf_11 rfl ?_
      refine h_tableIn (off := 126) (tgt := 138) dX11_sightOf_12 (by decide) (by decide) (by decide) rfl ?_
      refine h_aload_n dX11_sightOf_138 rfl ?_
      refine h_getR dX11_sightOf_139 f_X11_10_9 rfl rfl ?_
      refine h_getR dX11_sightOf_142 f_X11_201_8 rfl rfl ?_
      refine h_iload_n dX11_sightOf_145 rfl ?_
      refine h_ialdN (j := k) dX11_sightOf_146 rfl rfl (by omega) rfl (hsi _ (by omega)).1 ?_
      refine h_aload_n dX11_sightOf_147 rfl ?_
      refine h_getR dX11_sightOf_148 f_X11_10_9 rfl rfl ?_
      refine h_iload_n dX11_sightOf_151 rfl ?_
      refine h_cV1 dX11_sightOf_152 k3_66 oVX10_awayOf rfl rfl ?_
      refine c_awayOf hG hk ?_
      refine h_cS2 dX11_sightOf_155 k3_70 oSX11_slackOf rfl ?_
      refine c_slackOf (by omega) q4 ?_
      refine h_ireturn dX11_sightOf_158 rfl ?_
      rw [sgF_6 hk hn24] at hQ
      exact hQ
    · refine h_ifne (tgt := 11) dX11_sightOf_5 rfl (fun c => absurd (by decide) c) (fun _ => ?_)
      refine h_ldc dX11_sightOf_8 k2_206 ?_
      refine h_ireturn dX11_sightOf_10 rfl ?_
      rw [sgF_b b1] at hQ
      exact hQ
  by_cases e_7 : w = nI 7
  · subst e_7
    show HV l mX11_sightOf (dp + 4) 0 0 0 [some (.ref 0), some (.int x), some (.int (nI 7))] [] hSH I J (hRR lt tx) Q
    refine h_aload_n dX11_sightOf_0 rfl ?_
    refine h_iload_n dX11_sightOf_1 rfl ?_
    refine h_cV1 dX11_sightOf_2 k3_40 oVX11_isSight rfl rfl ?_
    refine c_isSight (n := nk) hnk (by omega) (fun b1 => ?_) (fun b1 => ?_)
    · obtain ⟨k, hk, rfl⟩ := b1
      have q1 := hsW k hk
      have q2 := hp99 (fr k) (by omega)
      have q3 := hpW (tg k) (by omega)
      have q4 := aw_le q2 q3.1
      refine h_ifne (tgt := 11) dX11_sightOf_5 rfl (fun _ => ?_) (fun c => absurd c (by decide))
      refine h_iload_n dX11_sightOf_11 rfl ?_
      refine h_tableIn (off := 147) (tgt := 159) dX11_sightOf_12 (by decide) (by decide) (by decide) rfl ?_
      refine h_aload_n dX11_sightOf_159 rfl ?_
      refine h_getR dX11_sightOf_160 f_X11_10_9 rfl rfl ?_
      refine h_iload_n dX11_sightOf_163 rfl ?_
      refine h_cV1 dX11_sightOf_164 k3_73 oVX10_isFalse rfl rfl ?_
      refine c_isFalse hG hk (fun b2 => ?_) (fun b2 => ?_)
      · refine h_ifeq (tgt := 174) dX11_sightOf_167 rfl (fun c => absurd c (by decide)) (fun _ => ?_)
        refine h_iconst dX11_sightOf_170 ci_0 ?_
        refine h_goto (tgt := 175) dX11_sightOf_171 rfl ?_
        refine h_ireturn dX11_sightOf_175 rfl ?_
        rw [sgF_7 hk hn24] at hQ
        rw [b2] at hQ
        exact hQ
      · refine h_ifeq (tgt := 174) dX11_sightOf_167 rfl (fun _ => ?_) (fun c => absurd (by decide) c)
        refine h_iconst dX11_sightOf_174 ci_1 ?_
        refine h_ireturn dX11_sightOf_175 rfl ?_
        rw [sgF_7 hk hn24] at hQ
        have b3 : fl k = true := by cases q : fl k with | true => rfl | false => exact absurd q b2
        rw [b3] at hQ
        exact hQ
    · refine h_ifne (tgt := 11) dX11_sightOf_5 rfl (fun c => absurd (by decide) c) (fun _ => ?_)
      refine h_ldc dX11_sightOf_8 k2_206 ?_
      refine h_ireturn dX11_sightOf_10 rfl ?_
      rw [sgF_b b1] at hQ
      exact hQ
  show HV l mX11_sightOf (dp + 4) 0 0 0 [some (.ref 0), some (.int x), some (.int w)] [] hSH I J (hRR lt tx) Q
  refine h_aload_n dX11_sightOf_0 rfl ?_
  refine h_iload_n dX11_sightOf_1 rfl ?_
  refine h_cV1 dX11_sightOf_2 k3_40 oVX11_isSight rfl rfl ?_
  refine c_isSight (n := nk) hnk (by omega) (fun b1 => ?_) (fun b1 => ?_)
  · obtain ⟨k, hk, rfl⟩ := b1
    have q1 := hsW k hk
    have q2 := hp99 (fr k) (by omega)
    have q3 := hpW (tg k) (by omega)
    have q4 := aw_le q2 q3.1
    refine h_ifne (tgt := 11) dX11_sightOf_5 rfl (fun _ => ?_) (fun c => absurd c (by decide))
    refine h_iload_n dX11_sightOf_11 rfl ?_
    by_cases s0 : w = nI 0
    · refine h_tableIn (off := 48) (tgt := 60) dX11_sightOf_12 (by rw [s0]; decide) (by rw [s0]; decide) (by rw [s0]; decide) rfl ?_
      refine h_aload_n dX11_sightOf_60 rfl ?_
      refine h_getR dX11_sightOf_61 f_X11_10_9 rfl rfl ?_
      refine h_getR dX11_sightOf_64 f_X11_201_8 rfl rfl ?_
      refine h_iload_n dX11_sightOf_67 rfl ?_
      refine h_ialdN (j := k) dX11_sightOf_68 rfl rfl (by omega) rfl (hsi _ (by omega)).1 ?_
      refine h_ireturn dX11_sightOf_69 rfl ?_
      exact absurd s0 e_0
    by_cases s1 : w = nI 1
    · refine h_tableIn (off := 58) (tgt := 70) dX11_sightOf_12 (by rw [s1]; decide) (by rw [s1]; decide) (by rw [s1]; decide) rfl ?_
      refine h_aload_n dX11_sightOf_70 rfl ?_
      refine h_getR dX11_sightOf_71 f_X11_10_9 rfl rfl ?_
      refine h_getR dX11_sightOf_74 f_X11_204_8 rfl rfl ?_
      refine h_iload_n dX11_sightOf_77 rfl ?_
      refine h_ialdN (j := k) dX11_sightOf_78 rfl rfl (by omega) rfl (hsi _ (by omega)).2.1 ?_
      refine h_ireturn dX11_sightOf_79 rfl ?_
      exact absurd s1 e_1
    by_cases s2 : w = nI 2
    · refine h_tableIn (off := 68) (tgt := 80) dX11_sightOf_12 (by rw [s2]; decide) (by rw [s2]; decide) (by rw [s2]; decide) rfl ?_
      refine h_aload_n dX11_sightOf_80 rfl ?_
      refine h_getR dX11_sightOf_81 f_X11_10_9 rfl rfl ?_
      refine h_getR dX11_sightOf_84 f_X11_207_8 rfl rfl ?_
      refine h_iload_n dX11_sightOf_87 rfl ?_
      refine h_ialdN (j := k) dX11_sightOf_88 rfl rfl (by omega) rfl (hsi _ (by omega)).2.2.1 ?_
      refine h_ireturn dX11_sightOf_89 rfl ?_
      exact absurd s2 e_2
    by_cases s3 : w = nI 3
    · refine h_tableIn (off := 78) (tgt := 90) dX11_sightOf_12 (by rw [s3]; decide) (by rw [s3]; decide) (by rw [s3]; decide) rfl ?_
      refine h_aload_n dX11_sightOf_90 rfl ?_
      refine h_getR dX11_sightOf_91 f_X11_10_9 rfl rfl ?_
      refine h_getR dX11_sightOf_94 f_X11_210_8 rfl rfl ?_
      refine h_iload_n dX11_sightOf_97 rfl ?_
      refine h_ialdN (j := k) dX11_sightOf_98 rfl rfl (by omega) rfl (hsi _ (by omega)).2.2.2.1 ?_
      refine h_ireturn dX11_sightOf_99 rfl ?_
      exact absurd s3 e_3
    by_cases s4 : w = nI 4
    · refine h_tableIn (off := 88) (tgt := 100) dX11_sightOf_12 (by rw [s4]; decide) (by rw [s4]; decide) (by rw [s4]; decide) rfl ?_
      refine h_aload_n dX11_sightOf_100 rfl ?_
      refine h_getR dX11_sightOf_101 f_X11_10_9 rfl rfl ?_
      refine h_iload_n dX11_sightOf_104 rfl ?_
      refine h_cV1 dX11_sightOf_105 k3_44 oVX10_toldOf rfl rfl ?_
      refine c_toldOf hG hk ?_
      refine h_ireturn dX11_sightOf_108 rfl ?_
      exact absurd s4 e_4
    by_cases s5 : w = nI 5
    · refine h_tableIn (off := 97) (tgt := 109) dX11_sightOf_12 (by rw [s5]; decide) (by rw [s5]; decide) (by rw [s5]; decide) rfl ?_
      refine h_aload_n dX11_sightOf_109 rfl ?_
      refine h_getR dX11_sightOf_110 f_X11_10_9 rfl rfl ?_
      refine h_getR dX11_sightOf_113 f_X11_201_8 rfl rfl ?_
      refine h_iload_n dX11_sightOf_116 rfl ?_
      refine h_ialdN (j := k) dX11_sightOf_117 rfl rfl (by omega) rfl (hsi _ (by omega)).1 ?_
      refine h_aload_n dX11_sightOf_118 rfl ?_
      refine h_getR dX11_sightOf_119 f_X11_10_9 rfl rfl ?_
      refine h_iload_n dX11_sightOf_122 rfl ?_
      refine h_cV1 dX11_sightOf_123 k3_44 oVX10_toldOf rfl rfl ?_
      refine c_toldOf hG hk ?_
      refine h_aload_n dX11_sightOf_126 rfl ?_
      refine h_getR dX11_sightOf_127 f_X11_10_9 rfl rfl ?_
      refine h_iload_n dX11_sightOf_130 rfl ?_
      refine h_cV1 dX11_sightOf_131 k3_66 oVX10_awayOf rfl rfl ?_
      refine c_awayOf hG hk ?_
      refine h_cS3 dX11_sightOf_134 k3_67 oSX11_bendOf rfl ?_
      refine c_bendOf (by omega) (cL_le hL) q4 ?_
      refine h_ireturn dX11_sightOf_137 rfl ?_
      exact absurd s5 e_5
    by_cases s6 : w = nI 6
    · refine h_tableIn (off := 126) (tgt := 138) dX11_sightOf_12 (by rw [s6]; decide) (by rw [s6]; decide) (by rw [s6]; decide) rfl ?_
      refine h_aload_n dX11_sightOf_138 rfl ?_
      refine h_getR dX11_sightOf_139 f_X11_10_9 rfl rfl ?_
      refine h_getR dX11_sightOf_142 f_X11_201_8 rfl rfl ?_
      refine h_iload_n dX11_sightOf_145 rfl ?_
      refine h_ialdN (j := k) dX11_sightOf_146 rfl rfl (by omega) rfl (hsi _ (by omega)).1 ?_
      refine h_aload_n dX11_sightOf_147 rfl ?_
      refine h_getR dX11_sightOf_148 f_X11_10_9 rfl rfl ?_
      refine h_iload_n dX11_sightOf_151 rfl ?_
      refine h_cV1 dX11_sightOf_152 k3_66 oVX10_awayOf rfl rfl ?_
      refine c_awayOf hG hk ?_
      refine h_cS2 dX11_sightOf_155 k3_70 oSX11_slackOf rfl ?_
      refine c_slackOf (by omega) q4 ?_
      refine h_ireturn dX11_sightOf_158 rfl ?_
      exact absurd s6 e_6
    by_cases s7 : w = nI 7
    · refine h_tableIn (off := 147) (tgt := 159) dX11_sightOf_12 (by rw [s7]; decide) (by rw [s7]; decide) (by rw [s7]; decide) rfl ?_
      refine h_aload_n dX11_sightOf_159 rfl ?_
      refine h_getR dX11_sightOf_160 f_X11_10_9 rfl rfl ?_
      refine h_iload_n dX11_sightOf_163 rfl ?_
      refine h_cV1 dX11_sightOf_164 k3_73 oVX10_isFalse rfl rfl ?_
      refine c_isFalse hG hk (fun b2 => ?_) (fun b2 => ?_)
      · refine h_ifeq (tgt := 174) dX11_sightOf_167 rfl (fun c => absurd c (by decide)) (fun _ => ?_)
        refine h_iconst dX11_sightOf_170 ci_0 ?_
        refine h_goto (tgt := 175) dX11_sightOf_171 rfl ?_
        refine h_ireturn dX11_sightOf_175 rfl ?_
        exact absurd s7 e_7
      · refine h_ifeq (tgt := 174) dX11_sightOf_167 rfl (fun _ => ?_) (fun c => absurd (by decide) c)
        refine h_iconst dX11_sightOf_174 ci_1 ?_
        refine h_ireturn dX11_sightOf_175 rfl ?_
        exact absurd s7 e_7
    refine h_tableOut (tgt := 176) dX11_sightOf_12 (by have q0 := ti_ne s0 (by decide); have q1 := ti_ne s1 (by decide); have q2 := ti_ne s2 (by decide); have q3 := ti_ne s3 (by decide); have q4 := ti_ne s4 (by decide); have q5 := ti_ne s5 (by decide); have q6 := ti_ne s6 (by decide); have q7 := ti_ne s7 (by decide); omega) rfl ?_
    refine h_ldc dX11_sightOf_176 k2_206 ?_
    refine h_ireturn dX11_sightOf_178 rfl ?_
    rw [sgF_d e_0 e_1 e_2 e_3 e_4 e_5 e_6 e_7] at hQ
    exact hQ
  · refine h_ifne (tgt := 11) dX11_sightOf_5 rfl (fun c => absurd (by decide) c) (fun _ => ?_)
    refine h_ldc dX11_sightOf_8 k2_206 ?_
    refine h_ireturn dX11_sightOf_10 rfl ?_
    rw [sgF_b b1] at hQ
    exact hQ
theorem r_sightOf {l : Launch} {dp : Nat} {ns nl np ml nk nw : Nat} {pl fa fb sl pp pm ki fr tg wh bw : Nat → Nat} {rs sn : Nat → Int32} {fl : Nat → Bool} {qw : Nat → Nat → Nat → Nat → Bool} {I : hI} {J : hJ} {lt tx : Option Nat} {x w : Int32} {Q : hQ} (hG : rG I ns nl np ml nk nw pl fa fb sl pp pm ki fr tg wh bw rs sn fl qw) (hQ : ∀ I', RO I I' → Q (some (.int (sgF nk nw pl pp ki fr tg wh bw sn fl qw x w))) hSH I' J (hRR lt tx)) : HC l mX12_sightOf (dp + 4) 0 0 [.ref 82, .int x, .int w] hSH I J (hRR lt tx) Q := by
  refine HC.of (by decide +kernel) rfl (Nat.le_of_ble_eq_true rfl) ?_
  obtain ⟨hN, hw, ⟨hnp, hml, hnk, hpt, hsi⟩, ⟨hn8, hm2, hn24, hpW, hsW⟩, hL⟩ := id hG
  obtain ⟨hns, hnl, hpl, hlg⟩ := id hN
  obtain ⟨hn6, hl12, hW, hp99, hr99⟩ := id hw
  by_cases e_0 : w = nI 0
  · subst e_0
    show HV l mX12_sightOf (dp + 4) 0 0 0 [some (.ref 82), some (.int x), some (.int (nI 0)), none] [] hSH I J (hRR lt tx) Q
    refine h_aload_n dX12_sightOf_0 rfl ?_
    refine h_iload_n dX12_sightOf_1 rfl ?_
    refine h_cV1 dX12_sightOf_2 k6_24 oVX12_isSight rfl rfl ?_
    refine r_isSight (n := nk) hnk (by omega) (fun b1 => ?_) (fun b1 => ?_)
    · obtain ⟨k, hk, rfl⟩ := b1
      have q1 := hsW k hk
      have q2 := hp99 (fr k) (by omega)
      have q3 := hpW (tg k) (by omega)
      have q4 := aw_le q2 q3.1
      refine h_ifeq (tgt := 18) dX12_sightOf_5 rfl (fun c => absurd c (by decide)) (fun _ => ?_)
      refine h_iload_n dX12_sightOf_8 rfl ?_
      refine h_iconst dX12_sightOf_9 ci_0 ?_
      refine h_bipush dX12_sightOf_10 cb_7 ?_
      refine h_cS3 dX12_sightOf_12 k5_172 oSX12_in rfl ?_
      refine c_X12_in (fun b2 => ?_) (fun b2 => ?_)
      · refine h_ifne (tgt := 21) dX12_sightOf_15 rfl (fun _ => ?_) (fun c => absurd c (by decide))
        refine h_aload_n dX12_sightOf_21 rfl ?_
        refine h_aload_n dX12_sightOf_22 rfl ?_
        refine h_getR dX12_sightOf_23 f_X12_19_10 rfl rfl ?_
        refine h_bipush dX12_sightOf_26 cb_7 ?_
        refine h_iload_n dX12_sightOf_28 rfl ?_
        refine h_imulN dX12_sightOf_29 ?_
        refine h_iconst dX12_sightOf_30 ci_1 ?_
        refine h_iaddN dX12_sightOf_31 ?_
        refine h_ialdN (j := (7 * k) + 1) dX12_sightOf_32 rfl rfl (by omega) rfl (hsi k (by omega)).2.1 ?_
        refine h_aload_n dX12_sightOf_33 rfl ?_
        refine h_getR dX12_sightOf_34 f_X12_19_10 rfl rfl ?_
        refine h_bipush dX12_sightOf_37 cb_7 ?_
        refine h_iload_n dX12_sightOf_39 rfl ?_
        refine h_imulN dX12_sightOf_40 ?_
        refine h_iconst dX12_sightOf_41 ci_2 ?_
        refine h_iaddN dX12_sightOf_42 ?_
        refine h_ialdN (j := (7 * k) + 2) dX12_sightOf_43 rfl rfl (by omega) rfl (hsi k (by omega)).2.2.1 ?_
        refine h_cV2 dX12_sightOf_44 k5_196 oVX12_awayOf rfl rfl ?_
        refine r_awayOf hG (by omega) (by omega) ?_
        refine h_istore_n dX12_sightOf_47 (Nat.le_of_ble_eq_true rfl) ?_
        refine h_iload_n dX12_sightOf_48 rfl ?_
        refine h_tableOut (tgt := 133) dX12_sightOf_49 (by decide) rfl ?_
        refine h_aload_n dX12_sightOf_133 rfl ?_
        refine h_getR dX12_sightOf_134 f_X12_19_10 rfl rfl ?_
        refine h_bipush dX12_sightOf_137 cb_7 ?_
        refine h_iload_n dX12_sightOf_139 rfl ?_
        refine h_imulN dX12_sightOf_140 ?_
        refine h_iload_n dX12_sightOf_141 rfl ?_
        refine h_iaddN dX12_sightOf_142 ?_
        refine h_ialdN (j := 7 * k) dX12_sightOf_143 rfl rfl (by omega) rfl (hsi k (by omega)).1 ?_
        refine h_ireturn dX12_sightOf_144 rfl ?_
        have hQ := hQ _ (RO_id I)
        rw [sgF_0 hk hn24] at hQ
        exact hQ
      · exact absurd (by decide) b2
    · refine h_ifeq (tgt := 18) dX12_sightOf_5 rfl (fun _ => ?_) (fun c => absurd (by decide) c)
      refine h_ldc dX12_sightOf_18 k5_187 ?_
      refine h_ireturn dX12_sightOf_20 rfl ?_
      have hQ := hQ _ (RO_id I)
      rw [sgF_b b1] at hQ
      exact hQ
  by_cases e_1 : w = nI 1
  · subst e_1
    show HV l mX12_sightOf (dp + 4) 0 0 0 [some (.ref 82), some (.int x), some (.int (nI 1)), none] [] hSH I J (hRR lt tx) Q
    refine h_aload_n dX12_sightOf_0 rfl ?_
    refine h_iload_n dX12_sightOf_1 rfl ?_
    refine h_cV1 dX12_sightOf_2 k6_24 oVX12_isSight rfl rfl ?_
    refine r_isSight (n := nk) hnk (by omega) (fun b1 => ?_) (fun b1 => ?_)
    · obtain ⟨k, hk, rfl⟩ := b1
      have q1 := hsW k hk
      have q2 := hp99 (fr k) (by omega)
      have q3 := hpW (tg k) (by omega)
      have q4 := aw_le q2 q3.1
      refine h_ifeq (tgt := 18) dX12_sightOf_5 rfl (fun c => absurd c (by decide)) (fun _ => ?_)
      refine h_iload_n dX12_sightOf_8 rfl ?_
      refine h_iconst dX12_sightOf_9 ci_0 ?_
      refine h_bipush dX12_sightOf_10 cb_7 ?_
      refine h_cS3 dX12_sightOf_12 k5_172 oSX12_in rfl ?_
      refine c_X12_in (fun b2 => ?_) (fun b2 => ?_)
      · refine h_ifne (tgt := 21) dX12_sightOf_15 rfl (fun _ => ?_) (fun c => absurd c (by decide))
        refine h_aload_n dX12_sightOf_21 rfl ?_
        refine h_aload_n dX12_sightOf_22 rfl ?_
        refine h_getR dX12_sightOf_23 f_X12_19_10 rfl rfl ?_
        refine h_bipush dX12_sightOf_26 cb_7 ?_
        refine h_iload_n dX12_sightOf_28 rfl ?_
        refine h_imulN dX12_sightOf_29 ?_
        refine h_iconst dX12_sightOf_30 ci_1 ?_
        refine h_iaddN dX12_sightOf_31 ?_
        refine h_ialdN (j := (7 * k) + 1) dX12_sightOf_32 rfl rfl (by omega) rfl (hsi k (by omega)).2.1 ?_
        refine h_aload_n dX12_sightOf_33 rfl ?_
        refine h_getR dX12_sightOf_34 f_X12_19_10 rfl rfl ?_
        refine h_bipush dX12_sightOf_37 cb_7 ?_
        refine h_iload_n dX12_sightOf_39 rfl ?_
        refine h_imulN dX12_sightOf_40 ?_
        refine h_iconst dX12_sightOf_41 ci_2 ?_
        refine h_iaddN dX12_sightOf_42 ?_
        refine h_ialdN (j := (7 * k) + 2) dX12_sightOf_43 rfl rfl (by omega) rfl (hsi k (by omega)).2.2.1 ?_
        refine h_cV2 dX12_sightOf_44 k5_196 oVX12_awayOf rfl rfl ?_
        refine r_awayOf hG (by omega) (by omega) ?_
        refine h_istore_n dX12_sightOf_47 (Nat.le_of_ble_eq_true rfl) ?_
        refine h_iload_n dX12_sightOf_48 rfl ?_
        refine h_tableOut (tgt := 133) dX12_sightOf_49 (by decide) rfl ?_
        refine h_aload_n dX12_sightOf_133 rfl ?_
        refine h_getR dX12_sightOf_134 f_X12_19_10 rfl rfl ?_
        refine h_bipush dX12_sightOf_137 cb_7 ?_
        refine h_iload_n dX12_sightOf_139 rfl ?_
        refine h_imulN dX12_sightOf_140 ?_
        refine h_iload_n dX12_sightOf_141 rfl ?_
        refine h_iaddN dX12_sightOf_142 ?_
        refine h_ialdN (j := 7 * k + 1) dX12_sightOf_143 rfl rfl (by omega) rfl (hsi k (by omega)).2.1 ?_
        refine h_ireturn dX12_sightOf_144 rfl ?_
        have hQ := hQ _ (RO_id I)
        rw [sgF_1 hk hn24] at hQ
        exact hQ
      · exact absurd (by decide) b2
    · refine h_ifeq (tgt := 18) dX12_sightOf_5 rfl (fun _ => ?_) (fun c => absurd (by decide) c)
      refine h_ldc dX12_sightOf_18 k5_187 ?_
      refine h_ireturn dX12_sightOf_20 rfl ?_
      have hQ := hQ _ (RO_id I)
      rw [sgF_b b1] at hQ
      exact hQ
  by_cases e_2 : w = nI 2
  · subst e_2
    show HV l mX12_sightOf (dp + 4) 0 0 0 [some (.ref 82), some (.int x), some (.int (nI 2)), none] [] hSH I J (hRR lt tx) Q
    refine h_aload_n dX12_sightOf_0 rfl ?_
    refine h_iload_n dX12_sightOf_1 rfl ?_
    refine h_cV1 dX12_sightOf_2 k6_24 oVX12_isSight rfl rfl ?_
    refine r_isSight (n := nk) hnk (by omega) (fun b1 => ?_) (fun b1 => ?_)
    · obtain ⟨k, hk, rfl⟩ := b1
      have q1 := hsW k hk
      have q2 := hp99 (fr k) (by omega)
      have q3 := hpW (tg k) (by omega)
      have q4 := aw_le q2 q3.1
      refine h_ifeq (tgt := 18) dX12_sightOf_5 rfl (fun c => absurd c (by decide)) (fun _ => ?_)
      refine h_iload_n dX12_sightOf_8 rfl ?_
      refine h_iconst dX12_sightOf_9 ci_0 ?_
      refine h_bipush dX12_sightOf_10 cb_7 ?_
      refine h_cS3 dX12_sightOf_12 k5_172 oSX12_in rfl ?_
      refine c_X12_in (fun b2 => ?_) (fun b2 => ?_)
      · refine h_ifne (tgt := 21) dX12_sightOf_15 rfl (fun _ => ?_) (fun c => absurd c (by decide))
        refine h_aload_n dX12_sightOf_21 rfl ?_
        refine h_aload_n dX12_sightOf_22 rfl ?_
        refine h_getR dX12_sightOf_23 f_X12_19_10 rfl rfl ?_
        refine h_bipush dX12_sightOf_26 cb_7 ?_
        refine h_iload_n dX12_sightOf_28 rfl ?_
        refine h_imulN dX12_sightOf_29 ?_
        refine h_iconst dX12_sightOf_30 ci_1 ?_
        refine h_iaddN dX12_sightOf_31 ?_
        refine h_ialdN (j := (7 * k) + 1) dX12_sightOf_32 rfl rfl (by omega) rfl (hsi k (by omega)).2.1 ?_
        refine h_aload_n dX12_sightOf_33 rfl ?_
        refine h_getR dX12_sightOf_34 f_X12_19_10 rfl rfl ?_
        refine h_bipush dX12_sightOf_37 cb_7 ?_
        refine h_iload_n dX12_sightOf_39 rfl ?_
        refine h_imulN dX12_sightOf_40 ?_
        refine h_iconst dX12_sightOf_41 ci_2 ?_
        refine h_iaddN dX12_sightOf_42 ?_
        refine h_ialdN (j := (7 * k) + 2) dX12_sightOf_43 rfl rfl (by omega) rfl (hsi k (by omega)).2.2.1 ?_
        refine h_cV2 dX12_sightOf_44 k5_196 oVX12_awayOf rfl rfl ?_
        refine r_awayOf hG (by omega) (by omega) ?_
        refine h_istore_n dX12_sightOf_47 (Nat.le_of_ble_eq_true rfl) ?_
        refine h_iload_n dX12_sightOf_48 rfl ?_
        refine h_tableOut (tgt := 133) dX12_sightOf_49 (by decide) rfl ?_
        refine h_aload_n dX12_sightOf_133 rfl ?_
        refine h_getR dX12_sightOf_134 f_X12_19_10 rfl rfl ?_
        refine h_bipush dX12_sightOf_137 cb_7 ?_
        refine h_iload_n dX12_sightOf_139 rfl ?_
        refine h_imulN dX12_sightOf_140 ?_
        refine h_iload_n dX12_sightOf_141 rfl ?_
        refine h_iaddN dX12_sightOf_142 ?_
        refine h_ialdN (j := 7 * k + 2) dX12_sightOf_143 rfl rfl (by omega) rfl (hsi k (by omega)).2.2.1 ?_
        refine h_ireturn dX12_sightOf_144 rfl ?_
        have hQ := hQ _ (RO_id I)
        rw [sgF_2 hk hn24] at hQ
        exact hQ
      · exact absurd (by decide) b2
    · refine h_ifeq (tgt := 18) dX12_sightOf_5 rfl (fun _ => ?_) (fun c => absurd (by decide) c)
      refine h_ldc dX12_sightOf_18 k5_187 ?_
      refine h_ireturn dX12_sightOf_20 rfl ?_
      have hQ := hQ _ (RO_id I)
      rw [sgF_b b1] at hQ
      exact hQ
  by_cases e_3 : w = nI 3
  · subst e_3
    show HV l mX12_sightOf (dp + 4) 0 0 0 [some (.ref 82), some (.int x), some (.int (nI 3)), none] [] hSH I J (hRR lt tx) Q
    refine h_aload_n dX12_sightOf_0 rfl ?_
    refine h_iload_n dX12_sightOf_1 rfl ?_
    refine h_cV1 dX12_sightOf_2 k6_24 oVX12_isSight rfl rfl ?_
    refine r_isSight (n := nk) hnk (by omega) (fun b1 => ?_) (fun b1 => ?_)
    · obtain ⟨k, hk, rfl⟩ := b1
      have q1 := hsW k hk
      have q2 := hp99 (fr k) (by omega)
      have q3 := hpW (tg k) (by omega)
      have q4 := aw_le q2 q3.1
      refine h_ifeq (tgt := 18) dX12_sightOf_5 rfl (fun c => absurd c (by decide)) (fun _ => ?_)
      refine h_iload_n dX12_sightOf_8 rfl ?_
      refine h_iconst dX12_sightOf_9 ci_0 ?_
      refine h_bipush dX12_sightOf_10 cb_7 ?_
      refine h_cS3 dX12_sightOf_12 k5_172 oSX12_in rfl ?_
      refine c_X12_in (fun b2 => ?_) (fun b2 => ?_)
      · refine h_ifne (tgt := 21) dX12_sightOf_15 rfl (fun _ => ?_) (fun c => absurd c (by decide))
        refine h_aload_n dX12_sightOf_21 rfl ?_
        refine h_aload_n dX12_sightOf_22 rfl ?_
        refine h_getR dX12_sightOf_23 f_X12_19_10 rfl rfl ?_
        refine h_bipush dX12_sightOf_26 cb_7 ?_
        refine h_iload_n dX12_sightOf_28 rfl ?_
        refine h_imulN dX12_sightOf_29 ?_
        refine h_iconst dX12_sightOf_30 ci_1 ?_
        refine h_iaddN dX12_sightOf_31 ?_
        refine h_ialdN (j := (7 * k) + 1) dX12_sightOf_32 rfl rfl (by omega) rfl (hsi k (by omega)).2.1 ?_
        refine h_aload_n dX12_sightOf_33 rfl ?_
        refine h_getR dX12_sightOf_34 f_X12_19_10 rfl rfl ?_
        refine h_bipush dX12_sightOf_37 cb_7 ?_
        refine h_iload_n dX12_sightOf_39 rfl ?_
        refine h_imulN dX12_sightOf_40 ?_
        refine h_iconst dX12_sightOf_41 ci_2 ?_
        refine h_iaddN dX12_sightOf_42 ?_
        refine h_ialdN (j := (7 * k) + 2) dX12_sightOf_43 rfl rfl (by omega) rfl (hsi k (by omega)).2.2.1 ?_
        refine h_cV2 dX12_sightOf_44 k5_196 oVX12_awayOf rfl rfl ?_
        refine r_awayOf hG (by omega) (by omega) ?_
        refine h_istore_n dX12_sightOf_47 (Nat.le_of_ble_eq_true rfl) ?_
        refine h_iload_n dX12_sightOf_48 rfl ?_
        refine h_tableOut (tgt := 133) dX12_sightOf_49 (by decide) rfl ?_
        refine h_aload_n dX12_sightOf_133 rfl ?_
        refine h_getR dX12_sightOf_134 f_X12_19_10 rfl rfl ?_
        refine h_bipush dX12_sightOf_137 cb_7 ?_
        refine h_iload_n dX12_sightOf_139 rfl ?_
        refine h_imulN dX12_sightOf_140 ?_
        refine h_iload_n dX12_sightOf_141 rfl ?_
        refine h_iaddN dX12_sightOf_142 ?_
        refine h_ialdN (j := 7 * k + 3) dX12_sightOf_143 rfl rfl (by omega) rfl (hsi k (by omega)).2.2.2.1 ?_
        refine h_ireturn dX12_sightOf_144 rfl ?_
        have hQ := hQ _ (RO_id I)
        rw [sgF_3 hk hn24] at hQ
        exact hQ
      · exact absurd (by decide) b2
    · refine h_ifeq (tgt := 18) dX12_sightOf_5 rfl (fun _ => ?_) (fun c => absurd (by decide) c)
      refine h_ldc dX12_sightOf_18 k5_187 ?_
      refine h_ireturn dX12_sightOf_20 rfl ?_
      have hQ := hQ _ (RO_id I)
      rw [sgF_b b1] at hQ
      exact hQ
  by_cases e_4 : w = nI 4
  · subst e_4
    show HV l mX12_sightOf (dp + 4) 0 0 0 [some (.ref 82), some (.int x), some (.int (nI 4)), none] [] hSH I J (hRR lt tx) Q
    refine h_aload_n dX12_sightOf_0 rfl ?_
    refine h_iload_n dX12_sightOf_1 rfl ?_
    refine h_cV1 dX12_sightOf_2 k6_24 oVX12_isSight rfl rfl ?_
    refine r_isSight (n := nk) hnk (by omega) (fun b1 => ?_) (fun b1 => ?_)
    · obtain ⟨k, hk, rfl⟩ := b1
      have q1 := hsW k hk
      have q2 := hp99 (fr k) (by omega)
      have q3 := hpW (tg k) (by omega)
      have q4 := aw_le q2 q3.1
      refine h_ifeq (tgt := 18) dX12_sightOf_5 rfl (fun c => absurd c (by decide)) (fun _ => ?_)
      refine h_iload_n dX12_sightOf_8 rfl ?_
      refine h_iconst dX12_sightOf_9 ci_0 ?_
      refine h_bipush dX12_sightOf_10 cb_7 ?_
      refine h_cS3 dX12_sightOf_12 k5_172 oSX12_in rfl ?_
      refine c_X12_in (fun b2 => ?_) (fun b2 => ?_)
      · refine h_ifne (tgt := 21) dX12_sightOf_15 rfl (fun _ => ?_) (fun c => absurd c (by decide))
        refine h_aload_n dX12_sightOf_21 rfl ?_
        refine h_aload_n dX12_sightOf_22 rfl ?_
        refine h_getR dX12_sightOf_23 f_X12_19_10 rfl rfl ?_
        refine h_bipush dX12_sightOf_26 cb_7 ?_
        refine h_iload_n dX12_sightOf_28 rfl ?_
        refine h_imulN dX12_sightOf_29 ?_
        refine h_iconst dX12_sightOf_30 ci_1 ?_
        refine h_iaddN dX12_sightOf_31 ?_
        refine h_ialdN (j := (7 * k) + 1) dX12_sightOf_32 rfl rfl (by omega) rfl (hsi k (by omega)).2.1 ?_
        refine h_aload_n dX12_sightOf_33 rfl ?_
        refine h_getR dX12_sightOf_34 f_X12_19_10 rfl rfl ?_
        refine h_bipush dX12_sightOf_37 cb_7 ?_
        refine h_iload_n dX12_sightOf_39 rfl ?_
        refine h_imulN dX12_sightOf_40 ?_
        refine h_iconst dX12_sightOf_41 ci_2 ?_
        refine h_iaddN dX12_sightOf_42 ?_
        refine h_ialdN (j := (7 * k) + 2) dX12_sightOf_43 rfl rfl (by omega) rfl (hsi k (by omega)).2.2.1 ?_
        refine h_cV2 dX12_sightOf_44 k5_196 oVX12_awayOf rfl rfl ?_
        refine r_awayOf hG (by omega) (by omega) ?_
        refine h_istore_n dX12_sightOf_47 (Nat.le_of_ble_eq_true rfl) ?_
        refine h_iload_n dX12_sightOf_48 rfl ?_
        refine h_tableIn (off := 31) (tgt := 80) dX12_sightOf_49 (by decide) (by decide) (by decide) rfl ?_
        refine h_aload_n dX12_sightOf_80 rfl ?_
        refine h_iload_n dX12_sightOf_81 rfl ?_
        refine h_cV1 dX12_sightOf_82 k6_28 oVX12_toldOf rfl rfl ?_
        refine r_toldOf hG hk (fun g1 g2 => ?_)
        refine h_ireturn dX12_sightOf_85 rfl ?_
        have hQ := hQ _ (RO_f I g1 g2)
        rw [sgF_4 hk hn24] at hQ
        exact hQ
      · exact absurd (by decide) b2
    · refine h_ifeq (tgt := 18) dX12_sightOf_5 rfl (fun _ => ?_) (fun c => absurd (by decide) c)
      refine h_ldc dX12_sightOf_18 k5_187 ?_
      refine h_ireturn dX12_sightOf_20 rfl ?_
      have hQ := hQ _ (RO_id I)
      rw [sgF_b b1] at hQ
      exact hQ
  by_cases e_5 : w = nI 5
  · subst e_5
    show HV l mX12_sightOf (dp + 4) 0 0 0 [some (.ref 82), some (.int x), some (.int (nI 5)), none] [] hSH I J (hRR lt tx) Q
    refine h_aload_n dX12_sightOf_0 rfl ?_
    refine h_iload_n dX12_sightOf_1 rfl ?_
    refine h_cV1 dX12_sightOf_2 k6_24 oVX12_isSight rfl rfl ?_
    refine r_isSight (n := nk) hnk (by omega) (fun b1 => ?_) (fun b1 => ?_)
    · obtain ⟨k, hk, rfl⟩ := b1
      have q1 := hsW k hk
      have q2 := hp99 (fr k) (by omega)
      have q3 := hpW (tg k) (by omega)
      have q4 := aw_le q2 q3.1
      refine h_ifeq (tgt := 18) dX12_sightOf_5 rfl (fun c => absurd c (by decide)) (fun _ => ?_)
      refine h_iload_n dX12_sightOf_8 rfl ?_
      refine h_iconst dX12_sightOf_9 ci_0 ?_
      refine h_bipush dX12_sightOf_10 cb_7 ?_
      refine h_cS3 dX12_sightOf_12 k5_172 oSX12_in rfl ?_
      refine c_X12_in (fun b2 => ?_) (fun b2 => ?_)
      · refine h_ifne (tgt := 21) dX12_sightOf_15 rfl (fun _ => ?_) (fun c => absurd c (by decide))
        refine h_aload_n dX12_sightOf_21 rfl ?_
        refine h_aload_n dX12_sightOf_22 rfl ?_
        refine h_getR dX12_sightOf_23 f_X12_19_10 rfl rfl ?_
        refine h_bipush dX12_sightOf_26 cb_7 ?_
        refine h_iload_n dX12_sightOf_28 rfl ?_
        refine h_imulN dX12_sightOf_29 ?_
        refine h_iconst dX12_sightOf_30 ci_1 ?_
        refine h_iaddN dX12_sightOf_31 ?_
        refine h_ialdN (j := (7 * k) + 1) dX12_sightOf_32 rfl rfl (by omega) rfl (hsi k (by omega)).2.1 ?_
        refine h_aload_n dX12_sightOf_33 rfl ?_
        refine h_getR dX12_sightOf_34 f_X12_19_10 rfl rfl ?_
        refine h_bipush dX12_sightOf_37 cb_7 ?_
        refine h_iload_n dX12_sightOf_39 rfl ?_
        refine h_imulN dX12_sightOf_40 ?_
        refine h_iconst dX12_sightOf_41 ci_2 ?_
        refine h_iaddN dX12_sightOf_42 ?_
        refine h_ialdN (j := (7 * k) + 2) dX12_sightOf_43 rfl rfl (by omega) rfl (hsi k (by omega)).2.2.1 ?_
        refine h_cV2 dX12_sightOf_44 k5_196 oVX12_awayOf rfl rfl ?_
        refine r_awayOf hG (by omega) (by omega) ?_
        refine h_istore_n dX12_sightOf_47 (Nat.le_of_ble_eq_true rfl) ?_
        refine h_iload_n dX12_sightOf_48 rfl ?_
        refine h_tableIn (off := 37) (tgt := 86) dX12_sightOf_49 (by decide) (by decide) (by decide) rfl ?_
        refine h_aload_n dX12_sightOf_86 rfl ?_
        refine h_aload_n dX12_sightOf_87 rfl ?_
        refine h_getR dX12_sightOf_88 f_X12_19_10 rfl rfl ?_
        refine h_bipush dX12_sightOf_91 cb_7 ?_
        refine h_iload_n dX12_sightOf_93 rfl ?_
        refine h_imulN dX12_sightOf_94 ?_
        refine h_ialdN (j := 7 * k) dX12_sightOf_95 rfl rfl (by omega) rfl (hsi k (by omega)).1 ?_
        refine h_aload_n dX12_sightOf_96 rfl ?_
        refine h_iload_n dX12_sightOf_97 rfl ?_
        refine h_cV1 dX12_sightOf_98 k6_28 oVX12_toldOf rfl rfl ?_
        refine r_toldOf hG hk (fun g1 g2 => ?_)
        refine h_iload_n dX12_sightOf_101 rfl ?_
        refine h_cV3 dX12_sightOf_102 k6_43 oVX12_bendBy rfl rfl ?_
        refine r_bendBy (by omega) (rW_le hL) q4 ?_
        refine h_ireturn dX12_sightOf_105 rfl ?_
        have hQ := hQ _ (RO_f I g1 g2)
        rw [sgF_5 hk hn24] at hQ
        exact hQ
      · exact absurd (by decide) b2
    · refine h_ifeq (tgt := 18) dX12_sightOf_5 rfl (fun _ => ?_) (fun c => absurd (by decide) c)
      refine h_ldc dX12_sightOf_18 k5_187 ?_
      refine h_ireturn dX12_sightOf_20 rfl ?_
      have hQ := hQ _ (RO_id I)
      rw [sgF_b b1] at hQ
      exact hQ
  by_cases e_6 : w = nI 6
  · subst e_6
    show HV l mX12_sightOf (dp + 4) 0 0 0 [some (.ref 82), some (.int x), some (.int (nI 6)), none] [] hSH I J (hRR lt tx) Q
    refine h_aload_n dX12_sightOf_0 rfl ?_
    refine h_iload_n dX12_sightOf_1 rfl ?_
    refine h_cV1 dX12_sightOf_2 k6_24 oVX12_isSight rfl rfl ?_
    refine r_isSight (n := nk) hnk (by omega) (fun b1 => ?_) (fun b1 => ?_)
    · obtain ⟨k, hk, rfl⟩ := b1
      have q1 := hsW k hk
      have q2 := hp99 (fr k) (by omega)
      have q3 := hpW (tg k) (by omega)
      have q4 := aw_le q2 q3.1
      refine h_ifeq (tgt := 18) dX12_sightOf_5 rfl (fun c => absurd c (by decide)) (fun _ => ?_)
      refine h_iload_n dX12_sightOf_8 rfl ?_
      refine h_iconst dX12_sightOf_9 ci_0 ?_
      refine h_bipush dX12_sightOf_10 cb_7 ?_
      refine h_cS3 dX12_sightOf_12 k5_172 oSX12_in rfl ?_
      refine c_X12_in (fun b2 => ?_) (fun b2 => ?_)
      · refine h_ifne (tgt := 21) dX12_sightOf_15 rfl (fun _ => ?_) (fun c => absurd c (by decide))
        refine h_aload_n dX12_sightOf_21 rfl ?_
        refine h_aload_n dX12_sightOf_22 rfl ?_
        refine h_getR dX12_sightOf_23 f_X12_19_10 rfl rfl ?_
        refine h_bipush dX12_sightOf_26 cb_7 ?_
        refine h_iload_n dX12_sightOf_28 rfl ?_
        refine h_imulN dX12_sightOf_29 ?_
        refine h_iconst dX12_sightOf_30 ci_1 ?_
        refine h_iaddN dX12_sightOf_31 ?_
        refine h_ialdN (j := (7 * k) + 1) dX12_sightOf_32 rfl rfl (by omega) rfl (hsi k (by omega)).2.1 ?_
        refine h_aload_n dX12_sightOf_33 rfl ?_
        refine h_getR dX12_sightOf_34 f_X12_19_10 rfl rfl ?_
        refine h_bipush dX12_sightOf_37 cb_7 ?_
        refine h_iload_n dX12_sightOf_39 rfl ?_
        refine h_imulN dX12_sightOf_40 ?_
        refine h_iconst dX12_sightOf_41 ci_2 ?_
        refine h_iaddN dX12_sightOf_42 ?_
        refine h_ialdN (j := (7 * k) + 2) dX12_sightOf_43 rfl rfl (by omega) rfl (hsi k (by omega)).2.2.1 ?_
        refine h_cV2 dX12_sightOf_44 k5_196 oVX12_awayOf rfl rfl ?_
        refine r_awayOf hG (by omega) (by omega) ?_
        refine h_istore_n dX12_sightOf_47 (Nat.le_of_ble_eq_true rfl) ?_
        refine h_iload_n dX12_sightOf_48 rfl ?_
        refine h_tableIn (off := 57) (tgt := 106) dX12_sightOf_49 (by decide) (by decide) (by decide) rfl ?_
        refine h_aload_n dX12_sightOf_106 rfl ?_
        refine h_getR dX12_sightOf_107 f_X12_19_10 rfl rfl ?_
        refine h_bipush dX12_sightOf_110 cb_7 ?_
        refine h_iload_n dX12_sightOf_112 rfl ?_
        refine h_imulN dX12_sightOf_113 ?_
        refine h_ialdN (j := 7 * k) dX12_sightOf_114 rfl rfl (by omega) rfl (hsi k (by omega)).1 ?_
        refine h_iload_n dX12_sightOf_115 rfl ?_
        refine h_cS2 dX12_sightOf_116 k6_47 oSX12_slackBy rfl ?_
        refine r_slackBy (by omega) q4 ?_
        refine h_ireturn dX12_sightOf_119 rfl ?_
        have hQ := hQ _ (RO_id I)
        rw [sgF_6 hk hn24] at hQ
        exact hQ
      · exact absurd (by decide) b2
    · refine h_ifeq (tgt := 18) dX12_sightOf_5 rfl (fun _ => ?_) (fun c => absurd (by decide) c)
      refine h_ldc dX12_sightOf_18 k5_187 ?_
      refine h_ireturn dX12_sightOf_20 rfl ?_
      have hQ := hQ _ (RO_id I)
      rw [sgF_b b1] at hQ
      exact hQ
  by_cases e_7 : w = nI 7
  · subst e_7
    show HV l mX12_sightOf (dp + 4) 0 0 0 [some (.ref 82), some (.int x), some (.int (nI 7)), none] [] hSH I J (hRR lt tx) Q
    refine h_aload_n dX12_sightOf_0 rfl ?_
    refine h_iload_n dX12_sightOf_1 rfl ?_
    refine h_cV1 dX12_sightOf_2 k6_24 oVX12_isSight rfl rfl ?_
    refine r_isSight (n := nk) hnk (by omega) (fun b1 => ?_) (fun b1 => ?_)
    · obtain ⟨k, hk, rfl⟩ := b1
      have q1 := hsW k hk
      have q2 := hp99 (fr k) (by omega)
      have q3 := hpW (tg k) (by omega)
      have q4 := aw_le q2 q3.1
      refine h_ifeq (tgt := 18) dX12_sightOf_5 rfl (fun c => absurd c (by decide)) (fun _ => ?_)
      refine h_iload_n dX12_sightOf_8 rfl ?_
      refine h_iconst dX12_sightOf_9 ci_0 ?_
      refine h_bipush dX12_sightOf_10 cb_7 ?_
      refine h_cS3 dX12_sightOf_12 k5_172 oSX12_in rfl ?_
      refine c_X12_in (fun b2 => ?_) (fun b2 => ?_)
      · refine h_ifne (tgt := 21) dX12_sightOf_15 rfl (fun _ => ?_) (fun c => absurd c (by decide))
        refine h_aload_n dX12_sightOf_21 rfl ?_
        refine h_aload_n dX12_sightOf_22 rfl ?_
        refine h_getR dX12_sightOf_23 f_X12_19_10 rfl rfl ?_
        refine h_bipush dX12_sightOf_26 cb_7 ?_
        refine h_iload_n dX12_sightOf_28 rfl ?_
        refine h_imulN dX12_sightOf_29 ?_
        refine h_iconst dX12_sightOf_30 ci_1 ?_
        refine h_iaddN dX12_sightOf_31 ?_
        refine h_ialdN (j := (7 * k) + 1) dX12_sightOf_32 rfl rfl (by omega) rfl (hsi k (by omega)).2.1 ?_
        refine h_aload_n dX12_sightOf_33 rfl ?_
        refine h_getR dX12_sightOf_34 f_X12_19_10 rfl rfl ?_
        refine h_bipush dX12_sightOf_37 cb_7 ?_
        refine h_iload_n dX12_sightOf_39 rfl ?_
        refine h_imulN dX12_sightOf_40 ?_
        refine h_iconst dX12_sightOf_41 ci_2 ?_
        refine h_iaddN dX12_sightOf_42 ?_
        refine h_ialdN (j := (7 * k) + 2) dX12_sightOf_43 rfl rfl (by omega) rfl (hsi k (by omega)).2.2.1 ?_
        refine h_cV2 dX12_sightOf_44 k5_196 oVX12_awayOf rfl rfl ?_
        refine r_awayOf hG (by omega) (by omega) ?_
        refine h_istore_n dX12_sightOf_47 (Nat.le_of_ble_eq_true rfl) ?_
        refine h_iload_n dX12_sightOf_48 rfl ?_
        refine h_tableIn (off := 71) (tgt := 120) dX12_sightOf_49 (by decide) (by decide) (by decide) rfl ?_
        refine h_aload_n dX12_sightOf_120 rfl ?_
        refine h_getR dX12_sightOf_121 f_X12_19_10 rfl rfl ?_
        refine h_bipush dX12_sightOf_124 cb_7 ?_
        refine h_iload_n dX12_sightOf_126 rfl ?_
        refine h_imulN dX12_sightOf_127 ?_
        refine h_bipush dX12_sightOf_128 cb_6 ?_
        refine h_iaddN dX12_sightOf_130 ?_
        refine h_ialdN (j := (7 * k) + 6) dX12_sightOf_131 rfl rfl (by omega) rfl (hsi k (by omega)).2.2.2.2.2.2 ?_
        refine h_ireturn dX12_sightOf_132 rfl ?_
        have hQ := hQ _ (RO_id I)
        rw [sgF_7 hk hn24] at hQ
        exact hQ
      · exact absurd (by decide) b2
    · refine h_ifeq (tgt := 18) dX12_sightOf_5 rfl (fun _ => ?_) (fun c => absurd (by decide) c)
      refine h_ldc dX12_sightOf_18 k5_187 ?_
      refine h_ireturn dX12_sightOf_20 rfl ?_
      have hQ := hQ _ (RO_id I)
      rw [sgF_b b1] at hQ
      exact hQ
  show HV l mX12_sightOf (dp + 4) 0 0 0 [some (.ref 82), some (.int x), some (.int w), none] [] hSH I J (hRR lt tx) Q
  refine h_aload_n dX12_sightOf_0 rfl ?_
  refine h_iload_n dX12_sightOf_1 rfl ?_
  refine h_cV1 dX12_sightOf_2 k6_24 oVX12_isSight rfl rfl ?_
  refine r_isSight (n := nk) hnk (by omega) (fun b1 => ?_) (fun b1 => ?_)
  · obtain ⟨k, hk, rfl⟩ := b1
    have q1 := hsW k hk
    have q2 := hp99 (fr k) (by omega)
    have q3 := hpW (tg k) (by omega)
    have q4 := aw_le q2 q3.1
    refine h_ifeq (tgt := 18) dX12_sightOf_5 rfl (fun c => absurd c (by decide)) (fun _ => ?_)
    refine h_iload_n dX12_sightOf_8 rfl ?_
    refine h_iconst dX12_sightOf_9 ci_0 ?_
    refine h_bipush dX12_sightOf_10 cb_7 ?_
    refine h_cS3 dX12_sightOf_12 k5_172 oSX12_in rfl ?_
    refine c_X12_in (fun b2 => ?_) (fun b2 => ?_)
    · exfalso
      obtain ⟨wn, rfl, hw1, hw9⟩ := rng_ex (by omega) (by omega) b2.1 b2.2
      rcases (show wn = 0 ∨ wn = 1 ∨ wn = 2 ∨ wn = 3 ∨ wn = 4 ∨ wn = 5 ∨ wn = 6 ∨ wn = 7 by omega) with rfl | rfl | rfl | rfl | rfl | rfl | rfl | rfl
      · exact e_0 rfl
      · exact e_1 rfl
      · exact e_2 rfl
      · exact e_3 rfl
      · exact e_4 rfl
      · exact e_5 rfl
      · exact e_6 rfl
      · exact e_7 rfl
    · refine h_ifne (tgt := 21) dX12_sightOf_15 rfl (fun c => absurd (by decide) c) (fun _ => ?_)
      refine h_ldc dX12_sightOf_18 k5_187 ?_
      refine h_ireturn dX12_sightOf_20 rfl ?_
      have hQ := hQ _ (RO_id I)
      rw [sgF_d e_0 e_1 e_2 e_3 e_4 e_5 e_6 e_7] at hQ
      exact hQ
  · refine h_ifeq (tgt := 18) dX12_sightOf_5 rfl (fun _ => ?_) (fun c => absurd (by decide) c)
    refine h_ldc dX12_sightOf_18 k5_187 ?_
    refine h_ireturn dX12_sightOf_20 rfl ?_
    have hQ := hQ _ (RO_id I)
    rw [sgF_b b1] at hQ
    exact hQ
noncomputable def ftV (ns nl np ml nk nw : Nat) (pl fa fb sl pp pm ki fr tg wh bw : Nat → Nat) (rs sn : Nat → Int32) (qw : Nat → Nat → Nat → Nat → Bool) (k : Nat) (w : Int32) : Int32 := cif (w = nI 0) (ftK nl np ml nw pl fa fb sl pp pm ki fr tg wh bw rs sn qw k) (cif (w = nI 1) (ftK nl np ml nw pl fa fb sl pp pm ki fr tg wh bw rs sn qw k - nI (rcK nl pl fa fb sl pp ki fr tg k)) (ftK nl np ml nw pl fa fb sl pp pm ki fr tg wh bw rs sn qw k + nI (rcK nl pl fa fb sl pp ki fr tg k)))
noncomputable def ftF (ns nl np ml nk nw : Nat) (pl fa fb sl pp pm ki fr tg wh bw : Nat → Nat) (rs sn : Nat → Int32) (qw : Nat → Nat → Nat → Nat → Bool) (x w : Int32) : Int32 := cif (isIx x nk ∧ nI 0 ≤ w ∧ w ≤ nI 2) (cif (dist fa fb sl nl (fr x.toNatClampNeg) < 1000000) (ftV ns nl np ml nk nw pl fa fb sl pp pm ki fr tg wh bw rs sn qw x.toNatClampNeg w) (-10000003)) (-10000001)
theorem ftF_0 {ns nl np ml nk nw : Nat} {pl fa fb sl pp pm ki fr tg wh bw : Nat → Nat} {rs sn : Nat → Int32} {qw : Nat → Nat → Nat → Nat → Bool} {k : Nat} (hk : k < nk) (hb : nk ≤ 24) (hd : dist fa fb sl nl (fr k) < 1000000) : ftF ns nl np ml nk nw pl fa fb sl pp pm ki fr tg wh bw rs sn qw (nI k) (nI 0) = ftK nl np ml nw pl fa fb sl pp pm ki fr tg wh bw rs sn qw k := by
  unfold ftF
  rw [cif_t ⟨⟨k, hk, rfl⟩, by decide, by decide⟩, nI_clamp (show k < 2 ^ 31 by omega), cif_t hd]
  unfold ftV
  rw [cif_t rfl]
theorem ftF_n0 {ns nl np ml nk nw : Nat} {pl fa fb sl pp pm ki fr tg wh bw : Nat → Nat} {rs sn : Nat → Int32} {qw : Nat → Nat → Nat → Nat → Bool} {k : Nat} (hk : k < nk) (hb : nk ≤ 24) (hd : ¬ dist fa fb sl nl (fr k) < 1000000) : ftF ns nl np ml nk nw pl fa fb sl pp pm ki fr tg wh bw rs sn qw (nI k) (nI 0) = -10000003 := by
  unfold ftF
  rw [cif_t ⟨⟨k, hk, rfl⟩, by decide, by decide⟩, nI_clamp (show k < 2 ^ 31 by omega), cif_f hd]
theorem ftF_1 {ns nl np ml nk nw : Nat} {pl fa fb sl pp pm ki fr tg wh bw : Nat → Nat} {rs sn : Nat → Int32} {qw : Nat → Nat → Nat → Nat → Bool} {k : Nat} (hk : k < nk) (hb : nk ≤ 24) (hd : dist fa fb sl nl (fr k) < 1000000) : ftF ns nl np ml nk nw pl fa fb sl pp pm ki fr tg wh bw rs sn qw (nI k) (nI 1) = ftK nl np ml nw pl fa fb sl pp pm ki fr tg wh bw rs sn qw k - nI (rcK nl pl fa fb sl pp ki fr tg k) := by
  unfold ftF
  rw [cif_t ⟨⟨k, hk, rfl⟩, by decide, by decide⟩, nI_clamp (show k < 2 ^ 31 by omega), cif_t hd]
  unfold ftV
  rw [cif_f (by decide), cif_t rfl]
theorem ftF_n1 {ns nl np ml nk nw : Nat} {pl fa fb sl pp pm ki fr tg wh bw : Nat → Nat} {rs sn : Nat → Int32} {qw : Nat → Nat → Nat → Nat → Bool} {k : Nat} (hk : k < nk) (hb : nk ≤ 24) (hd : ¬ dist fa fb sl nl (fr k) < 1000000) : ftF ns nl np ml nk nw pl fa fb sl pp pm ki fr tg wh bw rs sn qw (nI k) (nI 1) = -10000003 := by
  unfold ftF
  rw [cif_t ⟨⟨k, hk, rfl⟩, by decide, by decide⟩, nI_clamp (show k < 2 ^ 31 by omega), cif_f hd]
theorem ftF_2 {ns nl np ml nk nw : Nat} {pl fa fb sl pp pm ki fr tg wh bw : Nat → Nat} {rs sn : Nat → Int32} {qw : Nat → Nat → Nat → Nat → Bool} {k : Nat} (hk : k < nk) (hb : nk ≤ 24) (hd : dist fa fb sl nl (fr k) < 1000000) : ftF ns nl np ml nk nw pl fa fb sl pp pm ki fr tg wh bw rs sn qw (nI k) (nI 2) = ftK nl np ml nw pl fa fb sl pp pm ki fr tg wh bw rs sn qw k + nI (rcK nl pl fa fb sl pp ki fr tg k) := by
  unfold ftF
  rw [cif_t ⟨⟨k, hk, rfl⟩, by decide, by decide⟩, nI_clamp (show k < 2 ^ 31 by omega), cif_t hd]
  unfold ftV
  rw [cif_f (by decide), cif_f (by decide)]
theorem ftF_n2 {ns nl np ml nk nw : Nat} {pl fa fb sl pp pm ki fr tg wh bw : Nat → Nat} {rs sn : Nat → Int32} {qw : Nat → Nat → Nat → Nat → Bool} {k : Nat} (hk : k < nk) (hb : nk ≤ 24) (hd : ¬ dist fa fb sl nl (fr k) < 1000000) : ftF ns nl np ml nk nw pl fa fb sl pp pm ki fr tg wh bw rs sn qw (nI k) (nI 2) = -10000003 := by
  unfold ftF
  rw [cif_t ⟨⟨k, hk, rfl⟩, by decide, by decide⟩, nI_clamp (show k < 2 ^ 31 by omega), cif_f hd]
theorem c_foot {l : Launch} {dp : Nat} {ns nl np ml nk nw : Nat} {pl fa fb sl pp pm ki fr tg wh bw : Nat → Nat} {rs sn : Nat → Int32} {fl : Nat → Bool} {qw : Nat → Nat → Nat → Nat → Bool} {I : hI} {J : hJ} {lt tx : Option Nat} {x w : Int32} {Q : hQ} (hG : cG I ns nl np ml nk nw pl fa fb sl pp pm ki fr tg wh bw rs sn fl qw) (hQ : Q (some (.int (ftF ns nl np ml nk nw pl fa fb sl pp pm ki fr tg wh bw rs sn qw x w))) hSH I J (hRR lt tx)) : HC l mX11_foot (dp + 5) 0 0 [.ref 0, .int x, .int w] hSH I J (hRR lt tx) Q := by
  refine HC.of (by decide +kernel) rfl (Nat.le_of_ble_eq_true rfl) ?_
  obtain ⟨⟨hN, hdo, hla, hlv⟩, hw, ⟨hnp, hml, hnk, hpt, hsi, hbt⟩, ⟨hn8, hm2, hn24, hpW, hsW⟩, hL⟩ := id hG
  obtain ⟨hns, hnl, hpl, hlg⟩ := id hN
  obtain ⟨hn6, hl12, hW, hp99, hr99⟩ := id hw
  by_cases e_0 : w = nI 0
  · subst e_0
    show HV l mX11_foot (dp + 5) 0 0 0 [some (.ref 0), some (.int x), some (.int (nI 0)), none] [] hSH I J (hRR lt tx) Q
    refine h_aload_n dX11_foot_0 rfl ?_
    refine h_iload_n dX11_foot_1 rfl ?_
    refine h_cV1 dX11_foot_2 k3_40 oVX11_isSight rfl rfl ?_
    refine c_isSight (n := nk) hnk (by omega) (fun b1 => ?_) (fun b1 => ?_)
    · refine h_ifeq (tgt := 17) dX11_foot_5 rfl (fun c => absurd c (by decide)) (fun _ => ?_)
      refine h_iload_n dX11_foot_8 rfl ?_
      refine h_iconst dX11_foot_9 ci_0 ?_
      refine h_iconst dX11_foot_10 ci_2 ?_
      refine h_cS3 dX11_foot_11 k2_154 oSX11_within rfl ?_
      refine c_X11_within (fun b2 => ?_) (fun b2 => ?_)
      · obtain ⟨k, hk, rfl⟩ := b1
        have q1 := hsW k hk
        have q2 := hp99 (fr k) (by omega)
        have q3 := hpW (tg k) (by omega)
        have q4 := aw_le q2 q3.1
        refine h_ifne (tgt := 20) dX11_foot_14 rfl (fun _ => ?_) (fun c => absurd c (by decide))
        refine h_aload_n dX11_foot_20 rfl ?_
        refine h_getR dX11_foot_21 f_X11_20_9 rfl rfl ?_
        refine h_aload_n dX11_foot_24 rfl ?_
        refine h_getR dX11_foot_25 f_X11_10_9 rfl rfl ?_
        refine h_getR dX11_foot_28 f_X11_204_8 rfl rfl ?_
        refine h_iload_n dX11_foot_31 rfl ?_
        refine h_ialdN (j := k) dX11_foot_32 rfl rfl (by omega) rfl (hsi _ (by omega)).2.1 ?_
        refine h_cV1 dX11_foot_33 k2_223 oVX5_hasLevel rfl rfl ?_
        refine c_hasLevelN (f := dist fa fb sl nl) hns hn6 hdo (by omega) (fun b3 => ?_) (fun b3 => ?_)
        · refine h_ifne (tgt := 42) dX11_foot_36 rfl (fun _ => ?_) (fun c => absurd c (by decide))
          refine h_aload_n dX11_foot_42 rfl ?_
          refine h_getR dX11_foot_43 f_X11_10_9 rfl rfl ?_
          refine h_iload_n dX11_foot_46 rfl ?_
          refine h_cV1 dX11_foot_47 k3_85 oVX10_footOf rfl rfl ?_
          refine c_footOf hG hk ?_
          refine h_istore_n dX11_foot_50 (Nat.le_of_ble_eq_true rfl) ?_
          refine h_iload_n dX11_foot_51 rfl ?_
          refine h_ifne (tgt := 57) dX11_foot_52 rfl (fun c => absurd (by decide) c) (fun _ => ?_)
          refine h_iload_n dX11_foot_55 rfl ?_
          refine h_ireturn dX11_foot_56 rfl ?_
          rw [ftF_0 hk hn24 b3] at hQ
          exact hQ
        · refine h_ifne (tgt := 42) dX11_foot_36 rfl (fun c => absurd (by decide) c) (fun _ => ?_)
          refine h_ldc dX11_foot_39 k2_227 ?_
          refine h_ireturn dX11_foot_41 rfl ?_
          rw [ftF_n0 hk hn24 b3] at hQ
          exact hQ
      · exact absurd (by decide) b2
    · refine h_ifeq (tgt := 17) dX11_foot_5 rfl (fun _ => ?_) (fun c => absurd (by decide) c)
      refine h_ldc dX11_foot_17 k2_206 ?_
      refine h_ireturn dX11_foot_19 rfl ?_
      have hQ : Q (some (.int (cif _ _ _))) hSH I J (hRR lt tx) := hQ
      rw [cif_f (fun z => b1 z.1)] at hQ
      exact hQ
  by_cases e_1 : w = nI 1
  · subst e_1
    show HV l mX11_foot (dp + 5) 0 0 0 [some (.ref 0), some (.int x), some (.int (nI 1)), none] [] hSH I J (hRR lt tx) Q
    refine h_aload_n dX11_foot_0 rfl ?_
    refine h_iload_n dX11_foot_1 rfl ?_
    refine h_cV1 dX11_foot_2 k3_40 oVX11_isSight rfl rfl ?_
    refine c_isSight (n := nk) hnk (by omega) (fun b1 => ?_) (fun b1 => ?_)
    · refine h_ifeq (tgt := 17) dX11_foot_5 rfl (fun c => absurd c (by decide)) (fun _ => ?_)
      refine h_iload_n dX11_foot_8 rfl ?_
      refine h_iconst dX11_foot_9 ci_0 ?_
      refine h_iconst dX11_foot_10 ci_2 ?_
      refine h_cS3 dX11_foot_11 k2_154 oSX11_within rfl ?_
      refine c_X11_within (fun b2 => ?_) (fun b2 => ?_)
      · obtain ⟨k, hk, rfl⟩ := b1
        have q1 := hsW k hk
        have q2 := hp99 (fr k) (by omega)
        have q3 := hpW (tg k) (by omega)
        have q4 := aw_le q2 q3.1
        refine h_ifne (tgt := 20) dX11_foot_14 rfl (fun _ => ?_) (fun c => absurd c (by decide))
        refine h_aload_n dX11_foot_20 rfl ?_
        refine h_getR dX11_foot_21 f_X11_20_9 rfl rfl ?_
        refine h_aload_n dX11_foot_24 rfl ?_
        refine h_getR dX11_foot_25 f_X11_10_9 rfl rfl ?_
        refine h_getR dX11_foot_28 f_X11_204_8 rfl rfl ?_
        refine h_iload_n dX11_foot_31 rfl ?_
        refine h_ialdN (j := k) dX11_foot_32 rfl rfl (by omega) rfl (hsi _ (by omega)).2.1 ?_
        refine h_cV1 dX11_foot_33 k2_223 oVX5_hasLevel rfl rfl ?_
        refine c_hasLevelN (f := dist fa fb sl nl) hns hn6 hdo (by omega) (fun b3 => ?_) (fun b3 => ?_)
        · refine h_ifne (tgt := 42) dX11_foot_36 rfl (fun _ => ?_) (fun c => absurd c (by decide))
          refine h_aload_n dX11_foot_42 rfl ?_
          refine h_getR dX11_foot_43 f_X11_10_9 rfl rfl ?_
          refine h_iload_n dX11_foot_46 rfl ?_
          refine h_cV1 dX11_foot_47 k3_85 oVX10_footOf rfl rfl ?_
          refine c_footOf hG hk ?_
          refine h_istore_n dX11_foot_50 (Nat.le_of_ble_eq_true rfl) ?_
          refine h_iload_n dX11_foot_51 rfl ?_
          refine h_ifne (tgt := 57) dX11_foot_52 rfl (fun _ => ?_) (fun c => absurd c (by decide))
          refine h_iload_n dX11_foot_57 rfl ?_
          refine h_iconst dX11_foot_58 ci_1 ?_
          refine h_icmpne (tgt := 75) dX11_foot_59 rfl (fun c => absurd (by decide) c) (fun _ => ?_)
          refine h_iload_n dX11_foot_62 rfl ?_
          refine h_aload_n dX11_foot_63 rfl ?_
          refine h_getR dX11_foot_64 f_X11_10_9 rfl rfl ?_
          refine h_iload_n dX11_foot_67 rfl ?_
          refine h_cV1 dX11_foot_68 k3_95 oVX10_reachOf rfl rfl ?_
          refine c_reachOf hG hk b3 ?_
          refine h_isub dX11_foot_71 ?_
          refine h_goto (tgt := 85) dX11_foot_72 rfl ?_
          refine h_ireturn dX11_foot_85 rfl ?_
          rw [ftF_1 hk hn24 b3] at hQ
          exact hQ
        · refine h_ifne (tgt := 42) dX11_foot_36 rfl (fun c => absurd (by decide) c) (fun _ => ?_)
          refine h_ldc dX11_foot_39 k2_227 ?_
          refine h_ireturn dX11_foot_41 rfl ?_
          rw [ftF_n1 hk hn24 b3] at hQ
          exact hQ
      · exact absurd (by decide) b2
    · refine h_ifeq (tgt := 17) dX11_foot_5 rfl (fun _ => ?_) (fun c => absurd (by decide) c)
      refine h_ldc dX11_foot_17 k2_206 ?_
      refine h_ireturn dX11_foot_19 rfl ?_
      have hQ : Q (some (.int (cif _ _ _))) hSH I J (hRR lt tx) := hQ
      rw [cif_f (fun z => b1 z.1)] at hQ
      exact hQ
  by_cases e_2 : w = nI 2
  · subst e_2
    show HV l mX11_foot (dp + 5) 0 0 0 [some (.ref 0), some (.int x), some (.int (nI 2)), none] [] hSH I J (hRR lt tx) Q
    refine h_aload_n dX11_foot_0 rfl ?_
    refine h_iload_n dX11_foot_1 rfl ?_
    refine h_cV1 dX11_foot_2 k3_40 oVX11_isSight rfl rfl ?_
    refine c_isSight (n := nk) hnk (by omega) (fun b1 => ?_) (fun b1 => ?_)
    · refine h_ifeq (tgt := 17) dX11_foot_5 rfl (fun c => absurd c (by decide)) (fun _ => ?_)
      refine h_iload_n dX11_foot_8 rfl ?_
      refine h_iconst dX11_foot_9 ci_0 ?_
      refine h_iconst dX11_foot_10 ci_2 ?_
      refine h_cS3 dX11_foot_11 k2_154 oSX11_within rfl ?_
      refine c_X11_within (fun b2 => ?_) (fun b2 => ?_)
      · obtain ⟨k, hk, rfl⟩ := b1
        have q1 := hsW k hk
        have q2 := hp99 (fr k) (by omega)
        have q3 := hpW (tg k) (by omega)
        have q4 := aw_le q2 q3.1
        refine h_ifne (tgt := 20) dX11_foot_14 rfl (fun _ => ?_) (fun c => absurd c (by decide))
        refine h_aload_n dX11_foot_20 rfl ?_
        refine h_getR dX11_foot_21 f_X11_20_9 rfl rfl ?_
        refine h_aload_n dX11_foot_24 rfl ?_
        refine h_getR dX11_foot_25 f_X11_10_9 rfl rfl ?_
        refine h_getR dX11_foot_28 f_X11_204_8 rfl rfl ?_
        refine h_iload_n dX11_foot_31 rfl ?_
        refine h_ialdN (j := k) dX11_foot_32 rfl rfl (by omega) rfl (hsi _ (by omega)).2.1 ?_
        refine h_cV1 dX11_foot_33 k2_223 oVX5_hasLevel rfl rfl ?_
        refine c_hasLevelN (f := dist fa fb sl nl) hns hn6 hdo (by omega) (fun b3 => ?_) (fun b3 => ?_)
        · refine h_ifne (tgt := 42) dX11_foot_36 rfl (fun _ => ?_) (fun c => absurd c (by decide))
          refine h_aload_n dX11_foot_42 rfl ?_
          refine h_getR dX11_foot_43 f_X11_10_9 rfl rfl ?_
          refine h_iload_n dX11_foot_46 rfl ?_
          refine h_cV1 dX11_foot_47 k3_85 oVX10_footOf rfl rfl ?_
          refine c_footOf hG hk ?_
          refine h_istore_n dX11_foot_50 (Nat.le_of_ble_eq_true rfl) ?_
          refine h_iload_n dX11_foot_51 rfl ?_
          refine h_ifne (tgt := 57) dX11_foot_52 rfl (fun _ => ?_) (fun c => absurd c (by decide))
          refine h_iload_n dX11_foot_57 rfl ?_
          refine h_iconst dX11_foot_58 ci_1 ?_
          refine h_icmpne (tgt := 75) dX11_foot_59 rfl (fun _ => ?_) (fun c => absurd c (by decide))
          refine h_iload_n dX11_foot_75 rfl ?_
          refine h_aload_n dX11_foot_76 rfl ?_
          refine h_getR dX11_foot_77 f_X11_10_9 rfl rfl ?_
          refine h_iload_n dX11_foot_80 rfl ?_
          refine h_cV1 dX11_foot_81 k3_95 oVX10_reachOf rfl rfl ?_
          refine c_reachOf hG hk b3 ?_
          refine h_iadd dX11_foot_84 ?_
          refine h_ireturn dX11_foot_85 rfl ?_
          rw [ftF_2 hk hn24 b3] at hQ
          exact hQ
        · refine h_ifne (tgt := 42) dX11_foot_36 rfl (fun c => absurd (by decide) c) (fun _ => ?_)
          refine h_ldc dX11_foot_39 k2_227 ?_
          refine h_ireturn dX11_foot_41 rfl ?_
          rw [ftF_n2 hk hn24 b3] at hQ
          exact hQ
      · exact absurd (by decide) b2
    · refine h_ifeq (tgt := 17) dX11_foot_5 rfl (fun _ => ?_) (fun c => absurd (by decide) c)
      refine h_ldc dX11_foot_17 k2_206 ?_
      refine h_ireturn dX11_foot_19 rfl ?_
      have hQ : Q (some (.int (cif _ _ _))) hSH I J (hRR lt tx) := hQ
      rw [cif_f (fun z => b1 z.1)] at hQ
      exact hQ
  show HV l mX11_foot (dp + 5) 0 0 0 [some (.ref 0), some (.int x), some (.int w), none] [] hSH I J (hRR lt tx) Q
  refine h_aload_n dX11_foot_0 rfl ?_
  refine h_iload_n dX11_foot_1 rfl ?_
  refine h_cV1 dX11_foot_2 k3_40 oVX11_isSight rfl rfl ?_
  refine c_isSight (n := nk) hnk (by omega) (fun b1 => ?_) (fun b1 => ?_)
  · refine h_ifeq (tgt := 17) dX11_foot_5 rfl (fun c => absurd c (by decide)) (fun _ => ?_)
    refine h_iload_n dX11_foot_8 rfl ?_
    refine h_iconst dX11_foot_9 ci_0 ?_
    refine h_iconst dX11_foot_10 ci_2 ?_
    refine h_cS3 dX11_foot_11 k2_154 oSX11_within rfl ?_
    refine c_X11_within (fun b2 => ?_) (fun b2 => ?_)
    · exfalso
      obtain ⟨wn, rfl, hw1, hw9⟩ := rng_ex (by omega) (by omega) b2.1 b2.2
      rcases (show wn = 0 ∨ wn = 1 ∨ wn = 2 by omega) with rfl | rfl | rfl
      · exact e_0 rfl
      · exact e_1 rfl
      · exact e_2 rfl
    · refine h_ifne (tgt := 20) dX11_foot_14 rfl (fun c => absurd (by decide) c) (fun _ => ?_)
      refine h_ldc dX11_foot_17 k2_206 ?_
      refine h_ireturn dX11_foot_19 rfl ?_
      have hQ : Q (some (.int (cif _ _ _))) hSH I J (hRR lt tx) := hQ
      rw [cif_f (fun z => b2 z.2)] at hQ
      exact hQ
  · refine h_ifeq (tgt := 17) dX11_foot_5 rfl (fun _ => ?_) (fun c => absurd (by decide) c)
    refine h_ldc dX11_foot_17 k2_206 ?_
    refine h_ireturn dX11_foot_19 rfl ?_
    have hQ : Q (some (.int (cif _ _ _))) hSH I J (hRR lt tx) := hQ
    rw [cif_f (fun z => b1 z.1)] at hQ
    exact hQ
theorem r_foot {l : Launch} {dp : Nat} {ns nl np ml nk nw : Nat} {pl fa fb sl pp pm ki fr tg wh bw : Nat → Nat} {rs sn : Nat → Int32} {fl : Nat → Bool} {qw : Nat → Nat → Nat → Nat → Bool} {I : hI} {J : hJ} {lt tx : Option Nat} {x w : Int32} {Q : hQ} (hG : rG I ns nl np ml nk nw pl fa fb sl pp pm ki fr tg wh bw rs sn fl qw) (hQ : ∀ I', RO I I' → Q (some (.int (ftF ns nl np ml nk nw pl fa fb sl pp pm ki fr tg wh bw rs sn qw x w))) hSH I' J (hRR lt tx)) : HC l mX12_foot (dp + 5) 0 0 [.ref 82, .int x, .int w] hSH I J (hRR lt tx) Q := by
  refine HC.of (by decide +kernel) rfl (Nat.le_of_ble_eq_true rfl) ?_
  obtain ⟨hN, hw, ⟨hnp, hml, hnk, hpt, hsi⟩, ⟨hn8, hm2, hn24, hpW, hsW⟩, hL⟩ := id hG
  obtain ⟨hns, hnl, hpl, hlg⟩ := id hN
  obtain ⟨hn6, hl12, hW, hp99, hr99⟩ := id hw
  by_cases e_0 : w = nI 0
  · subst e_0
    show HV l mX12_foot (dp + 5) 0 0 0 [some (.ref 82), some (.int x), some (.int (nI 0))] [] hSH I J (hRR lt tx) Q
    refine h_aload_n dX12_foot_0 rfl ?_
    refine h_iload_n dX12_foot_1 rfl ?_
    refine h_cV1 dX12_foot_2 k6_24 oVX12_isSight rfl rfl ?_
    refine r_isSight (n := nk) hnk (by omega) (fun b1 => ?_) (fun b1 => ?_)
    · refine h_ifeq (tgt := 17) dX12_foot_5 rfl (fun c => absurd c (by decide)) (fun _ => ?_)
      refine h_iload_n dX12_foot_8 rfl ?_
      refine h_iconst dX12_foot_9 ci_0 ?_
      refine h_iconst dX12_foot_10 ci_2 ?_
      refine h_cS3 dX12_foot_11 k5_172 oSX12_in rfl ?_
      refine c_X12_in (fun b2 => ?_) (fun b2 => ?_)
      · obtain ⟨k, hk, rfl⟩ := b1
        have q1 := hsW k hk
        have q2 := hp99 (fr k) (by omega)
        have q3 := hpW (tg k) (by omega)
        have q4 := aw_le q2 q3.1
        refine h_ifne (tgt := 20) dX12_foot_14 rfl (fun _ => ?_) (fun c => absurd c (by decide))
        refine h_aload_n dX12_foot_20 rfl ?_
        refine h_cV0 dX12_foot_21 k5_200 oVX12_findLevels rfl rfl ?_
        refine r_findLevels hN hw (fun a c b hLv => ?_)
        refine h_aload_n dX12_foot_24 rfl ?_
        refine h_aload_n dX12_foot_25 rfl ?_
        refine h_getR dX12_foot_26 f_X12_19_10 rfl rfl ?_
        refine h_bipush dX12_foot_29 cb_7 ?_
        refine h_iload_n dX12_foot_31 rfl ?_
        refine h_imulN dX12_foot_32 ?_
        refine h_iconst dX12_foot_33 ci_1 ?_
        refine h_iaddN dX12_foot_34 ?_
        refine h_ialdN (j := (7 * k) + 1) dX12_foot_35 rfl rfl (by omega) rfl (hsi k (by omega)).2.1 ?_
        refine h_cV1 dX12_foot_36 k5_213 oVX12_hasLevel rfl rfl ?_
        refine r_hasLevel (f := dist fa fb sl nl) (by omega) hLv.1 (bf_le 6) (fun b3 => ?_) (fun b3 => ?_)
        · refine h_ifne (tgt := 45) dX12_foot_39 rfl (fun _ => ?_) (fun c => absurd c (by decide))
          refine h_aload_n dX12_foot_45 rfl ?_
          refine h_iload_n dX12_foot_46 rfl ?_
          refine h_cV1 dX12_foot_47 k6_58 oVX12_sightFoot rfl rfl ?_
          refine r_sightFoot (I := upA (upA (upA I 90 a) 92 b) 91 c) hG hLv hk b3 (fun g1 g2 => ?_)
          refine h_iload_n dX12_foot_50 rfl ?_
          refine h_ifne (tgt := 58) dX12_foot_51 rfl (fun c => absurd (by decide) c) (fun _ => ?_)
          refine h_iconst dX12_foot_54 ci_0 ?_
          refine h_goto (tgt := 77) dX12_foot_55 rfl ?_
          refine h_iadd dX12_foot_77 ?_
          refine h_ireturn dX12_foot_78 rfl ?_
          have hQ := hQ _ (RO_tr (RO_l I a b c) (RO_f _ g1 g2))
          rw [ftF_0 hk hn24 b3] at hQ
          rw [show nI 0 = (0 : Int32) by decide, Int32.add_zero]
          exact hQ
        · refine h_ifne (tgt := 45) dX12_foot_39 rfl (fun c => absurd (by decide) c) (fun _ => ?_)
          refine h_ldc dX12_foot_42 k5_221 ?_
          refine h_ireturn dX12_foot_44 rfl ?_
          have hQ := hQ _ (RO_l I a b c)
          rw [ftF_n0 hk hn24 b3] at hQ
          exact hQ
      · exact absurd (by decide) b2
    · refine h_ifeq (tgt := 17) dX12_foot_5 rfl (fun _ => ?_) (fun c => absurd (by decide) c)
      refine h_ldc dX12_foot_17 k5_187 ?_
      refine h_ireturn dX12_foot_19 rfl ?_
      have hQ := hQ _ (RO_id I)
      have hQ : Q (some (.int (cif _ _ _))) hSH I J (hRR lt tx) := hQ
      rw [cif_f (fun z => b1 z.1)] at hQ
      exact hQ
  by_cases e_1 : w = nI 1
  · subst e_1
    show HV l mX12_foot (dp + 5) 0 0 0 [some (.ref 82), some (.int x), some (.int (nI 1))] [] hSH I J (hRR lt tx) Q
    refine h_aload_n dX12_foot_0 rfl ?_
    refine h_iload_n dX12_foot_1 rfl ?_
    refine h_cV1 dX12_foot_2 k6_24 oVX12_isSight rfl rfl ?_
    refine r_isSight (n := nk) hnk (by omega) (fun b1 => ?_) (fun b1 => ?_)
    · refine h_ifeq (tgt := 17) dX12_foot_5 rfl (fun c => absurd c (by decide)) (fun _ => ?_)
      refine h_iload_n dX12_foot_8 rfl ?_
      refine h_iconst dX12_foot_9 ci_0 ?_
      refine h_iconst dX12_foot_10 ci_2 ?_
      refine h_cS3 dX12_foot_11 k5_172 oSX12_in rfl ?_
      refine c_X12_in (fun b2 => ?_) (fun b2 => ?_)
      · obtain ⟨k, hk, rfl⟩ := b1
        have q1 := hsW k hk
        have q2 := hp99 (fr k) (by omega)
        have q3 := hpW (tg k) (by omega)
        have q4 := aw_le q2 q3.1
        refine h_ifne (tgt := 20) dX12_foot_14 rfl (fun _ => ?_) (fun c => absurd c (by decide))
        refine h_aload_n dX12_foot_20 rfl ?_
        refine h_cV0 dX12_foot_21 k5_200 oVX12_findLevels rfl rfl ?_
        refine r_findLevels hN hw (fun a c b hLv => ?_)
        refine h_aload_n dX12_foot_24 rfl ?_
        refine h_aload_n dX12_foot_25 rfl ?_
        refine h_getR dX12_foot_26 f_X12_19_10 rfl rfl ?_
        refine h_bipush dX12_foot_29 cb_7 ?_
        refine h_iload_n dX12_foot_31 rfl ?_
        refine h_imulN dX12_foot_32 ?_
        refine h_iconst dX12_foot_33 ci_1 ?_
        refine h_iaddN dX12_foot_34 ?_
        refine h_ialdN (j := (7 * k) + 1) dX12_foot_35 rfl rfl (by omega) rfl (hsi k (by omega)).2.1 ?_
        refine h_cV1 dX12_foot_36 k5_213 oVX12_hasLevel rfl rfl ?_
        refine r_hasLevel (f := dist fa fb sl nl) (by omega) hLv.1 (bf_le 6) (fun b3 => ?_) (fun b3 => ?_)
        · refine h_ifne (tgt := 45) dX12_foot_39 rfl (fun _ => ?_) (fun c => absurd c (by decide))
          refine h_aload_n dX12_foot_45 rfl ?_
          refine h_iload_n dX12_foot_46 rfl ?_
          refine h_cV1 dX12_foot_47 k6_58 oVX12_sightFoot rfl rfl ?_
          refine r_sightFoot (I := upA (upA (upA I 90 a) 92 b) 91 c) hG hLv hk b3 (fun g1 g2 => ?_)
          refine h_iload_n dX12_foot_50 rfl ?_
          refine h_ifne (tgt := 58) dX12_foot_51 rfl (fun _ => ?_) (fun c => absurd c (by decide))
          refine h_iload_n dX12_foot_58 rfl ?_
          refine h_iconst dX12_foot_59 ci_1 ?_
          refine h_icmpne (tgt := 72) dX12_foot_60 rfl (fun c => absurd (by decide) c) (fun _ => ?_)
          refine h_aload_n dX12_foot_63 rfl ?_
          refine h_iload_n dX12_foot_64 rfl ?_
          refine h_cV1 dX12_foot_65 k6_66 oVX12_widthOf rfl rfl ?_
          refine r_widthOf (I := upA (upA (upA (upA (upA I 90 a) 92 b) 91 c) 101 g1) 102 g2) hG hLv hk ?_
          refine h_ineg dX12_foot_68 ?_
          refine h_goto (tgt := 77) dX12_foot_69 rfl ?_
          refine h_iadd dX12_foot_77 ?_
          refine h_ireturn dX12_foot_78 rfl ?_
          have hQ := hQ _ (RO_tr (RO_l I a b c) (RO_f _ g1 g2))
          rw [ftF_1 hk hn24 b3] at hQ
          rw [Int32.sub_eq_add_neg] at hQ
          exact hQ
        · refine h_ifne (tgt := 45) dX12_foot_39 rfl (fun c => absurd (by decide) c) (fun _ => ?_)
          refine h_ldc dX12_foot_42 k5_221 ?_
          refine h_ireturn dX12_foot_44 rfl ?_
          have hQ := hQ _ (RO_l I a b c)
          rw [ftF_n1 hk hn24 b3] at hQ
          exact hQ
      · exact absurd (by decide) b2
    · refine h_ifeq (tgt := 17) dX12_foot_5 rfl (fun _ => ?_) (fun c => absurd (by decide) c)
      refine h_ldc dX12_foot_17 k5_187 ?_
      refine h_ireturn dX12_foot_19 rfl ?_
      have hQ := hQ _ (RO_id I)
      have hQ : Q (some (.int (cif _ _ _))) hSH I J (hRR lt tx) := hQ
      rw [cif_f (fun z => b1 z.1)] at hQ
      exact hQ
  by_cases e_2 : w = nI 2
  · subst e_2
    show HV l mX12_foot (dp + 5) 0 0 0 [some (.ref 82), some (.int x), some (.int (nI 2))] [] hSH I J (hRR lt tx) Q
    refine h_aload_n dX12_foot_0 rfl ?_
    refine h_iload_n dX12_foot_1 rfl ?_
    refine h_cV1 dX12_foot_2 k6_24 oVX12_isSight rfl rfl ?_
    refine r_isSight (n := nk) hnk (by omega) (fun b1 => ?_) (fun b1 => ?_)
    · refine h_ifeq (tgt := 17) dX12_foot_5 rfl (fun c => absurd c (by decide)) (fun _ => ?_)
      refine h_iload_n dX12_foot_8 rfl ?_
      refine h_iconst dX12_foot_9 ci_0 ?_
      refine h_iconst dX12_foot_10 ci_2 ?_
      refine h_cS3 dX12_foot_11 k5_172 oSX12_in rfl ?_
      refine c_X12_in (fun b2 => ?_) (fun b2 => ?_)
      · obtain ⟨k, hk, rfl⟩ := b1
        have q1 := hsW k hk
        have q2 := hp99 (fr k) (by omega)
        have q3 := hpW (tg k) (by omega)
        have q4 := aw_le q2 q3.1
        refine h_ifne (tgt := 20) dX12_foot_14 rfl (fun _ => ?_) (fun c => absurd c (by decide))
        refine h_aload_n dX12_foot_20 rfl ?_
        refine h_cV0 dX12_foot_21 k5_200 oVX12_findLevels rfl rfl ?_
        refine r_findLevels hN hw (fun a c b hLv => ?_)
        refine h_aload_n dX12_foot_24 rfl ?_
        refine h_aload_n dX12_foot_25 rfl ?_
        refine h_getR dX12_foot_26 f_X12_19_10 rfl rfl ?_
        refine h_bipush dX12_foot_29 cb_7 ?_
        refine h_iload_n dX12_foot_31 rfl ?_
        refine h_imulN dX12_foot_32 ?_
        refine h_iconst dX12_foot_33 ci_1 ?_
        refine h_iaddN dX12_foot_34 ?_
        refine h_ialdN (j := (7 * k) + 1) dX12_foot_35 rfl rfl (by omega) rfl (hsi k (by omega)).2.1 ?_
        refine h_cV1 dX12_foot_36 k5_213 oVX12_hasLevel rfl rfl ?_
        refine r_hasLevel (f := dist fa fb sl nl) (by omega) hLv.1 (bf_le 6) (fun b3 => ?_) (fun b3 => ?_)
        · refine h_ifne (tgt := 45) dX12_foot_39 rfl (fun _ => ?_) (fun c => absurd c (by decide))
          refine h_aload_n dX12_foot_45 rfl ?_
          refine h_iload_n dX12_foot_46 rfl ?_
          refine h_cV1 dX12_foot_47 k6_58 oVX12_sightFoot rfl rfl ?_
          refine r_sightFoot (I := upA (upA (upA I 90 a) 92 b) 91 c) hG hLv hk b3 (fun g1 g2 => ?_)
          refine h_iload_n dX12_foot_50 rfl ?_
          refine h_ifne (tgt := 58) dX12_foot_51 rfl (fun _ => ?_) (fun c => absurd c (by decide))
          refine h_iload_n dX12_foot_58 rfl ?_
          refine h_iconst dX12_foot_59 ci_1 ?_
          refine h_icmpne (tgt := 72) dX12_foot_60 rfl (fun _ => ?_) (fun c => absurd c (by decide))
          refine h_aload_n dX12_foot_72 rfl ?_
          refine h_iload_n dX12_foot_73 rfl ?_
          refine h_cV1 dX12_foot_74 k6_66 oVX12_widthOf rfl rfl ?_
          refine r_widthOf (I := upA (upA (upA (upA (upA I 90 a) 92 b) 91 c) 101 g1) 102 g2) hG hLv hk ?_
          refine h_iadd dX12_foot_77 ?_
          refine h_ireturn dX12_foot_78 rfl ?_
          have hQ := hQ _ (RO_tr (RO_l I a b c) (RO_f _ g1 g2))
          rw [ftF_2 hk hn24 b3] at hQ
          exact hQ
        · refine h_ifne (tgt := 45) dX12_foot_39 rfl (fun c => absurd (by decide) c) (fun _ => ?_)
          refine h_ldc dX12_foot_42 k5_221 ?_
          refine h_ireturn dX12_foot_44 rfl ?_
          have hQ := hQ _ (RO_l I a b c)
          rw [ftF_n2 hk hn24 b3] at hQ
          exact hQ
      · exact absurd (by decide) b2
    · refine h_ifeq (tgt := 17) dX12_foot_5 rfl (fun _ => ?_) (fun c => absurd (by decide) c)
      refine h_ldc dX12_foot_17 k5_187 ?_
      refine h_ireturn dX12_foot_19 rfl ?_
      have hQ := hQ _ (RO_id I)
      have hQ : Q (some (.int (cif _ _ _))) hSH I J (hRR lt tx) := hQ
      rw [cif_f (fun z => b1 z.1)] at hQ
      exact hQ
  show HV l mX12_foot (dp + 5) 0 0 0 [some (.ref 82), some (.int x), some (.int w)] [] hSH I J (hRR lt tx) Q
  refine h_aload_n dX12_foot_0 rfl ?_
  refine h_iload_n dX12_foot_1 rfl ?_
  refine h_cV1 dX12_foot_2 k6_24 oVX12_isSight rfl rfl ?_
  refine r_isSight (n := nk) hnk (by omega) (fun b1 => ?_) (fun b1 => ?_)
  · refine h_ifeq (tgt := 17) dX12_foot_5 rfl (fun c => absurd c (by decide)) (fun _ => ?_)
    refine h_iload_n dX12_foot_8 rfl ?_
    refine h_iconst dX12_foot_9 ci_0 ?_
    refine h_iconst dX12_foot_10 ci_2 ?_
    refine h_cS3 dX12_foot_11 k5_172 oSX12_in rfl ?_
    refine c_X12_in (fun b2 => ?_) (fun b2 => ?_)
    · exfalso
      obtain ⟨wn, rfl, hw1, hw9⟩ := rng_ex (by omega) (by omega) b2.1 b2.2
      rcases (show wn = 0 ∨ wn = 1 ∨ wn = 2 by omega) with rfl | rfl | rfl
      · exact e_0 rfl
      · exact e_1 rfl
      · exact e_2 rfl
    · refine h_ifne (tgt := 20) dX12_foot_14 rfl (fun c => absurd (by decide) c) (fun _ => ?_)
      refine h_ldc dX12_foot_17 k5_187 ?_
      refine h_ireturn dX12_foot_19 rfl ?_
      have hQ := hQ _ (RO_id I)
      have hQ : Q (some (.int (cif _ _ _))) hSH I J (hRR lt tx) := hQ
      rw [cif_f (fun z => b2 z.2)] at hQ
      exact hQ
  · refine h_ifeq (tgt := 17) dX12_foot_5 rfl (fun _ => ?_) (fun c => absurd (by decide) c)
    refine h_ldc dX12_foot_17 k5_187 ?_
    refine h_ireturn dX12_foot_19 rfl ?_
    have hQ := hQ _ (RO_id I)
    have hQ : Q (some (.int (cif _ _ _))) hSH I J (hRR lt tx) := hQ
    rw [cif_f (fun z => b1 z.1)] at hQ
    exact hQ
