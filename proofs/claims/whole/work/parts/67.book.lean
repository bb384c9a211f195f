def okB (np nk : Nat) (im : Nat → Int32) (p c : Nat) : Prop := (-99 ≤ im p ∧ im p ≤ nI 999) ∧ p < np ∧ nk + c < 24
noncomputable def bkN (np nk : Nat) (im : Nat → Int32) : Nat → Nat
  | 0 => 0
  | p + 1 => @ite _ (okB np nk im p (bkN np nk im p)) (Classical.propDecidable _) (bkN np nk im p + 1) (bkN np nk im p)
noncomputable def bkU (np nk : Nat) (im : Nat → Int32) (v f : Nat → Nat) : Nat → Nat → Nat
  | 0 => f
  | p + 1 => @ite _ (okB np nk im p (bkN np nk im p)) (Classical.propDecidable _) (upn (bkU np nk im v f p) (nk + bkN np nk im p) (v p)) (bkU np nk im v f p)
noncomputable def bkD (np nk : Nat) (im : Nat → Int32) (f : Nat → Int32) : Nat → Nat → Int32
  | 0 => f
  | p + 1 => @ite _ (okB np nk im p (bkN np nk im p)) (Classical.propDecidable _) (upd (bkD np nk im f p) (nk + bkN np nk im p) (im p)) (bkD np nk im f p)
noncomputable def bkT (np nk : Nat) (im : Nat → Int32) (f : Nat → Bool) : Nat → Nat → Bool
  | 0 => f
  | p + 1 => @ite _ (okB np nk im p (bkN np nk im p)) (Classical.propDecidable _) (upt (bkT np nk im f p) (nk + bkN np nk im p)) (bkT np nk im f p)
section BOOK
variable {np nk p : Nat} {im : Nat → Int32} {v f : Nat → Nat} {g : Nat → Int32} {t : Nat → Bool}
theorem bkN_y (h : okB np nk im p (bkN np nk im p)) : bkN np nk im (p + 1) = bkN np nk im p + 1 := @if_pos _ (Classical.propDecidable _) h _ _ _
theorem bkN_n (h : ¬ okB np nk im p (bkN np nk im p)) : bkN np nk im (p + 1) = bkN np nk im p := @if_neg _ (Classical.propDecidable _) h _ _ _
theorem bkU_y (h : okB np nk im p (bkN np nk im p)) : bkU np nk im v f (p + 1) = upn (bkU np nk im v f p) (nk + bkN np nk im p) (v p) := @if_pos _ (Classical.propDecidable _) h _ _ _
theorem bkU_n (h : ¬ okB np nk im p (bkN np nk im p)) : bkU np nk im v f (p + 1) = bkU np nk im v f p := @if_neg _ (Classical.propDecidable _) h _ _ _
theorem bkD_y (h : okB np nk im p (bkN np nk im p)) : bkD np nk im g (p + 1) = upd (bkD np nk im g p) (nk + bkN np nk im p) (im p) := @if_pos _ (Classical.propDecidable _) h _ _ _
theorem bkD_n (h : ¬ okB np nk im p (bkN np nk im p)) : bkD np nk im g (p + 1) = bkD np nk im g p := @if_neg _ (Classical.propDecidable _) h _ _ _
theorem bkT_y (h : okB np nk im p (bkN np nk im p)) : bkT np nk im t (p + 1) = upt (bkT np nk im t p) (nk + bkN np nk im p) := @if_pos _ (Classical.propDecidable _) h _ _ _
theorem bkT_n (h : ¬ okB np nk im p (bkN np nk im p)) : bkT np nk im t (p + 1) = bkT np nk im t p := @if_neg _ (Classical.propDecidable _) h _ _ _
end BOOK
theorem bkN_le {np nk : Nat} {im : Nat → Int32} (p : Nat) : bkN np nk im p ≤ p := by
  induction p with
  | zero => exact Nat.le_refl 0
  | succ p h =>
    by_cases e : okB np nk im p (bkN np nk im p)
    · rw [bkN_y e]; omega
    · rw [bkN_n e]; omega
theorem r999b {r : Int32} (h1 : -99 ≤ r.toInt) (h2 : r.toInt ≤ 999) : -99 ≤ r ∧ r ≤ nI 999 := by
  rw [Int32.le_iff_toInt_le, Int32.le_iff_toInt_le, nI_toInt (by omega), show (-99 : Int32).toInt = -99 by decide]
  exact ⟨h1, h2⟩
def BC (I I2 : hI) : Prop := ∃ g20 g21 g22 g23 g24 v1_6 v1_12, I2 = (upI (upI (upA (upA (upA (upA (upA I 20 g20) 21 g21) 22 g22) 23 g23) 24 g24) 1 6 v1_6) 1 12 v1_12)
theorem BC_iff {I I2 : hI} : BC I I2 ↔ (∀ x, x ≠ 20 → x ≠ 21 → x ≠ 22 → x ≠ 23 → x ≠ 24 → x ≠ 1 → I2 x = I x) ∧ ∀ j, j ≠ 6 → j ≠ 12 → I2 1 j = I 1 j := by
  constructor
  · rintro ⟨g20, g21, g22, g23, g24, v1_6, v1_12, rfl⟩
    refine ⟨fun x h20 h21 h22 h23 h24 h1 => ?_, fun j q6 q12 => ?_⟩
    · simp [upA, upI, h20, h21, h22, h23, h24, h1]
    · simp [upA, upI, upd, q6, q12]
  · rintro ⟨h, f1⟩
    refine ⟨I2 20, I2 21, I2 22, I2 23, I2 24, I2 1 6, I2 1 12, ?_⟩
    funext x
    by_cases e20 : x = 20
    · subst e20; simp [upA, upI]
    · skip
      by_cases e21 : x = 21
      · subst e21; simp [upA, upI]
      · skip
        by_cases e22 : x = 22
        · subst e22; simp [upA, upI]
        · skip
          by_cases e23 : x = 23
          · subst e23; simp [upA, upI]
          · skip
            by_cases e24 : x = 24
            · subst e24; simp [upA, upI]
            · skip
              by_cases e1 : x = 1
              · subst e1
                funext j
                by_cases q6 : j = 6
                · subst q6; simp [upA, upI, upd]
                · skip
                  by_cases q12 : j = 12
                  · subst q12; simp [upA, upI, upd]
                  · skip
                    simp [upA, upI, upd, q6, q12, f1 j q6 q12]
              · skip
                simp [upA, upI, e20, e21, e22, e23, e24, e1, h x e20 e21 e22 e23 e24 e1]
theorem BC_id (I : hI) : BC I I := BC_iff.mpr ⟨fun x _ _ _ _ _ _ => rfl, fun j _ _ => rfl⟩
theorem BC_tr {I I2 I3 : hI} (k1 : BC I I2) (k2 : BC I2 I3) : BC I I3 := BC_iff.mpr ⟨fun x h20 h21 h22 h23 h24 h1 => ((BC_iff.mp k2).1 x h20 h21 h22 h23 h24 h1).trans ((BC_iff.mp k1).1 x h20 h21 h22 h23 h24 h1), fun j q6 q12 => ((BC_iff.mp k2).2 j q6 q12).trans ((BC_iff.mp k1).2 j q6 q12)⟩
def BR2 (I I2 : hI) : Prop := ∃ g86 v82_7, I2 = (upI (upA I 86 g86) 82 7 v82_7)
theorem BR2_iff {I I2 : hI} : BR2 I I2 ↔ (∀ x, x ≠ 86 → x ≠ 82 → I2 x = I x) ∧ ∀ j, j ≠ 7 → I2 82 j = I 82 j := by
  constructor
  · rintro ⟨g86, v82_7, rfl⟩
    refine ⟨fun x h86 h82 => ?_, fun j q7 => ?_⟩
    · simp [upA, upI, h86, h82]
    · simp [upA, upI, upd, q7]
  · rintro ⟨h, f82⟩
    refine ⟨I2 86, I2 82 7, ?_⟩
    funext x
    by_cases e86 : x = 86
    · subst e86; simp [upA, upI]
    · skip
      by_cases e82 : x = 82
      · subst e82
        funext j
        by_cases q7 : j = 7
        · subst q7; simp [upA, upI, upd]
        · skip
          simp [upA, upI, upd, q7, f82 j q7]
      · skip
        simp [upA, upI, e86, e82, h x e86 e82]
theorem BR2_id (I : hI) : BR2 I I := BR2_iff.mpr ⟨fun x _ _ => rfl, fun j _ => rfl⟩
theorem BR2_tr {I I2 I3 : hI} (k1 : BR2 I I2) (k2 : BR2 I2 I3) : BR2 I I3 := BR2_iff.mpr ⟨fun x h86 h82 => ((BR2_iff.mp k2).1 x h86 h82).trans ((BR2_iff.mp k1).1 x h86 h82), fun j q7 => ((BR2_iff.mp k2).2 j q7).trans ((BR2_iff.mp k1).2 j q7)⟩
def cGb (I : hI) (ns nl np ml nk nw : Nat) (pl fa fb sl pp pm ki fr tg wh bw : Nat → Nat) (rs sn : Nat → Int32) (fl : Nat → Bool) (qw : Nat → Nat → Nat → Nat → Bool) (s : Nat) (im : Nat → Int32) (p : Nat) : Prop := cG I ns nl np ml (nk + bkN np nk im p) nw pl fa fb sl pp pm (bkU np nk im (fun _ => 2) ki p) (bkU np nk im (fun _ => s) fr p) (bkU np nk im (fun q => q) tg p) (bkU np nk im (fun _ => 1220) wh p) bw rs (bkD np nk im sn p) (bkT np nk im fl p) qw
def rGb (I : hI) (ns nl np ml nk nw : Nat) (pl fa fb sl pp pm ki fr tg wh bw : Nat → Nat) (rs sn : Nat → Int32) (fl : Nat → Bool) (qw : Nat → Nat → Nat → Nat → Bool) (s : Nat) (im : Nat → Int32) (p : Nat) : Prop := rG I ns nl np ml (nk + bkN np nk im p) nw pl fa fb sl pp pm (bkU np nk im (fun _ => 2) ki p) (bkU np nk im (fun _ => s) fr p) (bkU np nk im (fun q => q) tg p) (bkU np nk im (fun _ => 1220) wh p) bw rs (bkD np nk im sn p) (bkT np nk im fl p) qw
theorem cGb_n {ns nl np ml nk nw : Nat} {pl fa fb sl pp pm ki fr tg wh bw : Nat → Nat} {rs sn : Nat → Int32} {fl : Nat → Bool} {qw : Nat → Nat → Nat → Nat → Bool} {I : hI} {s : Nat} {im : Nat → Int32} {p : Nat} (h : cGb I ns nl np ml nk nw pl fa fb sl pp pm ki fr tg wh bw rs sn fl qw s im p) (e : ¬ okB np nk im p (bkN np nk im p)) : cGb I ns nl np ml nk nw pl fa fb sl pp pm ki fr tg wh bw rs sn fl qw s im (p + 1) := by
  unfold cGb at h ⊢
  rw [bkN_n e, bkU_n e, bkU_n e, bkU_n e, bkU_n e, bkD_n e, bkT_n e]
  exact h
theorem rGb_n {ns nl np ml nk nw : Nat} {pl fa fb sl pp pm ki fr tg wh bw : Nat → Nat} {rs sn : Nat → Int32} {fl : Nat → Bool} {qw : Nat → Nat → Nat → Nat → Bool} {I : hI} {s : Nat} {im : Nat → Int32} {p : Nat} (h : rGb I ns nl np ml nk nw pl fa fb sl pp pm ki fr tg wh bw rs sn fl qw s im p) (e : ¬ okB np nk im p (bkN np nk im p)) : rGb I ns nl np ml nk nw pl fa fb sl pp pm ki fr tg wh bw rs sn fl qw s im (p + 1) := by
  unfold rGb at h ⊢
  rw [bkN_n e, bkU_n e, bkU_n e, bkU_n e, bkU_n e, bkD_n e, bkT_n e]
  exact h
theorem cGb_y {ns nl np ml nk nw : Nat} {pl fa fb sl pp pm ki fr tg wh bw : Nat → Nat} {rs sn : Nat → Int32} {fl : Nat → Bool} {qw : Nat → Nat → Nat → Nat → Bool} {I : hI} {s : Nat} {im : Nat → Int32} {p : Nat} (h : cGb I ns nl np ml nk nw pl fa fb sl pp pm ki fr tg wh bw rs sn fl qw s im p) (hs : s < ns) (e : okB np nk im p (bkN np nk im p)) : cGb (upI (upI (upI (upI (upI (upI (upI I 20 (nk + bkN np nk im p) (nI 2)) 21 (nk + bkN np nk im p) (nI s)) 22 (nk + bkN np nk im p) (nI p)) 23 (nk + bkN np nk im p) (im p)) 24 (nk + bkN np nk im p) (nI 1220)) 1 12 (I 1 12 &&& ((nI 1 <<< (nI (nk + bkN np nk im p) &&& 31)) ^^^ -1))) 1 6 (nI ((nk + bkN np nk im p) + 1))) ns nl np ml nk nw pl fa fb sl pp pm ki fr tg wh bw rs sn fl qw s im (p + 1) := by
  unfold cGb at h ⊢
  rw [bkN_y e, bkU_y e, bkU_y e, bkU_y e, bkU_y e, bkD_y e, bkT_y e]
  obtain ⟨e1, e2, e3⟩ := e
  obtain ⟨hu1, hu2⟩ := r999 e1
  exact cG_sight (kn := 2) (w := 1220) h (by omega) (by omega) hs e2 hu1 hu2 (by omega) (by omega) e3
theorem rGb_y {ns nl np ml nk nw : Nat} {pl fa fb sl pp pm ki fr tg wh bw : Nat → Nat} {rs sn : Nat → Int32} {fl : Nat → Bool} {qw : Nat → Nat → Nat → Nat → Bool} {I : hI} {s : Nat} {im : Nat → Int32} {p : Nat} (h : rGb I ns nl np ml nk nw pl fa fb sl pp pm ki fr tg wh bw rs sn fl qw s im p) (hs : s < ns) (e : okB np nk im p (bkN np nk im p)) : rGb (upI (upI (upI (upI (upI (upI (upI (upI I 86 (7 * (nk + bkN np nk im p)) (nI 2)) 86 (7 * (nk + bkN np nk im p) + 1) (nI s)) 86 (7 * (nk + bkN np nk im p) + 2) (nI p)) 86 (7 * (nk + bkN np nk im p) + 3) (im p)) 86 (7 * (nk + bkN np nk im p) + 4) (nI 12)) 86 (7 * (nk + bkN np nk im p) + 5) (nI 20)) 86 (7 * (nk + bkN np nk im p) + 6) (nI 1)) 82 7 (nI ((nk + bkN np nk im p) + 1))) ns nl np ml nk nw pl fa fb sl pp pm ki fr tg wh bw rs sn fl qw s im (p + 1) := by
  unfold rGb at h ⊢
  rw [bkN_y e, bkU_y e, bkU_y e, bkU_y e, bkU_y e, bkD_y e, bkT_y e]
  obtain ⟨e1, e2, e3⟩ := e
  obtain ⟨hu1, hu2⟩ := r999 e1
  exact rG_sight (kn := 2) (w := 1220) h (by omega) (by omega) hs e2 hu1 hu2 (by omega) (by omega) e3
theorem bk_le {i z p : Nat} (hi : i < 2147483648) (hz : z ≤ 40) (hp : p ≤ 8) : nI i ≤ nI z - nI 1 - nI p ↔ i + p < z := by
  have e1 : (nI z - nI 1).toInt = (z : Int) - 1 := by
    rw [sb_sub (by rw [nI_toInt (by omega), nI_toInt (by omega)]; omega) (by rw [nI_toInt (by omega), nI_toInt (by omega)]; omega), nI_toInt (by omega), nI_toInt (by omega)]
    omega
  have e2 : (nI z - nI 1 - nI p).toInt = (z : Int) - 1 - p := by
    rw [sb_sub (by rw [e1, nI_toInt (by omega)]; omega) (by rw [e1, nI_toInt (by omega)]; omega), e1, nI_toInt (by omega)]
  rw [Int32.le_iff_toInt_le, nI_toInt hi, e2]
  omega
theorem c_book {l : Launch} {dp : Nat} {ns nl np ml nk nw : Nat} {pl fa fb sl pp pm ki fr tg wh bw : Nat → Nat} {rs sn : Nat → Int32} {fl : Nat → Bool} {qw : Nat → Nat → Nat → Nat → Bool} {I : hI} {J : hJ} {lt tx : Option Nat} {so : Nat → Int32} {si : Nat → Nat} {it : Nat → Nat → Int64} {s t i n : Nat} {Q : hQ} (hG : cG I ns nl np ml nk nw pl fa fb sl pp pm ki fr tg wh bw rs sn fl qw) (hS : cSh I J so si it) (hs : s < ns) (ht : t < 4) (hi : i < 2147483648) (hn : n ≤ 8) (hso : so t = nI 1) (hQ : ∀ I', BC I I' → cGb I' ns nl np ml nk nw pl fa fb sl pp pm ki fr tg wh bw rs sn fl qw s (fun q => (it t (i + q)).toInt32) (if si t - i < n then si t - i else n) → Q (some (.int (if si t - i < n then -12 else nI (bkN np nk (fun q => (it t (i + q)).toInt32) n)))) hSH I' J (hRR lt tx)) : HC l mX11_book (dp + 2) 0 0 [.ref 0, .int (nI s), .int (nI t), .int (nI i), .int (nI n)] hSH I J (hRR lt tx) Q := by
  refine HC.of (by decide +kernel) rfl (Nat.le_of_ble_eq_true rfl) ?_
  obtain ⟨⟨hN, hdo, hla, hlv⟩, hw, ⟨hnp, hml, hnk, hpt, hsi, hbt⟩, ⟨hn8, hm2, hn24, hpW, hsW⟩, hL⟩ := id hG
  obtain ⟨hns, hnl, hpl, hlg⟩ := id hN
  obtain ⟨hn6, hl12, hW, hp99, hr99⟩ := id hw
  obtain ⟨w1, w2, w3, w4, w5⟩ := hS t ht
  have Lo : ∀ (m p : Nat) (I2 : hI), n - p < m → p ≤ n → p ≤ si t - i → BC I I2 → cGb I2 ns nl np ml nk nw pl fa fb sl pp pm ki fr tg wh bw rs sn fl qw s (fun q => (it t (i + q)).toInt32) p → ∀ (z5 : Int32) (z8 : Option Value), HV l mX11_book (dp + 2) 0 0 50 [some (.ref 0), some (.int (nI s)), some (.int (nI t)), some (.int (nI i)), some (.int (nI n)), some (.int z5), some (.int (nI (bkN np nk (fun q => (it t (i + q)).toInt32) p))), some (.int (nI p)), z8] [] hSH I2 J (hRR lt tx) Q := by
    intro m
    induction m with
    | zero => intro p I2 h1 h2; omega
    | succ m ih =>
      intro p I2 h1 h2 h3 hR hGp z5 z8
      have hGq : cG I2 ns nl np ml (nk + bkN np nk (fun q => (it t (i + q)).toInt32) p) nw pl fa fb sl pp pm (bkU np nk (fun q => (it t (i + q)).toInt32) (fun _ => 2) ki p) (bkU np nk (fun q => (it t (i + q)).toInt32) (fun _ => s) fr p) (bkU np nk (fun q => (it t (i + q)).toInt32) (fun q => q) tg p) (bkU np nk (fun q => (it t (i + q)).toInt32) (fun _ => 1220) wh p) bw rs (bkD np nk (fun q => (it t (i + q)).toInt32) sn p) (bkT np nk (fun q => (it t (i + q)).toInt32) fl p) qw := hGp
      obtain ⟨⟨hN, hdo, hla, hlv⟩, hw2, ⟨hnp2, hml2, hnk2, hpt2, hsi2, hbt2⟩, hv2, hL2⟩ := id hGq
      have hn24b := hv2.2.2.1
      have w22 : I2 64 t = nI (si t) := by rw [show I2 64 = I 64 from (BC_iff.mp hR).1 64 (by decide) (by decide) (by decide) (by decide) (by decide) (by decide)]; exact w2
      have hcb := bkN_le (np := np) (nk := nk) (im := (fun q => (it t (i + q)).toInt32)) p
      refine h_iload dX11_book_50 rfl ?_
      refine h_iload dX11_book_52 rfl ?_
      refine h_icmpge (tgt := 149) dX11_book_54 rfl (fun c_54 => ?_) (fun c_54 => ?_)
      · rw [nI_leI (by omega) (by omega)] at c_54
        refine h_iload dX11_book_149 rfl ?_
        refine h_ireturn dX11_book_151 rfl ?_
        have e9 : p = n := by omega
        subst e9
        have h12 := hQ I2 hR (by rw [if_neg (by omega)]; exact hGp)
        rw [if_neg (by omega)] at h12
        exact h12
      · rw [nI_leI (by omega) (by omega)] at c_54
        refine h_iload_n dX11_book_57 rfl ?_
        refine h_iflt (tgt := 74) dX11_book_58 rfl (fun c_58 => ?_) (fun c_58 => ?_)
        · rw [show (0 : Int32) = nI 0 from rfl, nI_ltI (by omega) (by omega)] at c_58
          exact absurd c_58 (by omega)
        · rw [show (0 : Int32) = nI 0 from rfl, nI_ltI (by omega) (by omega)] at c_58
          refine h_iload_n dX11_book_61 rfl ?_
          refine h_aload_n dX11_book_62 rfl ?_
          refine h_getR dX11_book_63 f_X11_57_9 rfl rfl ?_
          refine h_iload_n dX11_book_66 rfl ?_
          refine h_ialdN (j := t) dX11_book_67 rfl rfl (by omega) rfl w22 ?_
          refine h_iload dX11_book_68 rfl ?_
          refine h_isubN dX11_book_70 (show p ≤ si t by omega) ?_
          refine h_icmplt (tgt := 77) dX11_book_71 rfl (fun c_71 => ?_) (fun c_71 => ?_)
          · rw [nI_ltI (by omega) (by omega)] at c_71
            refine h_aload_n dX11_book_77 rfl ?_
            refine h_getR dX11_book_78 f_X11_60_9 rfl rfl ?_
            refine h_iload_n dX11_book_81 rfl ?_
            refine h_bipush dX11_book_82 cb_40 ?_
            refine h_imulN dX11_book_84 ?_
            refine h_iload_n dX11_book_85 rfl ?_
            refine h_iaddN dX11_book_86 ?_
            refine h_iload dX11_book_87 rfl ?_
            refine h_iaddN dX11_book_89 ?_
            refine h_laldN (j := 40 * t + (i + p)) dX11_book_90 rfl (by rw [Nat.mul_comm t 40, Nat.add_assoc]) (by omega) rfl (w5 (i + p) (by omega)) ?_
            refine h_l2i dX11_book_91 ?_
            refine h_istore dX11_book_92 (Nat.le_of_ble_eq_true rfl) ?_
            refine h_iload dX11_book_94 rfl ?_
            refine h_cS1 dX11_book_96 k3_26 oSX11_isSlant rfl ?_
            refine c_X11_isSlant (fun b1 => ?_) (fun b1 => ?_)
            · refine h_ifeq (tgt := 143) dX11_book_99 rfl (fun c => absurd c (by decide)) (fun _ => ?_)
              refine h_aload_n dX11_book_102 rfl ?_
              refine h_iload dX11_book_103 rfl ?_
              refine h_cV1 dX11_book_105 k3_11 oVX11_isPoint rfl rfl ?_
              refine c_isPoint (n := np) hnp2 (by omega) (fun b2 => ?_) (fun b2 => ?_)
              · refine h_ifeq (tgt := 143) dX11_book_108 rfl (fun c => absurd c (by decide)) (fun _ => ?_)
                refine h_aload_n dX11_book_111 rfl ?_
                refine h_getR dX11_book_112 f_X11_10_9 rfl rfl ?_
                refine h_getI dX11_book_115 f_X11_191_8 rfl hnk2 ?_
                refine h_bipush dX11_book_118 cb_24 ?_
                refine h_icmpge (tgt := 143) dX11_book_120 rfl (fun c_120 => ?_) (fun c_120 => ?_)
                · rw [nI_leI (by omega) (by omega)] at c_120
                  refine h_iinc (v := nI (p + 1)) dX11_book_143 rfl (nI_1 _) (Nat.le_of_ble_eq_true rfl) ?_
                  refine h_goto (tgt := 50) dX11_book_146 rfl ?_
                  have hnb : ¬ okB np nk (fun q => (it t (i + q)).toInt32) p (bkN np nk (fun q => (it t (i + q)).toInt32) p) := fun z => absurd z.2.2 (by omega)
                  have hih := ih (p + 1) I2 (by omega) (by omega) (by omega) hR (cGb_n hGp hnb) z5 (some (.int (it t (i + p)).toInt32))
                  rw [bkN_n hnb] at hih
                  exact hih
                · rw [nI_leI (by omega) (by omega)] at c_120
                  refine h_aload_n dX11_book_123 rfl ?_
                  refine h_getR dX11_book_124 f_X11_10_9 rfl rfl ?_
                  refine h_iconst dX11_book_127 ci_2 ?_
                  refine h_iload_n dX11_book_128 rfl ?_
                  refine h_iload dX11_book_129 rfl ?_
                  refine h_iload dX11_book_131 rfl ?_
                  refine h_sipush dX11_book_133 cs_1220 ?_
                  refine h_cV5 dX11_book_136 k3_32 oVX10_addSight rfl rfl ?_
                  refine c_addSight (I := I2) (w := 1220) hGq (by omega) ?_
                  refine h_pop dX11_book_139 rfl ?_
                  refine h_iinc (v := nI (bkN np nk (fun q => (it t (i + q)).toInt32) p + 1)) dX11_book_140 rfl (nI_1 _) (Nat.le_of_ble_eq_true rfl) ?_
                  refine h_iinc (v := nI (p + 1)) dX11_book_143 rfl (nI_1 _) (Nat.le_of_ble_eq_true rfl) ?_
                  refine h_goto (tgt := 50) dX11_book_146 rfl ?_
                  obtain ⟨p2, hp2, e2⟩ := b2
                  rw [nI_eq (by omega) (by omega)] at e2
                  subst e2
                  have hyb : okB np nk (fun q => (it t (i + q)).toInt32) p (bkN np nk (fun q => (it t (i + q)).toInt32) p) := ⟨b1, hp2, by omega⟩
                  rw [← bkN_y hyb]
                  refine ih (p + 1) _ (by omega) (by omega) (by omega) ?_ ?_ z5 (some (.int (it t (i + p)).toInt32))
                  · exact BC_tr hR (BC_iff.mpr ⟨fun x h20 h21 h22 h23 h24 h1 => by simp [upI, h20, h21, h22, h23, h24, h1], fun j q6 q12 => by simp [upI, upd, q6, q12]⟩)
                  · exact cGb_y hGp hs hyb
              · refine h_ifeq (tgt := 143) dX11_book_108 rfl (fun _ => ?_) (fun c => absurd (by decide) c)
                refine h_iinc (v := nI (p + 1)) dX11_book_143 rfl (nI_1 _) (Nat.le_of_ble_eq_true rfl) ?_
                refine h_goto (tgt := 50) dX11_book_146 rfl ?_
                have hnb : ¬ okB np nk (fun q => (it t (i + q)).toInt32) p (bkN np nk (fun q => (it t (i + q)).toInt32) p) := fun z => b2 ⟨p, z.2.1, rfl⟩
                have hih := ih (p + 1) I2 (by omega) (by omega) (by omega) hR (cGb_n hGp hnb) z5 (some (.int (it t (i + p)).toInt32))
                rw [bkN_n hnb] at hih
                exact hih
            · refine h_ifeq (tgt := 143) dX11_book_99 rfl (fun _ => ?_) (fun c => absurd (by decide) c)
              refine h_iinc (v := nI (p + 1)) dX11_book_143 rfl (nI_1 _) (Nat.le_of_ble_eq_true rfl) ?_
              refine h_goto (tgt := 50) dX11_book_146 rfl ?_
              have hnb : ¬ okB np nk (fun q => (it t (i + q)).toInt32) p (bkN np nk (fun q => (it t (i + q)).toInt32) p) := fun z => b1 z.1
              have hih := ih (p + 1) I2 (by omega) (by omega) (by omega) hR (cGb_n hGp hnb) z5 (some (.int (it t (i + p)).toInt32))
              rw [bkN_n hnb] at hih
              exact hih
          · rw [nI_ltI (by omega) (by omega)] at c_71
            refine h_bipush dX11_book_74 cb_m12 ?_
            refine h_ireturn dX11_book_76 rfl ?_
            have e9 : si t - i = p := by omega
            have h12 := hQ I2 hR (by rw [if_pos (by omega), e9]; exact hGp)
            rw [if_pos (by omega)] at h12
            exact h12
  show HV l mX11_book (dp + 2) 0 0 0 [some (.ref 0), some (.int (nI s)), some (.int (nI t)), some (.int (nI i)), some (.int (nI n)), none, none, none, none] [] hSH I J (hRR lt tx) Q
  refine h_aload_n dX11_book_0 rfl ?_
  refine h_iload_n dX11_book_1 rfl ?_
  refine h_cV1 dX11_book_2 k2_188 oVX11_isStation rfl rfl ?_
  refine c_isStation (n := ns) hns (by omega) (fun b1 => ?_) (fun b1 => ?_)
  · refine h_ifeq (tgt := 26) dX11_book_5 rfl (fun c => absurd c (by decide)) (fun _ => ?_)
    refine h_iload_n dX11_book_8 rfl ?_
    refine h_cS1 dX11_book_9 k4_46 oSX11_isSheet rfl ?_
    refine c_X11_isSheet (fun b2 => ?_) (fun b2 => ?_)
    · refine h_ifeq (tgt := 26) dX11_book_12 rfl (fun c => absurd c (by decide)) (fun _ => ?_)
      refine h_iload dX11_book_15 rfl ?_
      refine h_iconst dX11_book_17 ci_0 ?_
      refine h_bipush dX11_book_18 cb_8 ?_
      refine h_cS3 dX11_book_20 k2_154 oSX11_within rfl ?_
      refine c_X11_within (fun b3 => ?_) (fun b3 => ?_)
      · refine h_ifne (tgt := 28) dX11_book_23 rfl (fun _ => ?_) (fun c => absurd c (by decide))
        refine h_aload_n dX11_book_28 rfl ?_
        refine h_iload_n dX11_book_29 rfl ?_
        refine h_iconst dX11_book_30 ci_1 ?_
        refine h_cV2 dX11_book_31 k4_60 oVX11_refusalOfRow rfl rfl ?_
        refine c_refusal hS ht ?_
        rw [show rfs (so t) (nI 1) = nI 0 by rw [hso]; decide]
        refine h_istore dX11_book_34 (Nat.le_of_ble_eq_true rfl) ?_
        refine h_iload dX11_book_36 rfl ?_
        refine h_ifeq (tgt := 44) dX11_book_38 rfl (fun _ => ?_) (fun c => absurd (by decide) c)
        refine h_iconst dX11_book_44 ci_0 ?_
        refine h_istore dX11_book_45 (Nat.le_of_ble_eq_true rfl) ?_
        refine h_iconst dX11_book_47 ci_0 ?_
        refine h_istore dX11_book_48 (Nat.le_of_ble_eq_true rfl) ?_
        exact Lo (n + 1) 0 I (by omega) (by omega) (by omega) (BC_id I) hG _ _
      · exact absurd ⟨by rw [nI_leI (by omega) (by omega)]; omega, by rw [nI_leI (by omega) (by omega)]; omega⟩ b3
    · exact absurd ⟨by rw [nI_leI (by omega) (by omega)]; omega, by rw [nI_leI (by omega) (by omega)]; omega⟩ b2
  · exact absurd ⟨s, hs, rfl⟩ b1
theorem r_book {l : Launch} {dp : Nat} {ns nl np ml nk nw : Nat} {pl fa fb sl pp pm ki fr tg wh bw : Nat → Nat} {rs sn : Nat → Int32} {fl : Nat → Bool} {qw : Nat → Nat → Nat → Nat → Bool} {I : hI} {J : hJ} {lt tx : Option Nat} {so : Nat → Int32} {si : Nat → Nat} {it : Nat → Nat → Int64} {s t i n : Nat} {Q : hQ} (hG : rG I ns nl np ml nk nw pl fa fb sl pp pm ki fr tg wh bw rs sn fl qw) (hS : rSh I J so si it) (hs : s < ns) (ht : t < 4) (hi : i < 2147483648) (hn : n ≤ 8) (hso : so t = nI 1) (hQ : ∀ I', BR2 I I' → rGb I' ns nl np ml nk nw pl fa fb sl pp pm ki fr tg wh bw rs sn fl qw s (fun q => (it t (i + q)).toInt32) (if si t - i < n then si t - i else n) → Q (some (.int (if si t - i < n then -12 else nI (bkN np nk (fun q => (it t (i + q)).toInt32) n)))) hSH I' J (hRR lt tx)) : HC l mX12_book (dp + 3) 0 0 [.ref 82, .int (nI s), .int (nI t), .int (nI i), .int (nI n)] hSH I J (hRR lt tx) Q := by
  refine HC.of (by decide +kernel) rfl (Nat.le_of_ble_eq_true rfl) ?_
  obtain ⟨hN, hw, ⟨hnp, hml, hnk, hpt, hsi⟩, ⟨hn8, hm2, hn24, hpW, hsW⟩, hL⟩ := id hG
  obtain ⟨hns, hnl, hpl, hlg⟩ := id hN
  obtain ⟨hn6, hl12, hW, hp99, hr99⟩ := id hw
  obtain ⟨w1, w2, w3, w4, w5⟩ := hS t ht
  have Lo : ∀ (m p : Nat) (I2 : hI), n - p < m → p ≤ n → p ≤ si t - i → BR2 I I2 → rGb I2 ns nl np ml nk nw pl fa fb sl pp pm ki fr tg wh bw rs sn fl qw s (fun q => (it t (i + q)).toInt32) p → ∀ (z5 : Int32), HV l mX12_book (dp + 3) 0 0 50 [some (.ref 82), some (.int (nI s)), some (.int (nI t)), some (.int (nI i)), some (.int (nI n)), some (.int z5), some (.int (nI (bkN np nk (fun q => (it t (i + q)).toInt32) p))), some (.int (nI p))] [] hSH I2 J (hRR lt tx) Q := by
    intro m
    induction m with
    | zero => intro p I2 h1 h2; omega
    | succ m ih =>
      intro p I2 h1 h2 h3 hR hGp z5
      have hGq : rG I2 ns nl np ml (nk + bkN np nk (fun q => (it t (i + q)).toInt32) p) nw pl fa fb sl pp pm (bkU np nk (fun q => (it t (i + q)).toInt32) (fun _ => 2) ki p) (bkU np nk (fun q => (it t (i + q)).toInt32) (fun _ => s) fr p) (bkU np nk (fun q => (it t (i + q)).toInt32) (fun q => q) tg p) (bkU np nk (fun q => (it t (i + q)).toInt32) (fun _ => 1220) wh p) bw rs (bkD np nk (fun q => (it t (i + q)).toInt32) sn p) (bkT np nk (fun q => (it t (i + q)).toInt32) fl p) qw := hGp
      obtain ⟨hN, hw2, ⟨hnp2, hml2, hnk2, hpt2, hsi2⟩, hv2, hL2⟩ := id hGq
      have hn24b := hv2.2.2.1
      have w22 : I2 105 t = nI (si t) := by rw [show I2 105 = I 105 from (BR2_iff.mp hR).1 105 (by decide) (by decide)]; exact w2
      have hcb := bkN_le (np := np) (nk := nk) (im := (fun q => (it t (i + q)).toInt32)) p
      refine h_iload dX12_book_50 rfl ?_
      refine h_iload dX12_book_52 rfl ?_
      refine h_icmpge (tgt := 124) dX12_book_54 rfl (fun c_54 => ?_) (fun c_54 => ?_)
      · rw [nI_leI (by omega) (by omega)] at c_54
        refine h_iload dX12_book_124 rfl ?_
        refine h_ireturn dX12_book_126 rfl ?_
        have e9 : p = n := by omega
        subst e9
        have h12 := hQ I2 hR (by rw [if_neg (by omega)]; exact hGp)
        rw [if_neg (by omega)] at h12
        exact h12
      · rw [nI_leI (by omega) (by omega)] at c_54
        refine h_iload_n dX12_book_57 rfl ?_
        refine h_iflt (tgt := 76) dX12_book_58 rfl (fun c_58 => ?_) (fun c_58 => ?_)
        · rw [show (0 : Int32) = nI 0 from rfl, nI_ltI (by omega) (by omega)] at c_58
          exact absurd c_58 (by omega)
        · rw [show (0 : Int32) = nI 0 from rfl, nI_ltI (by omega) (by omega)] at c_58
          refine h_iload_n dX12_book_61 rfl ?_
          refine h_aload_n dX12_book_62 rfl ?_
          refine h_getR dX12_book_63 f_X12_77_10 rfl rfl ?_
          refine h_iload_n dX12_book_66 rfl ?_
          refine h_ialdN (j := t) dX12_book_67 rfl rfl (by omega) rfl w22 ?_
          refine h_iconst dX12_book_68 ci_1 ?_
          refine h_isub dX12_book_69 ?_
          refine h_iload dX12_book_70 rfl ?_
          refine h_isub dX12_book_72 ?_
          refine h_icmple (tgt := 79) dX12_book_73 rfl (fun c_73 => ?_) (fun c_73 => ?_)
          · have c_73 := (bk_le (by omega) (by omega) (by omega)).mp c_73
            refine h_iload dX12_book_79 rfl ?_
            refine h_aload_n dX12_book_81 rfl ?_
            refine h_iconst dX12_book_82 ci_2 ?_
            refine h_iload_n dX12_book_83 rfl ?_
            refine h_iload dX12_book_84 rfl ?_
            refine h_aload_n dX12_book_86 rfl ?_
            refine h_getR dX12_book_87 f_X12_80_10 rfl rfl ?_
            refine h_bipush dX12_book_90 cb_40 ?_
            refine h_iload_n dX12_book_92 rfl ?_
            refine h_imulN dX12_book_93 ?_
            refine h_iload_n dX12_book_94 rfl ?_
            refine h_iaddN dX12_book_95 ?_
            refine h_iload dX12_book_96 rfl ?_
            refine h_iaddN dX12_book_98 ?_
            refine h_laldN (j := 40 * t + (i + p)) dX12_book_99 rfl (by rw [Nat.add_assoc]) (by omega) rfl (w5 (i + p) (by omega)) ?_
            refine h_l2i dX12_book_100 ?_
            refine h_sipush dX12_book_101 cs_1220 ?_
            refine h_cV5 dX12_book_104 k7_12 oVX12_sight rfl rfl ?_
            refine r_sight (I := I2) hGq (fun eB => ?_) (fun eF => ?_) (fun kn s2 p2 w e1 e2 e3 e4 hk1 hk5 hs2 hp2 hu1 hu2 hw1 hw2 h24 => ?_)
            · refine h_iflt (tgt := 114) dX12_book_107 rfl (fun _ => ?_) (fun c => absurd (by decide) c)
              refine h_iconst dX12_book_114 ci_0 ?_
              refine h_iaddN dX12_book_115 ?_
              refine h_istore dX12_book_116 (Nat.le_of_ble_eq_true rfl) ?_
              refine h_iinc (v := nI (p + 1)) dX12_book_118 rfl (nI_1 _) (Nat.le_of_ble_eq_true rfl) ?_
              refine h_goto (tgt := 50) dX12_book_121 rfl ?_
              have hnb : ¬ okB np nk (fun q => (it t (i + q)).toInt32) p (bkN np nk (fun q => (it t (i + q)).toInt32) p) := fun z => eB ⟨⟨by decide, by decide⟩, ⟨s, hs, rfl⟩, ⟨p, z.2.1, rfl⟩, z.1, ⟨1220, rfl, by omega, by omega⟩⟩
              have hih := ih (p + 1) I2 (by omega) (by omega) (by omega) hR (rGb_n hGp hnb) z5
              rw [bkN_n hnb] at hih
              rw [Nat.add_zero]
              exact hih
            · refine h_iflt (tgt := 114) dX12_book_107 rfl (fun _ => ?_) (fun c => absurd (by decide) c)
              refine h_iconst dX12_book_114 ci_0 ?_
              refine h_iaddN dX12_book_115 ?_
              refine h_istore dX12_book_116 (Nat.le_of_ble_eq_true rfl) ?_
              refine h_iinc (v := nI (p + 1)) dX12_book_118 rfl (nI_1 _) (Nat.le_of_ble_eq_true rfl) ?_
              refine h_goto (tgt := 50) dX12_book_121 rfl ?_
              have hnb : ¬ okB np nk (fun q => (it t (i + q)).toInt32) p (bkN np nk (fun q => (it t (i + q)).toInt32) p) := fun z => absurd z.2.2 (by omega)
              have hih := ih (p + 1) I2 (by omega) (by omega) (by omega) hR (rGb_n hGp hnb) z5
              rw [bkN_n hnb] at hih
              rw [Nat.add_zero]
              exact hih
            · rw [nI_eq (by omega) (by omega)] at e1 e2 e3 e4
              subst e1
              subst e2
              subst e3
              subst e4
              refine h_iflt (tgt := 114) dX12_book_107 rfl (fun c_107 => ?_) (fun c_107 => ?_)
              · rw [show (0 : Int32) = nI 0 from rfl, nI_ltI (by omega) (by omega)] at c_107
                exact absurd c_107 (by omega)
              · rw [show (0 : Int32) = nI 0 from rfl, nI_ltI (by omega) (by omega)] at c_107
                refine h_iconst dX12_book_110 ci_1 ?_
                refine h_goto (tgt := 115) dX12_book_111 rfl ?_
                refine h_iaddN dX12_book_115 ?_
                refine h_istore dX12_book_116 (Nat.le_of_ble_eq_true rfl) ?_
                refine h_iinc (v := nI (p + 1)) dX12_book_118 rfl (nI_1 _) (Nat.le_of_ble_eq_true rfl) ?_
                refine h_goto (tgt := 50) dX12_book_121 rfl ?_
                have hyb : okB np nk (fun q => (it t (i + q)).toInt32) p (bkN np nk (fun q => (it t (i + q)).toInt32) p) := ⟨r999b hu1 hu2, hp2, h24⟩
                rw [← bkN_y hyb]
                refine ih (p + 1) _ (by omega) (by omega) (by omega) ?_ ?_ z5
                · exact BR2_tr hR (BR2_iff.mpr ⟨fun x h86 h82 => by simp [upI, h86, h82], fun j q7 => by simp [upI, upd, q7]⟩)
                · exact rGb_y hGp hs hyb
          · have c_73 : ¬ i + p < si t := fun z => c_73 ((bk_le (by omega) (by omega) (by omega)).mpr z)
            refine h_bipush dX12_book_76 cb_m12 ?_
            refine h_ireturn dX12_book_78 rfl ?_
            have e9 : si t - i = p := by omega
            have h12 := hQ I2 hR (by rw [if_pos (by omega), e9]; exact hGp)
            rw [if_pos (by omega)] at h12
            exact h12
  show HV l mX12_book (dp + 3) 0 0 0 [some (.ref 82), some (.int (nI s)), some (.int (nI t)), some (.int (nI i)), some (.int (nI n)), none, none, none] [] hSH I J (hRR lt tx) Q
  refine h_aload_n dX12_book_0 rfl ?_
  refine h_iload_n dX12_book_1 rfl ?_
  refine h_cV1 dX12_book_2 k5_179 oVX12_isStation rfl rfl ?_
  refine r_isStation (n := ns) hns (by omega) (fun b1 => ?_) (fun b1 => ?_)
  · refine h_ifeq (tgt := 26) dX12_book_5 rfl (fun c => absurd c (by decide)) (fun _ => ?_)
    refine h_iload_n dX12_book_8 rfl ?_
    refine h_cS1 dX12_book_9 k6_233 oSX12_isShelf rfl ?_
    refine c_X12_isShelf (fun b2 => ?_) (fun b2 => ?_)
    · refine h_ifeq (tgt := 26) dX12_book_12 rfl (fun c => absurd c (by decide)) (fun _ => ?_)
      refine h_iload dX12_book_15 rfl ?_
      refine h_iconst dX12_book_17 ci_0 ?_
      refine h_bipush dX12_book_18 cb_8 ?_
      refine h_cS3 dX12_book_20 k5_172 oSX12_in rfl ?_
      refine c_X12_in (fun b3 => ?_) (fun b3 => ?_)
      · refine h_ifne (tgt := 28) dX12_book_23 rfl (fun _ => ?_) (fun c => absurd c (by decide))
        refine h_aload_n dX12_book_28 rfl ?_
        refine h_iload_n dX12_book_29 rfl ?_
        refine h_iconst dX12_book_30 ci_1 ?_
        refine h_cV2 dX12_book_31 k7_4 oVX12_lacksSort rfl rfl ?_
        refine r_refusal hS ht ?_
        rw [show rfs (so t) (nI 1) = nI 0 by rw [hso]; decide]
        refine h_istore dX12_book_34 (Nat.le_of_ble_eq_true rfl) ?_
        refine h_iload dX12_book_36 rfl ?_
        refine h_ifeq (tgt := 44) dX12_book_38 rfl (fun _ => ?_) (fun c => absurd (by decide) c)
        refine h_iconst dX12_book_44 ci_0 ?_
        refine h_istore dX12_book_45 (Nat.le_of_ble_eq_true rfl) ?_
        refine h_iconst dX12_book_47 ci_0 ?_
        refine h_istore dX12_book_48 (Nat.le_of_ble_eq_true rfl) ?_
        exact Lo (n + 1) 0 I (by omega) (by omega) (by omega) (BR2_id I) hG _
      · exact absurd ⟨by rw [nI_leI (by omega) (by omega)]; omega, by rw [nI_leI (by omega) (by omega)]; omega⟩ b3
    · exact absurd ⟨by rw [nI_leI (by omega) (by omega)]; omega, by rw [nI_leI (by omega) (by omega)]; omega⟩ b2
  · exact absurd ⟨s, hs, rfl⟩ b1
