theorem sb_add {x y : Int32} (h1 : -2147483648 ≤ x.toInt + y.toInt) (h2 : x.toInt + y.toInt < 2147483648) : (x + y).toInt = x.toInt + y.toInt := by
  rw [Int32.toInt_add]
  exact Int.bmod_eq_of_le (by simpa using h1) (by simpa using h2)
theorem sb_sub {x y : Int32} (h1 : -2147483648 ≤ x.toInt - y.toInt) (h2 : x.toInt - y.toInt < 2147483648) : (x - y).toInt = x.toInt - y.toInt := by
  rw [Int32.toInt_sub]
  exact Int.bmod_eq_of_le (by simpa using h1) (by simpa using h2)
theorem sb_mul {x y : Int32} (h1 : -2147483648 ≤ x.toInt * y.toInt) (h2 : x.toInt * y.toInt < 2147483648) : (x * y).toInt = x.toInt * y.toInt := by
  rw [Int32.toInt_mul]
  exact Int.bmod_eq_of_le (by simpa using h1) (by simpa using h2)
def bd (x : Int32) (A : Nat) : Prop := x.toInt.natAbs ≤ A
theorem bd_w {x : Int32} {A B : Nat} (h : bd x A) (hB : A ≤ B) : bd x B := Nat.le_trans h hB
theorem bd_of {x : Int32} {A : Nat} (h1 : -(A : Int) ≤ x.toInt) (h2 : x.toInt ≤ A) : bd x A := by
  unfold bd; omega
theorem bd_nI {n A : Nat} (h : n ≤ A) (hA : A < 2147483648) : bd (nI n) A := by
  unfold bd; rw [nI_toInt (by omega)]; omega
theorem bd_add {x y : Int32} {A B : Nat} (hx : bd x A) (hy : bd y B) (h : A + B < 2147483648) : bd (x + y) (A + B) := by
  unfold bd at *
  rw [sb_add (by omega) (by omega)]
  omega
theorem bd_sub {x y : Int32} {A B : Nat} (hx : bd x A) (hy : bd y B) (h : A + B < 2147483648) : bd (x - y) (A + B) := by
  unfold bd at *
  rw [sb_sub (by omega) (by omega)]
  omega
theorem bd_mul {x y : Int32} {A B : Nat} (hx : bd x A) (hy : bd y B) (h : A * B < 2147483648) : bd (x * y) (A * B) := by
  unfold bd at *
  have h3 : (x.toInt * y.toInt).natAbs ≤ A * B := by rw [Int.natAbs_mul]; exact Nat.mul_le_mul hx hy
  rw [sb_mul (by omega) (by omega)]
  exact h3
theorem bd_div {x : Int32} {A c : Nat} (hx : bd x A) (hc : 1 ≤ c) (hcb : c < 2147483648) (h : A < 2147483648) : bd (x / nI c) A := by
  unfold bd at *
  have h3 : (x.toInt.tdiv (nI c).toInt).natAbs ≤ A := by
    rw [nI_toInt hcb, Int.natAbs_tdiv]
    exact Nat.le_trans (Nat.div_le_self _ _) hx
  rw [Int32.toInt_div, Int.bmod_eq_of_le (by simp; omega) (by simp; omega)]
  exact h3
theorem bd_neg {x : Int32} {A : Nat} (hx : bd x A) (h : A < 2147483648) : bd (-x) A := by
  have := bd_sub (x := 0) (A := 0) (by unfold bd; decide) hx (by omega)
  rw [Int32.zero_sub, Nat.zero_add] at this
  exact this
theorem bd_lev {fa fb sl f : Nat → Nat} {rs : Nat → Int32} {nl : Nat} (h : ∀ k, k < nl → bd (rs k) 99) : ∀ n s, n ≤ 1000 → bd (lev fa fb sl f rs nl n s) (99 * n)
  | 0, s, _ => by unfold lev bd; decide
  | n + 1, s, hn => by
    unfold lev
    cases e : lst fa fb sl f nl s with
    | none => unfold bd; simp
    | some k =>
      obtain ⟨-, -, hk, -⟩ := lst_some e
      have h1 := bd_lev (fa := fa) (fb := fb) (sl := sl) (f := f) h n (oth fa fb k s) (by omega)
      have h2 : bd (if fb k = s then rs k else - rs k) 99 := by
        by_cases q : fb k = s
        · rw [if_pos q]; exact h k hk
        · rw [if_neg q]; exact bd_neg (h k hk) (by omega)
      exact bd_w (bd_add h2 h1 (by omega)) (by omega)
theorem bd_lvl {fa fb sl : Nat → Nat} {rs : Nat → Int32} {nl s : Nat} (h : ∀ k, k < nl → -99 ≤ (rs k).toInt ∧ (rs k).toInt ≤ 99) : bd (lvl fa fb sl rs nl s) 594 := bd_lev (fun k hk => bd_of (by have := h k hk; omega) (by have := h k hk; omega)) 6 s (by omega)
theorem bd_lnS {x : Nat} {pp pm : Nat → Nat} : ∀ n, n ≤ 8 → (∀ p, p < n → pm p ≤ 99) → bd (lnS x pp pm n) (9900 * n)
  | 0, _, _ => by unfold lnS bd; decide
  | n + 1, h8, h => by
    have h1 := bd_lnS (x := x) (pp := pp) n (by omega) (fun p hp => h p (by omega))
    have h2 := lnQ_le (x := x) (y := pp n) (h n (by omega))
    unfold lnS
    have h3 : bd (if pp n < x then - nI (lnQ x (pp n) (pm n)) else nI (lnQ x (pp n) (pm n))) 9900 := by
      by_cases q : pp n < x
      · rw [if_pos q]; exact bd_neg (bd_nI h2 (by omega)) (by omega)
      · rw [if_neg q]; exact bd_nI h2 (by omega)
    exact bd_w (bd_add h1 h3 (by omega)) (by omega)
theorem ml4_le {ml : Nat} : ml4 ml ≤ 4 := by
  unfold ml4
  by_cases h : ml = 0
  · rw [if_pos h]; omega
  · rw [if_neg h]
    by_cases h : ml = 1
    · rw [if_pos h]; omega
    · rw [if_neg h]; omega
theorem bd_lean {x np ml : Nat} {pp pm : Nat → Nat} (h8 : np ≤ 8) (h : ∀ p, p < np → pm p ≤ 99) : bd (leanF x np pp pm ml) 316800 := by
  have h1 := bd_w (bd_lnS (x := x) (pp := pp) np h8 h) (show 9900 * np ≤ 79200 by omega)
  have h2 := bd_mul h1 (bd_nI (ml4_le (ml := ml)) (by omega)) (by omega)
  exact bd_div h2 (by omega) (by omega) (by omega)
theorem bdF_le {ki t a : Nat} (ht : t ≤ 99) (ha : a ≤ 999) : bdF ki t a ≤ 300 := by
  unfold bdF
  repeat' split
  all_goals omega
theorem bd_foot {lv ln sn : Int32} {ki t a : Nat} (h1 : bd lv 594) (h2 : bd ln 316800) (h3 : bd sn 999) (ht : t ≤ 99) (ha : a ≤ 999) : bd (footF lv ln sn ki t a) 318000000 := by
  unfold footF
  have q1 := bd_sub (bd_sub h3 (bd_nI (bdF_le (ki := ki) ht ha) (by omega)) (by omega)) h2 (by omega)
  have q2 := bd_div (bd_mul q1 (bd_nI ha (by omega)) (by omega)) (show 1 ≤ 10 by omega) (by omega) (by omega)
  have q3 : a * a / 200 ≤ 5000 := by
    have := Nat.mul_le_mul ha ha
    omega
  exact bd_w (bd_add (bd_add h1 q2 (by omega)) (bd_nI q3 (by omega)) (by omega)) (by omega)
def spB (o : Option (Int32 × Int32)) (B : Nat) : Prop := match o with
  | none => True
  | some q => bd q.1 B ∧ bd q.2 B
theorem spG_B {P : Nat → Bool} {lo hi : Nat → Int32} {B : Nat} : ∀ n, (∀ k, k < n → P k = true → bd (lo k) B ∧ bd (hi k) B) → spB (spG P lo hi n) B
  | 0, _ => trivial
  | n + 1, h => by
    have ih := spG_B (B := B) n (fun k hk => h k (by omega))
    unfold spG
    by_cases e : P n = true
    · rw [if_pos e]
      obtain ⟨h1, h2⟩ := h n (by omega) e
      cases e2 : spG P lo hi n with
      | none => exact ⟨h1, h2⟩
      | some q =>
        rw [e2] at ih
        obtain ⟨h3, h4⟩ := ih
        constructor
        · show bd (if q.1 < lo n then lo n else q.1) B
          by_cases c : q.1 < lo n
          · rw [if_pos c]; exact h1
          · rw [if_neg c]; exact h3
        · show bd (if hi n < q.2 then hi n else q.2) B
          by_cases c : hi n < q.2
          · rw [if_pos c]; exact h2
          · rw [if_neg c]; exact h4
    · rw [if_neg e]; exact ih
theorem sub_neg_lt {x y : Int32} {B : Nat} (hx : bd x B) (hy : bd y B) (hB : B ≤ 1000000000) : x - y < 0 ↔ x < y := by
  unfold bd at *
  rw [Int32.lt_iff_toInt_lt, Int32.lt_iff_toInt_lt, sb_sub (by omega) (by omega)]
  simp
  omega
theorem cntK_congr {P P' : Nat → Bool} : ∀ n, (∀ k, k < n → P k = P' k) → cntK P n = cntK P' n
  | 0, _ => rfl
  | n + 1, h => by
    unfold cntK
    rw [h n (by omega), cntK_congr n (fun k hk => h k (by omega))]
theorem nI_ne_neg {k : Nat} (hk : k < 1000) {e : Int32} (he : e < 0) : ¬ nI k = e := by
  intro h
  rw [← h] at he
  exact nI_pos (by omega) he
theorem inS_e {nl : Nat} {fa fb sl fr tg : Nat → Nat} {fl : Nat → Bool} {p k : Nat} (hk : k < 24) : inS nl fa fb sl fr tg fl p (-1) k = inS nl fa fb sl fr tg fl p (-9) k := by
  unfold inS
  rw [decide_eq_true (nI_ne_neg (e := -1) (by omega) (by decide)), decide_eq_true (nI_ne_neg (e := -9) (by omega) (by decide))]
theorem skF_le {ki a : Nat} (ha : a ≤ 999) : skF ki a ≤ 22 := by
  unfold skF
  repeat' split
  all_goals omega
theorem sp_B {ns nl np ml nk nw : Nat} {pl fa fb sl pp pm ki fr tg wh bw : Nat → Nat} {rs sn : Nat → Int32} {fl : Nat → Bool} {qw : Nat → Nat → Nat → Nat → Bool} {p : Nat} {e : Int32} (hw : netW ns nl pl fa fb sl rs) (hv : viewW ns np ml nk pp pm ki fr tg wh sn) (hb : ∀ ki aw wh, tol bw qw ki aw wh nw ≤ 99) : spB (spG (inS nl fa fb sl fr tg fl p e) (loK nl np ml nw pl fa fb sl pp pm ki fr tg wh bw rs sn qw) (hiK nl np ml nw pl fa fb sl pp pm ki fr tg wh bw rs sn qw) nk) 320000000 := by
  obtain ⟨hn6, hl12, hW, hp99, hr99⟩ := hw
  obtain ⟨hn8, hm2, hn24, hpW, hsW⟩ := hv
  refine spG_B nk (fun k hk hc => ?_)
  have q1 := hsW k hk
  have q2 := hp99 (fr k) (by omega)
  have q3 := hpW (tg k) (by omega)
  have q4 := aw_le q2 q3.1
  have q5 : bd (ftK nl np ml nw pl fa fb sl pp pm ki fr tg wh bw rs sn qw k) 318000000 := bd_foot (bd_lvl hr99) (bd_lean hn8 (fun p hp => (hpW p hp).2)) (bd_of (by omega) (by omega)) (hb _ _ _) q4
  have q6 : rcK nl pl fa fb sl pp ki fr tg k ≤ 1000022 := Nat.le_trans (Nat.add_le_add (skF_le q4) (bf_le 6 _)) (by omega)
  exact ⟨bd_w (bd_sub q5 (bd_nI q6 (by omega)) (by omega)) (by omega), bd_w (bd_add q5 (bd_nI q6 (by omega)) (by omega)) (by omega)⟩
def hgV (o9 ok : Option (Int32 × Int32)) : Int32 := match ok with
  | none => -9
  | some q => match o9 with
    | none => -4
    | some r => if r.2 < r.1 ∨ q.2 < q.1 then -4 else (q.2 - q.1) - (r.2 - r.1)
theorem hgV_4 {r q : Int32 × Int32} (h : r.2 < r.1 ∨ q.2 < q.1) : hgV (some r) (some q) = -4 := if_pos h
theorem hgV_w {r q : Int32 × Int32} (h1 : ¬ r.2 < r.1) (h2 : ¬ q.2 < q.1) : hgV (some r) (some q) = (q.2 - q.1) - (r.2 - r.1) := if_neg (fun z => z.elim h1 h2)
theorem spc_3 {o : Option (Int32 × Int32)} : spc o = -3 ↔ o = none := by
  cases o with
  | none => exact ⟨fun _ => rfl, fun _ => rfl⟩
  | some q =>
    refine ⟨fun h => ?_, fun h => by cases h⟩
    have h : (if q.2 < q.1 then (-4 : Int32) else nI 0) = -3 := h
    by_cases e : q.2 < q.1
    · rw [if_pos e] at h; exact absurd h (by decide)
    · rw [if_neg e] at h; exact absurd h (by decide)
theorem spc_4 {q : Int32 × Int32} : spc (some q) = -4 ↔ q.2 < q.1 := by
  show (if q.2 < q.1 then (-4 : Int32) else nI 0) = -4 ↔ _
  by_cases e : q.2 < q.1
  · rw [if_pos e]; exact ⟨fun _ => e, fun _ => rfl⟩
  · rw [if_neg e]; exact ⟨fun h => absurd h (by decide), fun h => absurd h e⟩
theorem inS_self {nl : Nat} {fa fb sl fr tg : Nat → Nat} {fl : Nat → Bool} {k : Nat} (hk : k < 24) (h : cnK nl fa fb sl fr fl k = true) : inS nl fa fb sl fr tg fl (tg k) (-9) k = true := by
  unfold inS
  rw [h, decide_eq_true rfl, decide_eq_true (nI_ne_neg (e := -9) (by omega) (by decide))]
  rfl
theorem spG_has {P : Nat → Bool} {lo hi : Nat → Int32} {k n : Nat} (hk : k < n) (h : P k = true) : ∃ q, spG P lo hi n = some q := by
  cases e : spG P lo hi n with
  | some q => exact ⟨q, rfl⟩
  | none =>
    exfalso
    have h0 := (spG_0 (P := P) (lo := lo) (hi := hi) n).mpr e
    have : ∀ m, k < m → cntK P m ≠ 0 := by
      intro m
      induction m with
      | zero => intro h; omega
      | succ m ih =>
        intro hm
        unfold cntK
        by_cases q : k = m
        · subst q; rw [h]; simp
        · have := ih (by omega); split <;> omega
    exact this n hk h0
noncomputable def hgF (ns nl np ml nk nw : Nat) (pl fa fb sl pp pm ki fr tg wh bw : Nat → Nat) (rs sn : Nat → Int32) (fl : Nat → Bool) (qw : Nat → Nat → Nat → Nat → Bool) (x : Int32) : Int32 := cif (isIx x nk) (cif (cnK nl fa fb sl fr fl x.toNatClampNeg = true) (hgV (spG (inS nl fa fb sl fr tg fl (tg x.toNatClampNeg) (-9)) (loK nl np ml nw pl fa fb sl pp pm ki fr tg wh bw rs sn qw) (hiK nl np ml nw pl fa fb sl pp pm ki fr tg wh bw rs sn qw) nk) (spG (inS nl fa fb sl fr tg fl (tg x.toNatClampNeg) (nI x.toNatClampNeg)) (loK nl np ml nw pl fa fb sl pp pm ki fr tg wh bw rs sn qw) (hiK nl np ml nw pl fa fb sl pp pm ki fr tg wh bw rs sn qw) nk)) (-3)) (-1)
theorem hgF_k {ns nl np ml nk nw : Nat} {pl fa fb sl pp pm ki fr tg wh bw : Nat → Nat} {rs sn : Nat → Int32} {fl : Nat → Bool} {qw : Nat → Nat → Nat → Nat → Bool} {k : Nat} (hk : k < nk) (hb : nk ≤ 24) (h : cnK nl fa fb sl fr fl k = true) : hgF ns nl np ml nk nw pl fa fb sl pp pm ki fr tg wh bw rs sn fl qw (nI k) = hgV (spG (inS nl fa fb sl fr tg fl (tg k) (-9)) (loK nl np ml nw pl fa fb sl pp pm ki fr tg wh bw rs sn qw) (hiK nl np ml nw pl fa fb sl pp pm ki fr tg wh bw rs sn qw) nk) (spG (inS nl fa fb sl fr tg fl (tg k) (nI k)) (loK nl np ml nw pl fa fb sl pp pm ki fr tg wh bw rs sn qw) (hiK nl np ml nw pl fa fb sl pp pm ki fr tg wh bw rs sn qw) nk) := by
  unfold hgF
  rw [cif_t ⟨k, hk, rfl⟩, nI_clamp (show k < 2 ^ 31 by omega), cif_t h]
theorem hgF_n {ns nl np ml nk nw : Nat} {pl fa fb sl pp pm ki fr tg wh bw : Nat → Nat} {rs sn : Nat → Int32} {fl : Nat → Bool} {qw : Nat → Nat → Nat → Nat → Bool} {k : Nat} (hk : k < nk) (hb : nk ≤ 24) (h : ¬ cnK nl fa fb sl fr fl k = true) : hgF ns nl np ml nk nw pl fa fb sl pp pm ki fr tg wh bw rs sn fl qw (nI k) = -3 := by
  unfold hgF
  rw [cif_t ⟨k, hk, rfl⟩, nI_clamp (show k < 2 ^ 31 by omega), cif_f h]
theorem c_hangs {l : Launch} {dp : Nat} {ns nl np ml nk nw : Nat} {pl fa fb sl pp pm ki fr tg wh bw : Nat → Nat} {rs sn : Nat → Int32} {fl : Nat → Bool} {qw : Nat → Nat → Nat → Nat → Bool} {I : hI} {J : hJ} {lt tx : Option Nat} {x : Int32} {Q : hQ} (hG : cG I ns nl np ml nk nw pl fa fb sl pp pm ki fr tg wh bw rs sn fl qw) (hQ : ∀ I', CO I I' → Q (some (.int (hgF ns nl np ml nk nw pl fa fb sl pp pm ki fr tg wh bw rs sn fl qw x))) hSH I' J (hRR lt tx)) : HC l mX11_hangs (dp + 6) 0 0 [.ref 0, .int x] hSH I J (hRR lt tx) Q := by
  refine HC.of (by decide +kernel) rfl (Nat.le_of_ble_eq_true rfl) ?_
  show HV l mX11_hangs (dp + 6) 0 0 0 [some (.ref 0), some (.int x), none, none, none, none] [] hSH I J (hRR lt tx) Q
  obtain ⟨⟨hN, hdo, hla, hlv⟩, hw, ⟨hnp, hml, hnk, hpt, hsi, hbt⟩, ⟨hn8, hm2, hn24, hpW, hsW⟩, hL⟩ := id hG
  obtain ⟨hns, hnl, hpl, hlg⟩ := id hN
  obtain ⟨hn6, hl12, hW, hp99, hr99⟩ := id hw
  refine h_aload_n dX11_hangs_0 rfl ?_
  refine h_iload_n dX11_hangs_1 rfl ?_
  refine h_cV1 dX11_hangs_2 k3_40 oVX11_isSight rfl rfl ?_
  refine c_isSight (n := nk) hnk (by omega) (fun b1 => ?_) (fun b1 => ?_)
  · obtain ⟨k, hk, rfl⟩ := b1
    have w1 := hsW k hk
    refine h_ifne (tgt := 10) dX11_hangs_5 rfl (fun _ => ?_) (fun c => absurd c (by decide))
    refine h_aload_n dX11_hangs_10 rfl ?_
    refine h_getR dX11_hangs_11 f_X11_10_9 rfl rfl ?_
    refine h_iload_n dX11_hangs_14 rfl ?_
    refine h_cV1 dX11_hangs_15 k3_131 oVX10_counts rfl rfl ?_
    refine c_counts hG hk (fun b2 => ?_) (fun b2 => ?_)
    · obtain ⟨r, h9⟩ := spG_has (lo := loK nl np ml nw pl fa fb sl pp pm ki fr tg wh bw rs sn qw) (hi := hiK nl np ml nw pl fa fb sl pp pm ki fr tg wh bw rs sn qw) hk (inS_self (tg := tg) (by omega) b2)
      refine h_ifne (tgt := 24) dX11_hangs_18 rfl (fun _ => ?_) (fun c => absurd c (by decide))
      refine h_aload_n dX11_hangs_24 rfl ?_
      refine h_getR dX11_hangs_25 f_X11_10_9 rfl rfl ?_
      refine h_getR dX11_hangs_28 f_X11_207_8 rfl rfl ?_
      refine h_iload_n dX11_hangs_31 rfl ?_
      refine h_ialdN (j := k) dX11_hangs_32 rfl rfl (by omega) rfl (hsi _ (by omega)).2.2.1 ?_
      refine h_istore_n dX11_hangs_33 (Nat.le_of_ble_eq_true rfl) ?_
      refine h_aload_n dX11_hangs_34 rfl ?_
      refine h_getR dX11_hangs_35 f_X11_10_9 rfl rfl ?_
      refine h_iload_n dX11_hangs_38 rfl ?_
      refine h_bipush dX11_hangs_39 cb_m9 ?_
      refine h_cV2 dX11_hangs_41 k3_108 oVX10_measure rfl rfl ?_
      refine c_measure (p := tg k) (e := -9) hG (by omega) (fun g1 g2 g3 y1 y2 y3 => ?_)
      rw [h9] at y1
      refine h_istore_n dX11_hangs_44 (Nat.le_of_ble_eq_true rfl) ?_
      refine h_aload_n dX11_hangs_45 rfl ?_
      refine h_getR dX11_hangs_46 f_X11_10_9 rfl rfl ?_
      refine h_getR dX11_hangs_49 f_X11_245_8 rfl rfl ?_
      refine h_iload_n dX11_hangs_52 rfl ?_
      refine h_ialdN (j := tg k) dX11_hangs_53 rfl rfl (by omega) rfl (show _ = r.2 from y1.2) ?_
      refine h_aload_n dX11_hangs_54 rfl ?_
      refine h_getR dX11_hangs_55 f_X11_10_9 rfl rfl ?_
      refine h_getR dX11_hangs_58 f_X11_242_8 rfl rfl ?_
      refine h_iload_n dX11_hangs_61 rfl ?_
      refine h_ialdN (j := tg k) dX11_hangs_62 rfl rfl (by omega) rfl (show _ = r.1 from y1.1) ?_
      refine h_isub dX11_hangs_63 ?_
      refine h_istore dX11_hangs_64 (Nat.le_of_ble_eq_true rfl) ?_
      refine h_aload_n dX11_hangs_66 rfl ?_
      refine h_getR dX11_hangs_67 f_X11_10_9 rfl rfl ?_
      refine h_iload_n dX11_hangs_70 rfl ?_
      refine h_iload_n dX11_hangs_71 rfl ?_
      refine h_cV2 dX11_hangs_72 k3_108 oVX10_measure rfl rfl ?_
      refine c_measure (I := upA (upA (upA I 25 g1) 26 g2) 27 g3) (p := tg k) (e := nI k) hG (by omega) (fun g4 g5 g6 y4 y5 y6 => ?_)
      refine h_istore dX11_hangs_75 (Nat.le_of_ble_eq_true rfl) ?_
      refine h_iload dX11_hangs_77 rfl ?_
      refine h_bipush dX11_hangs_79 cb_m3 ?_
      refine h_icmpne (tgt := 87) dX11_hangs_81 rfl (fun c_81 => ?_) (fun c_81 => ?_)
      · obtain ⟨q, hok⟩ : ∃ q, spG (inS nl fa fb sl fr tg fl (tg k) (nI k)) (loK nl np ml nw pl fa fb sl pp pm ki fr tg wh bw rs sn qw) (hiK nl np ml nw pl fa fb sl pp pm ki fr tg wh bw rs sn qw) nk = some q := by
          cases e : spG (inS nl fa fb sl fr tg fl (tg k) (nI k)) (loK nl np ml nw pl fa fb sl pp pm ki fr tg wh bw rs sn qw) (hiK nl np ml nw pl fa fb sl pp pm ki fr tg wh bw rs sn qw) nk with
          | none => exact absurd (spc_3.mpr e) c_81
          | some q => exact ⟨q, rfl⟩
        rw [hok] at y4
        refine h_iload_n dX11_hangs_87 rfl ?_
        refine h_bipush dX11_hangs_88 cb_m4 ?_
        refine h_icmpeq (tgt := 100) dX11_hangs_90 rfl (fun c_90 => ?_) (fun c_90 => ?_)
        · refine h_bipush dX11_hangs_100 cb_m4 ?_
          refine h_ireturn dX11_hangs_102 rfl ?_
          have hQ := hQ _ (CO_tr (CO_3 I g1 g2 g3) (CO_3 _ g4 g5 g6))
          rw [hgF_k hk hn24 b2, h9] at hQ
          rw [hok] at hQ
          rw [h9] at c_90
          rw [hgV_4 (.inl (spc_4.mp c_90))] at hQ
          exact hQ
        · refine h_iload dX11_hangs_93 rfl ?_
          refine h_bipush dX11_hangs_95 cb_m4 ?_
          refine h_icmpne (tgt := 103) dX11_hangs_97 rfl (fun c_97 => ?_) (fun c_97 => ?_)
          · refine h_aload_n dX11_hangs_103 rfl ?_
            refine h_getR dX11_hangs_104 f_X11_10_9 rfl rfl ?_
            refine h_getR dX11_hangs_107 f_X11_245_8 rfl rfl ?_
            refine h_iload_n dX11_hangs_110 rfl ?_
            refine h_ialdN (j := tg k) dX11_hangs_111 rfl rfl (by omega) rfl (show _ = q.2 from y4.2) ?_
            refine h_aload_n dX11_hangs_112 rfl ?_
            refine h_getR dX11_hangs_113 f_X11_10_9 rfl rfl ?_
            refine h_getR dX11_hangs_116 f_X11_242_8 rfl rfl ?_
            refine h_iload_n dX11_hangs_119 rfl ?_
            refine h_ialdN (j := tg k) dX11_hangs_120 rfl rfl (by omega) rfl (show _ = q.1 from y4.1) ?_
            refine h_isub dX11_hangs_121 ?_
            refine h_iload dX11_hangs_122 rfl ?_
            refine h_isub dX11_hangs_124 ?_
            refine h_ireturn dX11_hangs_125 rfl ?_
            have hQ := hQ _ (CO_tr (CO_3 I g1 g2 g3) (CO_3 _ g4 g5 g6))
            rw [hgF_k hk hn24 b2, h9] at hQ
            rw [hok] at hQ
            rw [h9] at c_90
            rw [hok] at c_97
            rw [hgV_w (fun z => c_90 (spc_4.mpr z)) (fun z => c_97 (spc_4.mpr z))] at hQ
            exact hQ
          · refine h_bipush dX11_hangs_100 cb_m4 ?_
            refine h_ireturn dX11_hangs_102 rfl ?_
            have hQ := hQ _ (CO_tr (CO_3 I g1 g2 g3) (CO_3 _ g4 g5 g6))
            rw [hgF_k hk hn24 b2, h9] at hQ
            rw [hok] at hQ
            rw [hok] at c_97
            rw [hgV_4 (.inr (spc_4.mp c_97))] at hQ
            exact hQ
      · refine h_bipush dX11_hangs_84 cb_m9 ?_
        refine h_ireturn dX11_hangs_86 rfl ?_
        have hQ := hQ _ (CO_tr (CO_3 I g1 g2 g3) (CO_3 _ g4 g5 g6))
        rw [hgF_k hk hn24 b2, h9] at hQ
        rw [spc_3.mp c_81] at hQ
        exact hQ
    · refine h_ifne (tgt := 24) dX11_hangs_18 rfl (fun c => absurd (by decide) c) (fun _ => ?_)
      refine h_bipush dX11_hangs_21 cb_m3 ?_
      refine h_ireturn dX11_hangs_23 rfl ?_
      have hQ := hQ _ (CO_id I)
      rw [hgF_n hk hn24 b2] at hQ
      exact hQ
  · refine h_ifne (tgt := 10) dX11_hangs_5 rfl (fun c => absurd (by decide) c) (fun _ => ?_)
    refine h_iconst dX11_hangs_8 ci_m1 ?_
    refine h_ireturn dX11_hangs_9 rfl ?_
    have hQ := hQ _ (CO_id I)
    have hQ : Q (some (.int (cif _ _ _))) hSH I J (hRR lt tx) := hQ
    rw [cif_f b1] at hQ
    exact hQ
theorem r_hangs {l : Launch} {dp : Nat} {ns nl np ml nk nw : Nat} {pl fa fb sl pp pm ki fr tg wh bw : Nat → Nat} {rs sn : Nat → Int32} {fl : Nat → Bool} {qw : Nat → Nat → Nat → Nat → Bool} {I : hI} {J : hJ} {lt tx : Option Nat} {x : Int32} {Q : hQ} (hG : rG I ns nl np ml nk nw pl fa fb sl pp pm ki fr tg wh bw rs sn fl qw) (hQ : ∀ I', RO I I' → Q (some (.int (hgF ns nl np ml nk nw pl fa fb sl pp pm ki fr tg wh bw rs sn fl qw x))) hSH I' J (hRR lt tx)) : HC l mX12_hangs (dp + 6) 0 0 [.ref 82, .int x] hSH I J (hRR lt tx) Q := by
  refine HC.of (by decide +kernel) rfl (Nat.le_of_ble_eq_true rfl) ?_
  show HV l mX12_hangs (dp + 6) 0 0 0 [some (.ref 82), some (.int x), none, none, none, none] [] hSH I J (hRR lt tx) Q
  obtain ⟨hN, hw, ⟨hnp, hml, hnk, hpt, hsi⟩, ⟨hn8, hm2, hn24, hpW, hsW⟩, hL⟩ := id hG
  obtain ⟨hns, hnl, hpl, hlg⟩ := id hN
  obtain ⟨hn6, hl12, hW, hp99, hr99⟩ := id hw
  refine h_aload_n dX12_hangs_0 rfl ?_
  refine h_iload_n dX12_hangs_1 rfl ?_
  refine h_cV1 dX12_hangs_2 k6_24 oVX12_isSight rfl rfl ?_
  refine r_isSight (n := nk) hnk (by omega) (fun b1 => ?_) (fun b1 => ?_)
  · obtain ⟨k, hk, rfl⟩ := b1
    have w1 := hsW k hk
    refine h_ifne (tgt := 10) dX12_hangs_5 rfl (fun _ => ?_) (fun c => absurd c (by decide))
    refine h_aload_n dX12_hangs_10 rfl ?_
    refine h_cV0 dX12_hangs_11 k5_200 oVX12_findLevels rfl rfl ?_
    refine r_findLevels hN hw (fun a c b hLv => ?_)
    refine h_aload_n dX12_hangs_14 rfl ?_
    refine h_iload_n dX12_hangs_15 rfl ?_
    refine h_cV1 dX12_hangs_16 k6_82 oVX12_counts rfl rfl ?_
    refine r_counts (I := upA (upA (upA I 90 a) 92 b) 91 c) hG hLv hk (fun b2 => ?_) (fun b2 => ?_)
    · obtain ⟨r, h9⟩ := spG_has (lo := loK nl np ml nw pl fa fb sl pp pm ki fr tg wh bw rs sn qw) (hi := hiK nl np ml nw pl fa fb sl pp pm ki fr tg wh bw rs sn qw) hk (inS_self (tg := tg) (by omega) b2)
      refine h_ifne (tgt := 25) dX12_hangs_19 rfl (fun _ => ?_) (fun c => absurd c (by decide))
      refine h_aload_n dX12_hangs_25 rfl ?_
      refine h_getR dX12_hangs_26 f_X12_19_10 rfl rfl ?_
      refine h_bipush dX12_hangs_29 cb_7 ?_
      refine h_iload_n dX12_hangs_31 rfl ?_
      refine h_imulN dX12_hangs_32 ?_
      refine h_iconst dX12_hangs_33 ci_2 ?_
      refine h_iaddN dX12_hangs_34 ?_
      refine h_ialdN (j := (7 * k) + 2) dX12_hangs_35 rfl rfl (by omega) rfl (hsi k (by omega)).2.2.1 ?_
      refine h_istore_n dX12_hangs_36 (Nat.le_of_ble_eq_true rfl) ?_
      refine h_aload_n dX12_hangs_37 rfl ?_
      refine h_iload_n dX12_hangs_38 rfl ?_
      refine h_iload_n dX12_hangs_39 rfl ?_
      refine h_cV2 dX12_hangs_40 k6_78 oVX12_findSpan rfl rfl ?_
      refine r_findSpan (I := upA (upA (upA I 90 a) 92 b) 91 c) (p := tg k) (e := nI k) hG hLv (by omega) (fun lo hi g1 g2 y1 => ?_)
      have hcb := cntK_le (P := inS nl fa fb sl fr tg fl (tg k) (nI k)) nk
      refine h_ifne (tgt := 49) dX12_hangs_43 rfl (fun c_43 => ?_) (fun c_43 => ?_)
      · rw [show (0 : Int32) = nI 0 from rfl, nI_eq (by omega) (by omega)] at c_43
        obtain ⟨q, hok⟩ : ∃ q, spG (inS nl fa fb sl fr tg fl (tg k) (nI k)) (loK nl np ml nw pl fa fb sl pp pm ki fr tg wh bw rs sn qw) (hiK nl np ml nw pl fa fb sl pp pm ki fr tg wh bw rs sn qw) nk = some q := by
          cases e : spG (inS nl fa fb sl fr tg fl (tg k) (nI k)) (loK nl np ml nw pl fa fb sl pp pm ki fr tg wh bw rs sn qw) (hiK nl np ml nw pl fa fb sl pp pm ki fr tg wh bw rs sn qw) nk with
          | none => exact absurd ((spG_0 nk).mpr e) c_43
          | some q => exact ⟨q, rfl⟩
        rw [hok] at y1
        have qB := sp_B (p := tg k) (e := nI k) (fl := fl) hw ⟨hn8, hm2, hn24, hpW, hsW⟩ (fun _ _ _ => rW_le hL)
        rw [hok] at qB
        refine h_aload_n dX12_hangs_49 rfl ?_
        refine h_getI dX12_hangs_50 f_X12_203_10 rfl (show _ = q.2 from y1.2) ?_
        refine h_aload_n dX12_hangs_53 rfl ?_
        refine h_getI dX12_hangs_54 f_X12_200_10 rfl (show _ = q.1 from y1.1) ?_
        refine h_isub dX12_hangs_57 ?_
        refine h_istore_n dX12_hangs_58 (Nat.le_of_ble_eq_true rfl) ?_
        refine h_iload_n dX12_hangs_59 rfl ?_
        refine h_ifge (tgt := 67) dX12_hangs_60 rfl (fun c_60 => ?_) (fun c_60 => ?_)
        · refine h_iconst dX12_hangs_67 ci_0 ?_
          refine h_istore dX12_hangs_68 (Nat.le_of_ble_eq_true rfl) ?_
          refine h_aload_n dX12_hangs_70 rfl ?_
          refine h_iload_n dX12_hangs_71 rfl ?_
          refine h_iconst dX12_hangs_72 ci_m1 ?_
          refine h_cV2 dX12_hangs_73 k6_78 oVX12_findSpan rfl rfl ?_
          refine r_findSpan (I := rS (upA (upA (upA I 90 a) 92 b) 91 c) lo hi g1 g2) (p := tg k) (e := -1) hG hLv (by omega) (fun lo2 hi2 g3 g4 y2 => ?_)
          rw [spG_congr nk (fun j hj => inS_e (by omega)), h9] at y2
          have hcb2 := cntK_le (P := inS nl fa fb sl fr tg fl (tg k) (-1)) nk
          refine h_istore dX12_hangs_76 (Nat.le_of_ble_eq_true rfl) ?_
          refine h_iload dX12_hangs_78 rfl ?_
          refine h_ifne (tgt := 99) dX12_hangs_80 rfl (fun c => absurd (by decide) c) (fun _ => ?_)
          refine h_iload dX12_hangs_83 rfl ?_
          refine h_ifeq (tgt := 99) dX12_hangs_85 rfl (fun c_85 => ?_) (fun c_85 => ?_)
          · rw [show (0 : Int32) = nI 0 from rfl, nI_eq (by omega) (by omega)] at c_85
            refine h_bipush dX12_hangs_99 cb_m4 ?_
            refine h_goto (tgt := 115) dX12_hangs_101 rfl ?_
            refine h_ireturn dX12_hangs_115 rfl ?_
            exfalso
            have z := (spG_0 (lo := loK nl np ml nw pl fa fb sl pp pm ki fr tg wh bw rs sn qw) (hi := hiK nl np ml nw pl fa fb sl pp pm ki fr tg wh bw rs sn qw) nk).mp c_85
            rw [spG_congr nk (fun j hj => inS_e (by omega)), h9] at z
            cases z
          · rw [show (0 : Int32) = nI 0 from rfl, nI_eq (by omega) (by omega)] at c_85
            refine h_aload_n dX12_hangs_88 rfl ?_
            refine h_getI dX12_hangs_89 f_X12_200_10 rfl (show _ = r.1 from y2.1) ?_
            refine h_aload_n dX12_hangs_92 rfl ?_
            refine h_getI dX12_hangs_93 f_X12_203_10 rfl (show _ = r.2 from y2.2) ?_
            refine h_icmple (tgt := 104) dX12_hangs_96 rfl (fun c_96 => ?_) (fun c_96 => ?_)
            · refine h_iload_n dX12_hangs_104 rfl ?_
              refine h_aload_n dX12_hangs_105 rfl ?_
              refine h_getI dX12_hangs_106 f_X12_203_10 rfl (show _ = r.2 from y2.2) ?_
              refine h_aload_n dX12_hangs_109 rfl ?_
              refine h_getI dX12_hangs_110 f_X12_200_10 rfl (show _ = r.1 from y2.1) ?_
              refine h_isub dX12_hangs_113 ?_
              refine h_isub dX12_hangs_114 ?_
              refine h_ireturn dX12_hangs_115 rfl ?_
              have hQ := hQ _ (RO_tr (RO_tr (RO_l I a b c) (RO_s _ lo hi g1 g2)) (RO_s _ lo2 hi2 g3 g4))
              rw [hgF_k hk hn24 b2, h9, hok] at hQ
              rw [hgV_w (Int32.not_lt.mpr c_96) (fun z => absurd ((sub_neg_lt qB.2 qB.1 (by omega)).mpr z) (Int32.not_lt.mpr c_60))] at hQ
              exact hQ
            · refine h_bipush dX12_hangs_99 cb_m4 ?_
              refine h_goto (tgt := 115) dX12_hangs_101 rfl ?_
              refine h_ireturn dX12_hangs_115 rfl ?_
              have hQ := hQ _ (RO_tr (RO_tr (RO_l I a b c) (RO_s _ lo hi g1 g2)) (RO_s _ lo2 hi2 g3 g4))
              rw [hgF_k hk hn24 b2, h9, hok] at hQ
              rw [hgV_4 (.inl (Int32.not_le.mp c_96))] at hQ
              exact hQ
        · refine h_iconst dX12_hangs_63 ci_1 ?_
          refine h_goto (tgt := 68) dX12_hangs_64 rfl ?_
          refine h_istore dX12_hangs_68 (Nat.le_of_ble_eq_true rfl) ?_
          refine h_aload_n dX12_hangs_70 rfl ?_
          refine h_iload_n dX12_hangs_71 rfl ?_
          refine h_iconst dX12_hangs_72 ci_m1 ?_
          refine h_cV2 dX12_hangs_73 k6_78 oVX12_findSpan rfl rfl ?_
          refine r_findSpan (I := rS (upA (upA (upA I 90 a) 92 b) 91 c) lo hi g1 g2) (p := tg k) (e := -1) hG hLv (by omega) (fun lo2 hi2 g3 g4 y2 => ?_)
          rw [spG_congr nk (fun j hj => inS_e (by omega)), h9] at y2
          have hcb2 := cntK_le (P := inS nl fa fb sl fr tg fl (tg k) (-1)) nk
          refine h_istore dX12_hangs_76 (Nat.le_of_ble_eq_true rfl) ?_
          refine h_iload dX12_hangs_78 rfl ?_
          refine h_ifne (tgt := 99) dX12_hangs_80 rfl (fun _ => ?_) (fun c => absurd c (by decide))
          refine h_bipush dX12_hangs_99 cb_m4 ?_
          refine h_goto (tgt := 115) dX12_hangs_101 rfl ?_
          refine h_ireturn dX12_hangs_115 rfl ?_
          have hQ := hQ _ (RO_tr (RO_tr (RO_l I a b c) (RO_s _ lo hi g1 g2)) (RO_s _ lo2 hi2 g3 g4))
          rw [hgF_k hk hn24 b2, h9, hok] at hQ
          rw [hgV_4 (.inr ((sub_neg_lt qB.2 qB.1 (by omega)).mp (Int32.not_le.mp c_60)))] at hQ
          exact hQ
      · rw [show (0 : Int32) = nI 0 from rfl, nI_eq (by omega) (by omega)] at c_43
        refine h_bipush dX12_hangs_46 cb_m9 ?_
        refine h_ireturn dX12_hangs_48 rfl ?_
        have hQ := hQ _ (RO_tr (RO_l I a b c) (RO_s _ lo hi g1 g2))
        rw [hgF_k hk hn24 b2, (spG_0 nk).mp c_43] at hQ
        exact hQ
    · refine h_ifne (tgt := 25) dX12_hangs_19 rfl (fun c => absurd (by decide) c) (fun _ => ?_)
      refine h_bipush dX12_hangs_22 cb_m3 ?_
      refine h_ireturn dX12_hangs_24 rfl ?_
      have hQ := hQ _ (RO_l I a b c)
      rw [hgF_n hk hn24 b2] at hQ
      exact hQ
  · refine h_ifne (tgt := 10) dX12_hangs_5 rfl (fun c => absurd (by decide) c) (fun _ => ?_)
    refine h_iconst dX12_hangs_8 ci_m1 ?_
    refine h_ireturn dX12_hangs_9 rfl ?_
    have hQ := hQ _ (RO_id I)
    have hQ : Q (some (.int (cif _ _ _))) hSH I J (hRR lt tx) := hQ
    rw [cif_f b1] at hQ
    exact hQ
