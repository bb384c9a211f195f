theorem spG_W {P : Nat → Bool} {lo hi : Nat → Int32} : ∀ {n : Nat} {q : Int32 × Int32}, spG P lo hi n = some q → ∃ k, k < n ∧ P k = true ∧ lo k ≤ q.1 ∧ q.2 ≤ hi k
  | 0, q, h => by cases h
  | n + 1, q, h => by
    unfold spG at h
    by_cases e : P n = true
    · rw [if_pos e] at h
      cases e2 : spG P lo hi n with
      | none =>
        rw [e2] at h
        cases h
        exact ⟨n, by omega, e, Int32.le_refl _, Int32.le_refl _⟩
      | some r =>
        rw [e2] at h
        obtain ⟨k, h1, h2, h3, h4⟩ := spG_W e2
        have h : some ((if r.1 < lo n then lo n else r.1), (if hi n < r.2 then hi n else r.2)) = some q := h
        cases h
        refine ⟨k, by omega, h2, ?_, ?_⟩
        · show lo k ≤ (if r.1 < lo n then lo n else r.1)
          by_cases c : r.1 < lo n
          · rw [if_pos c]; exact Int32.le_trans h3 (Int32.le_of_lt c)
          · rw [if_neg c]; exact h3
        · show (if hi n < r.2 then hi n else r.2) ≤ hi k
          by_cases c : hi n < r.2
          · rw [if_pos c]; exact Int32.le_trans (Int32.le_of_lt c) h4
          · rw [if_neg c]; exact h4
    · rw [if_neg e] at h
      obtain ⟨k, h1, h2⟩ := spG_W h
      exact ⟨k, by omega, h2⟩
/-- spans as the count of ways needs them -/
def OW (O : Nat → Option (Int32 × Int32)) (np : Nat) : Prop := ∀ p, p < np → ∀ q, O p = some q → q.1.toInt ≤ q.2.toInt ∧ q.2.toInt - q.1.toInt ≤ 134 ∧ bd q.1 320000000 ∧ bd q.2 320000000
def wd (q : Int32 × Int32) : Nat := (q.2.toInt - q.1.toInt + 1).toNat
def fT (q : Int32 × Int32) (f : Int) : Nat := (min f q.2.toInt - q.1.toInt + 1).toNat
def wdO (o : Option (Int32 × Int32)) : Nat := match o with
  | none => 1
  | some q => wd q
def fTO (o : Option (Int32 × Int32)) (f : Int) : Nat := match o with
  | none => 1
  | some q => fT q f
def iA (O : Nat → Option (Int32 × Int32)) : Nat → Nat
  | 0 => 1
  | p + 1 => iA O p * wdO (O p)
def pr (O : Nat → Option (Int32 × Int32)) (x : Nat) (f : Int) : Nat → Nat
  | 0 => 1
  | p + 1 => pr O x f p * (if p = x then 1 else fTO (O p) (if p < x then f - 1 else f))
def sW (O : Nat → Option (Int32 × Int32)) (x np : Nat) (lo : Int) : Nat → Nat
  | 0 => 0
  | j + 1 => sW O x np lo j + pr O x (lo + j) np
section HW
variable {O : Nat → Option (Int32 × Int32)} {np : Nat}
theorem wdO_b (h : OW O np) {p : Nat} (hp : p < np) : 1 ≤ wdO (O p) ∧ wdO (O p) ≤ 135 := by
  cases e : O p with
  | none => exact ⟨Nat.le_refl _, by show 1 ≤ 135; omega⟩
  | some q =>
    obtain ⟨h1, h2, -⟩ := h p hp q e
    show 1 ≤ wd q ∧ wd q ≤ 135
    unfold wd
    omega
theorem fTO_b (h : OW O np) {p : Nat} (hp : p < np) {f : Int} : fTO (O p) f ≤ 135 := by
  cases e : O p with
  | none => show 1 ≤ 135; omega
  | some q =>
    obtain ⟨h1, h2, -⟩ := h p hp q e
    show fT q f ≤ 135
    unfold fT
    omega
theorem p135 {n : Nat} (h : n ≤ 8) : 135 ^ n ≤ 110324037687890625 := by
  have := Nat.pow_le_pow_right (show 0 < 135 by omega) h
  have e : 135 ^ 8 = 110324037687890625 := by decide
  omega
theorem iA_b (h : OW O np) : ∀ n, n ≤ np → 1 ≤ iA O n ∧ iA O n ≤ 135 ^ n
  | 0, _ => ⟨Nat.le_refl _, Nat.le_refl _⟩
  | n + 1, hn => by
    obtain ⟨h1, h2⟩ := iA_b h n (by omega)
    obtain ⟨h3, h4⟩ := wdO_b h (show n < np by omega)
    unfold iA
    rw [Nat.pow_succ]
    exact ⟨Nat.mul_le_mul h1 h3, Nat.mul_le_mul h2 h4⟩
theorem pr_b (h : OW O np) {x : Nat} {f : Int} : ∀ n, n ≤ np → pr O x f n * (if x < n then 135 else 1) ≤ 135 ^ n
  | 0, _ => by rw [if_neg (by omega)]; exact Nat.le_refl _
  | n + 1, hn => by
    have ih := pr_b h (x := x) (f := f) n (by omega)
    unfold pr
    rw [Nat.pow_succ]
    by_cases e : n = x
    · rw [if_pos e, if_pos (by omega)]
      rw [if_neg (by omega)] at ih
      exact Nat.mul_le_mul ih (Nat.le_refl _)
    · rw [if_neg e]
      have h2 := fTO_b h (show n < np by omega) (f := if n < x then f - 1 else f)
      by_cases c : x < n
      · rw [if_pos (show x < n + 1 by omega)]
        rw [if_pos c] at ih
        rw [Nat.mul_right_comm]
        exact Nat.mul_le_mul ih h2
      · rw [if_neg (show ¬ x < n + 1 by omega)]
        rw [if_neg c] at ih
        rw [Nat.mul_one] at *
        exact Nat.mul_le_mul ih h2
theorem pr_7 (h : OW O np) (h8 : np ≤ 8) {x : Nat} (hx : x < np) {f : Int} : pr O x f np ≤ 817215093984375 := by
  have h1 := pr_b h (x := x) (f := f) np (Nat.le_refl _)
  rw [if_pos hx] at h1
  have h2 := p135 h8
  omega
theorem pr_s (h : OW O np) (h8 : np ≤ 8) {x n : Nat} (hn : n ≤ np) {f : Int} : pr O x f n ≤ 110324037687890625 := by
  have h1 := pr_b h (x := x) (f := f) n hn
  have h2 := p135 (show n ≤ 8 by omega)
  by_cases c : x < n
  · rw [if_pos c] at h1; omega
  · rw [if_neg c] at h1; omega
theorem sW_b (h : OW O np) (h8 : np ≤ 8) {x : Nat} (hx : x < np) {lo : Int} : ∀ j, sW O x np lo j ≤ j * 817215093984375
  | 0 => by simp [sW]
  | j + 1 => by
    have h1 := sW_b h h8 hx (lo := lo) j
    have h2 := pr_7 h h8 hx (f := lo + j)
    unfold sW
    rw [Nat.succ_mul]
    omega
theorem wd_I {q : Int32 × Int32} (h1 : q.1.toInt ≤ q.2.toInt) (h2 : q.2.toInt - q.1.toInt ≤ 134) : q.2 - q.1 + nI 1 = nI (wd q) := by
  have h3 : wd q ≤ 135 := by unfold wd; omega
  apply Int32.toInt_inj.mp
  have e1 : (q.2 - q.1).toInt = q.2.toInt - q.1.toInt := sb_sub (by omega) (by omega)
  rw [sb_add (by rw [e1, nI_toInt (by omega)]; omega) (by rw [e1, nI_toInt (by omega)]; omega), e1, nI_toInt (by omega), nI_toInt (by omega)]
  unfold wd
  omega
end HW
theorem sp_W {ns nl np ml nk nw : Nat} {pl fa fb sl pp pm ki fr tg wh bw : Nat → Nat} {rs sn : Nat → Int32} {fl : Nat → Bool} {qw : Nat → Nat → Nat → Nat → Bool} {p : Nat} {q : Int32 × Int32} (hw : netW ns nl pl fa fb sl rs) (hv : viewW ns np ml nk pp pm ki fr tg wh sn) (hb : ∀ ki aw wh, tol bw qw ki aw wh nw ≤ 99) (hq : spG (inS nl fa fb sl fr tg fl p (-9)) (loK nl np ml nw pl fa fb sl pp pm ki fr tg wh bw rs sn qw) (hiK nl np ml nw pl fa fb sl pp pm ki fr tg wh bw rs sn qw) nk = some q) : q.2.toInt - q.1.toInt ≤ 134 ∧ bd q.1 320000000 ∧ bd q.2 320000000 := by
  have hB := sp_B (p := p) (e := -9) (fl := fl) hw hv hb
  rw [hq] at hB
  refine ⟨?_, hB⟩
  obtain ⟨k, hk, hP, hl, hh⟩ := spG_W hq
  obtain ⟨hn6, hl12, hW, hp99, hr99⟩ := hw
  obtain ⟨hn8, hm2, hn24, hpW, hsW⟩ := hv
  have q1 := hsW k hk
  have q2 := hp99 (fr k) (by omega)
  have q3 := hpW (tg k) (by omega)
  have q4 := aw_le q2 q3.1
  have q5 : bd (ftK nl np ml nw pl fa fb sl pp pm ki fr tg wh bw rs sn qw k) 318000000 := bd_foot (bd_lvl hr99) (bd_lean hn8 (fun p hp => (hpW p hp).2)) (bd_of (by omega) (by omega)) (hb _ _ _) q4
  have hc : cnK nl fa fb sl fr fl k = true := by
    unfold inS at hP
    simp only [Bool.and_eq_true] at hP
    exact hP.2
  have hd : dist fa fb sl nl (fr k) < 1000000 := by
    unfold cnK at hc
    simp only [Bool.and_eq_true] at hc
    exact of_decide_eq_true hc.2
  have h45 := dist_45 hW hn6 (show fr k < ns by omega) hd
  have q6 : rcK nl pl fa fb sl pp ki fr tg k ≤ 67 := Nat.add_le_add (skF_le q4) h45
  have hl := Int32.le_iff_toInt_le.mp hl
  have hh := Int32.le_iff_toInt_le.mp hh
  unfold loK at hl
  unfold hiK at hh
  unfold bd at q5
  have e1 : (nI (rcK nl pl fa fb sl pp ki fr tg k)).toInt = rcK nl pl fa fb sl pp ki fr tg k := nI_toInt (by omega)
  rw [sb_sub (by rw [e1]; omega) (by rw [e1]; omega), e1] at hl
  rw [sb_add (by rw [e1]; omega) (by rw [e1]; omega), e1] at hh
  omega
theorem spc_no {O : Nat → Option (Int32 × Int32)} {np p : Nat} (hO : OW O np) (hp : p < np) (h : ¬ spc (O p) = 0) : O p = none := by
  cases e : O p with
  | none => rfl
  | some q =>
    exfalso
    obtain ⟨h1, -⟩ := hO p hp q e
    refine h (spc_is e (fun z => ?_))
    have := Int32.lt_iff_toInt_lt.mp z
    omega
theorem fT_I {q : Int32 × Int32} {f : Int32} (h1 : q.1.toInt ≤ q.2.toInt) (h2 : q.2.toInt - q.1.toInt ≤ 134) (h3 : q.1.toInt.natAbs ≤ 320000000) (h4 : q.2.toInt.natAbs ≤ 320000000) (hf : f.toInt.natAbs ≤ 330000000) : (if (if q.2 < f then q.2 else f) - q.1 + nI 1 < nI 0 then nI 0 else (if q.2 < f then q.2 else f) - q.1 + nI 1) = nI (fT q f.toInt) := by
  have hm : (if q.2 < f then q.2 else f).toInt = min f.toInt q.2.toInt := by
    by_cases c : q.2 < f
    · rw [if_pos c]; have := Int32.lt_iff_toInt_lt.mp c; omega
    · rw [if_neg c]; have := Int32.le_iff_toInt_le.mp (Int32.not_lt.mp c); omega
  generalize (if q.2 < f then q.2 else f) = g at hm ⊢
  have e1 : (g - q.1).toInt = g.toInt - q.1.toInt := sb_sub (by omega) (by omega)
  have e0 : (nI 1).toInt = 1 := nI_toInt (by omega)
  have e2 : (g - q.1 + nI 1).toInt = g.toInt - q.1.toInt + 1 := by
    rw [sb_add (by rw [e1, e0]; omega) (by rw [e1, e0]; omega), e1, e0]
  have hb : fT q f.toInt ≤ 135 := by unfold fT; omega
  apply Int32.toInt_inj.mp
  rw [nI_toInt (show fT q f.toInt < 2147483648 by omega)]
  have z0 : (nI 0).toInt = 0 := nI_toInt (by omega)
  unfold fT
  by_cases c : g - q.1 + nI 1 < nI 0
  · rw [if_pos c, z0]
    have := Int32.lt_iff_toInt_lt.mp c
    rw [e2, z0] at this
    omega
  · rw [if_neg c, e2]
    have := Int32.le_iff_toInt_le.mp (Int32.not_lt.mp c)
    rw [e2, z0] at this
    omega
theorem c_feetUpTo {l : Launch} {dp : Nat} {O : Nat → Option (Int32 × Int32)} {np : Nat} {I : hI} {J : hJ} {lt tx : Option Nat} {p : Nat} {q : Int32 × Int32} {f : Int32} {Q : hQ} (hnp : I 1 2 = nI np) (hn8 : np ≤ 8) (hal : ∀ r, r < np → spA (O r) (I 25) (I 26) r ∧ I 27 r = spc (O r)) (hO : OW O np) (hp : p < np) (hq : O p = some q) (hf : bd f 330000000) (hQ : Q (some (.int (nI (fT q f.toInt)))) hSH I J (hRR lt tx)) : HC l mX10_feetUpTo (dp + 1) 0 0 [.ref 1, .int (nI p), .int f] hSH I J (hRR lt tx) Q := by
  refine HC.of (by decide +kernel) rfl (Nat.le_of_ble_eq_true rfl) ?_
  show HV l mX10_feetUpTo (dp + 1) 0 0 0 [some (.ref 1), some (.int (nI p)), some (.int f), none] [] hSH I J (hRR lt tx) Q
  obtain ⟨y1, y2⟩ := hal p hp
  rw [hq] at y1
  obtain ⟨o1, o2, o3, o4⟩ := hO p hp q hq
  unfold bd at hf o3 o4
  refine h_iload_n dX10_feetUpTo_0 rfl ?_
  refine h_aload_n dX10_feetUpTo_1 rfl ?_
  refine h_getR dX10_feetUpTo_2 f_X10_63_8 rfl rfl ?_
  refine h_iload_n dX10_feetUpTo_5 rfl ?_
  refine h_ialdN (j := p) dX10_feetUpTo_6 rfl rfl (by omega) rfl y1.2 ?_
  refine h_mmin dX10_feetUpTo_7 k3_123 k3_124 k1_14 k3_125 (Nat.le_of_ble_eq_true rfl) ?_
  refine h_aload_n dX10_feetUpTo_10 rfl ?_
  refine h_getR dX10_feetUpTo_11 f_X10_60_8 rfl rfl ?_
  refine h_iload_n dX10_feetUpTo_14 rfl ?_
  refine h_ialdN (j := p) dX10_feetUpTo_15 rfl rfl (by omega) rfl y1.1 ?_
  refine h_isub dX10_feetUpTo_16 ?_
  refine h_iconst dX10_feetUpTo_17 ci_1 ?_
  refine h_iadd dX10_feetUpTo_18 ?_
  refine h_istore_n dX10_feetUpTo_19 (Nat.le_of_ble_eq_true rfl) ?_
  refine h_iload_n dX10_feetUpTo_20 rfl ?_
  refine h_iconst dX10_feetUpTo_21 ci_0 ?_
  refine h_mmax dX10_feetUpTo_22 k3_120 k3_121 k1_14 k3_122 (Nat.le_of_ble_eq_true rfl) ?_
  refine h_ireturn dX10_feetUpTo_25 rfl ?_
  have := fT_I o1 o2 o3 o4 hf
  rw [← this] at hQ
  exact hQ
theorem c_waysInAll {l : Launch} {dp : Nat} {O : Nat → Option (Int32 × Int32)} {np : Nat} {I : hI} {J : hJ} {lt tx : Option Nat} {Q : hQ} (hnp : I 1 2 = nI np) (hn8 : np ≤ 8) (hal : ∀ r, r < np → spA (O r) (I 25) (I 26) r ∧ I 27 r = spc (O r)) (hO : OW O np) (hQ : Q (some (.long (nL (iA O np)))) hSH I J (hRR lt tx)) : HC l mX10_waysInAll dp 0 0 [.ref 1] hSH I J (hRR lt tx) Q := by
  refine HC.of (by decide +kernel) rfl (Nat.le_of_ble_eq_true rfl) ?_
  have Lo : ∀ (m k : Nat), np - k < m → k ≤ np → HV l mX10_waysInAll dp 0 0 4 [some (.ref 1), some (.long (nL (iA O k))), none, some (.int (nI k))] [] hSH I J (hRR lt tx) Q := by
    intro m
    induction m with
    | zero => intro k h1 h2; omega
    | succ m ih =>
      intro k h1 h2
      refine h_iload_n dX10_waysInAll_4 rfl ?_
      refine h_aload_n dX10_waysInAll_5 rfl ?_
      refine h_getI dX10_waysInAll_6 f_X10_25_8 rfl hnp ?_
      refine h_icmpge (tgt := 46) dX10_waysInAll_9 rfl (fun c_9 => ?_) (fun c_9 => ?_)
      · rw [nI_leI (by omega) (by omega)] at c_9
        refine h_lload_n dX10_waysInAll_46 rfl ?_
        refine h_lreturn dX10_waysInAll_47 rfl ?_
        have ek : np = k := by omega
        subst ek
        exact hQ
      · rw [nI_leI (by omega) (by omega)] at c_9
        refine h_aload_n dX10_waysInAll_12 rfl ?_
        refine h_getR dX10_waysInAll_13 f_X10_66_8 rfl rfl ?_
        refine h_iload_n dX10_waysInAll_16 rfl ?_
        refine h_ialdN (j := k) dX10_waysInAll_17 rfl rfl (by omega) rfl (hal k (by omega)).2 ?_
        refine h_ifne (tgt := 40) dX10_waysInAll_18 rfl (fun c_18 => ?_) (fun c_18 => ?_)
        · have hn0 := spc_no hO (show k < np by omega) c_18
          refine h_iinc (v := nI (k + 1)) dX10_waysInAll_40 rfl (nI_1 _) (Nat.le_of_ble_eq_true rfl) ?_
          refine h_goto (tgt := 4) dX10_waysInAll_43 rfl ?_
          have h3 := ih (k + 1) (by omega) (by omega)
          unfold iA at h3
          rw [hn0, show wdO none = 1 from rfl, Nat.mul_one] at h3
          exact h3
        · obtain ⟨q, hsn, hqq⟩ := spE_ok c_18
          obtain ⟨y1, y2⟩ := hal k (by omega)
          rw [hsn] at y1
          obtain ⟨o1, o2, o3, o4⟩ := hO k (by omega) q hsn
          have hwb : wd q ≤ 135 := by unfold wd; omega
          refine h_lload_n dX10_waysInAll_21 rfl ?_
          refine h_aload_n dX10_waysInAll_22 rfl ?_
          refine h_getR dX10_waysInAll_23 f_X10_63_8 rfl rfl ?_
          refine h_iload_n dX10_waysInAll_26 rfl ?_
          refine h_ialdN (j := k) dX10_waysInAll_27 rfl rfl (by omega) rfl y1.2 ?_
          refine h_aload_n dX10_waysInAll_28 rfl ?_
          refine h_getR dX10_waysInAll_29 f_X10_60_8 rfl rfl ?_
          refine h_iload_n dX10_waysInAll_32 rfl ?_
          refine h_ialdN (j := k) dX10_waysInAll_33 rfl rfl (by omega) rfl y1.1 ?_
          refine h_isub dX10_waysInAll_34 ?_
          refine h_iconst dX10_waysInAll_35 ci_1 ?_
          refine h_iadd dX10_waysInAll_36 ?_
          refine h_i2l dX10_waysInAll_37 ?_
          refine h_lmul dX10_waysInAll_38 ?_
          refine h_lstore_n dX10_waysInAll_39 (Nat.le_of_ble_eq_true rfl) ?_
          refine h_iinc (v := nI (k + 1)) dX10_waysInAll_40 rfl (nI_1 _) (Nat.le_of_ble_eq_true rfl) ?_
          refine h_goto (tgt := 4) dX10_waysInAll_43 rfl ?_
          have h3 := ih (k + 1) (by omega) (by omega)
          unfold iA at h3
          rw [hsn, show wdO (some q) = wd q from rfl, ← nL_mul, ← nL_i2l (show wd q < 2147483648 by omega), ← wd_I o1 o2] at h3
          exact h3
  show HV l mX10_waysInAll dp 0 0 0 [some (.ref 1), none, none, none] [] hSH I J (hRR lt tx) Q
  refine h_lconst (v := 1) dX10_waysInAll_0 rfl ?_
  refine h_lstore_n dX10_waysInAll_1 (Nat.le_of_ble_eq_true rfl) ?_
  refine h_iconst dX10_waysInAll_2 ci_0 ?_
  refine h_istore_n dX10_waysInAll_3 (Nat.le_of_ble_eq_true rfl) ?_
  exact Lo (np + 1) 0 (by omega) (by omega)
theorem c_waysHighest {l : Launch} {dp : Nat} {O : Nat → Option (Int32 × Int32)} {np : Nat} {I : hI} {J : hJ} {lt tx : Option Nat} {x : Nat} {qx : Int32 × Int32} {Q : hQ} (hnp : I 1 2 = nI np) (hn8 : np ≤ 8) (hal : ∀ r, r < np → spA (O r) (I 25) (I 26) r ∧ I 27 r = spc (O r)) (hO : OW O np) (hx : x < np) (hqx : O x = some qx) (hQ : Q (some (.long (nL (sW O x np qx.1.toInt (wd qx))))) hSH I J (hRR lt tx)) : HC l mX10_waysHighest (dp + 2) 0 0 [.ref 1, .int (nI x)] hSH I J (hRR lt tx) Q := by
  refine HC.of (by decide +kernel) rfl (Nat.le_of_ble_eq_true rfl) ?_
  obtain ⟨xy1, xy2⟩ := hal x hx
  rw [hqx] at xy1
  obtain ⟨o1, o2, o3, o4⟩ := hO x hx qx hqx
  have hwb : wd qx ≤ 135 := by unfold wd; omega
  have hwe : (wd qx : Int) = qx.2.toInt - qx.1.toInt + 1 := by unfold wd; omega
  unfold bd at o3 o4
  have hfj : ∀ j, j ≤ 136 → (qx.1 + nI j).toInt = qx.1.toInt + j := fun j hj => by
    have e := nI_toInt (show j < 2147483648 by omega)
    rw [sb_add (by rw [e]; omega) (by rw [e]; omega), e]
  have Li : ∀ (j : Nat) (w : Int64), j < wd qx → (HV l mX10_waysHighest (dp + 2) 0 0 10 [some (.ref 1), some (.int (nI x)), some (.long (w + nL (pr O x (qx.1.toInt + j) np))), none, some (.int (qx.1 + nI (j + 1))), some (.long (nL (pr O x (qx.1.toInt + j) np))), none, some (.int (nI np))] [] hSH I J (hRR lt tx) Q) → ∀ (m k : Nat), np - k < m → k ≤ np → HV l mX10_waysHighest (dp + 2) 0 0 27 [some (.ref 1), some (.int (nI x)), some (.long w), none, some (.int (qx.1 + nI j)), some (.long (nL (pr O x (qx.1.toInt + j) k))), none, some (.int (nI k))] [] hSH I J (hRR lt tx) Q := by
    intro j w hj hnext m
    induction m with
    | zero => intro k h1 h2; omega
    | succ m ih =>
      intro k h1 h2
      have e1 := hfj j (by omega)
      refine h_iload dX10_waysHighest_27 rfl ?_
      refine h_aload_n dX10_waysHighest_29 rfl ?_
      refine h_getI dX10_waysHighest_30 f_X10_25_8 rfl hnp ?_
      refine h_icmpge (tgt := 85) dX10_waysHighest_33 rfl (fun c_33 => ?_) (fun c_33 => ?_)
      · rw [nI_leI (by omega) (by omega)] at c_33
        refine h_lload_n dX10_waysHighest_85 rfl ?_
        refine h_lload dX10_waysHighest_86 rfl ?_
        refine h_ladd dX10_waysHighest_88 ?_
        refine h_lstore_n dX10_waysHighest_89 (Nat.le_of_ble_eq_true rfl) ?_
        refine h_iinc (v := qx.1 + nI (j + 1)) dX10_waysHighest_90 rfl (by rw [← nI_add, ← Int32.add_assoc]; rfl) (Nat.le_of_ble_eq_true rfl) ?_
        refine h_goto (tgt := 10) dX10_waysHighest_93 rfl ?_
        have ek : np = k := by omega
        subst ek
        exact hnext
      · rw [nI_leI (by omega) (by omega)] at c_33
        refine h_iload dX10_waysHighest_36 rfl ?_
        refine h_iload_n dX10_waysHighest_38 rfl ?_
        refine h_icmpeq (tgt := 79) dX10_waysHighest_39 rfl (fun c_39 => ?_) (fun c_39 => ?_)
        · rw [nI_eq (by omega) (by omega)] at c_39
          refine h_iinc (v := nI (k + 1)) dX10_waysHighest_79 rfl (nI_1 _) (Nat.le_of_ble_eq_true rfl) ?_
          refine h_goto (tgt := 27) dX10_waysHighest_82 rfl ?_
          have h3 := ih (k + 1) (by omega) (by omega)
          unfold pr at h3
          rw [if_pos c_39, Nat.mul_one] at h3
          exact h3
        · rw [nI_eq (by omega) (by omega)] at c_39
          refine h_aload_n dX10_waysHighest_42 rfl ?_
          refine h_getR dX10_waysHighest_43 f_X10_66_8 rfl rfl ?_
          refine h_iload dX10_waysHighest_46 rfl ?_
          refine h_ialdN (j := k) dX10_waysHighest_48 rfl rfl (by omega) rfl (hal k (by omega)).2 ?_
          refine h_ifne (tgt := 79) dX10_waysHighest_49 rfl (fun c_49 => ?_) (fun c_49 => ?_)
          · have hn0 := spc_no hO (show k < np by omega) c_49
            refine h_iinc (v := nI (k + 1)) dX10_waysHighest_79 rfl (nI_1 _) (Nat.le_of_ble_eq_true rfl) ?_
            refine h_goto (tgt := 27) dX10_waysHighest_82 rfl ?_
            have h3 := ih (k + 1) (by omega) (by omega)
            unfold pr at h3
            rw [if_neg c_39, hn0, show ∀ z, fTO none z = 1 from fun _ => rfl, Nat.mul_one] at h3
            exact h3
          · obtain ⟨q, hsn, hqq⟩ := spE_ok c_49
            have e2 : (qx.1 + nI j - nI 1).toInt = qx.1.toInt + j - 1 := by
              have e0 : (nI 1).toInt = 1 := nI_toInt (by omega)
              rw [sb_sub (by rw [e1, e0]; omega) (by rw [e1, e0]; omega), e1, e0]
            refine h_lload dX10_waysHighest_52 rfl ?_
            refine h_aload_n dX10_waysHighest_54 rfl ?_
            refine h_iload dX10_waysHighest_55 rfl ?_
            refine h_iload dX10_waysHighest_57 rfl ?_
            refine h_iload_n dX10_waysHighest_59 rfl ?_
            refine h_icmpge (tgt := 70) dX10_waysHighest_60 rfl (fun c_60 => ?_) (fun c_60 => ?_)
            · rw [nI_leI (by omega) (by omega)] at c_60
              refine h_iload dX10_waysHighest_70 rfl ?_
              refine h_cV2 dX10_waysHighest_72 k3_173 oVX10_feetUpTo rfl rfl ?_
              refine c_feetUpTo (p := k) hnp hn8 hal hO (by omega) hsn (by unfold bd; omega) ?_
              refine h_i2l dX10_waysHighest_75 ?_
              refine h_lmul dX10_waysHighest_76 ?_
              refine h_lstore dX10_waysHighest_77 (Nat.le_of_ble_eq_true rfl) ?_
              refine h_iinc (v := nI (k + 1)) dX10_waysHighest_79 rfl (nI_1 _) (Nat.le_of_ble_eq_true rfl) ?_
              refine h_goto (tgt := 27) dX10_waysHighest_82 rfl ?_
              have h3 := ih (k + 1) (by omega) (by omega)
              unfold pr at h3
              rw [if_neg c_39, hsn, if_neg (show ¬ k < x by omega), show ∀ z, fTO (some q) z = fT q z from fun _ => rfl, ← nL_mul] at h3
              rw [e1, nL_i2l (show fT q _ < 2147483648 by have := fTO_b hO (show k < np by omega) (f := qx.1.toInt + j); rw [hsn] at this; exact Nat.lt_of_le_of_lt this (by omega))]
              exact h3
            · rw [nI_leI (by omega) (by omega)] at c_60
              refine h_iload dX10_waysHighest_63 rfl ?_
              refine h_iconst dX10_waysHighest_65 ci_1 ?_
              refine h_isub dX10_waysHighest_66 ?_
              refine h_goto (tgt := 72) dX10_waysHighest_67 rfl ?_
              refine h_cV2 dX10_waysHighest_72 k3_173 oVX10_feetUpTo rfl rfl ?_
              refine c_feetUpTo (p := k) hnp hn8 hal hO (by omega) hsn (by unfold bd; omega) ?_
              refine h_i2l dX10_waysHighest_75 ?_
              refine h_lmul dX10_waysHighest_76 ?_
              refine h_lstore dX10_waysHighest_77 (Nat.le_of_ble_eq_true rfl) ?_
              refine h_iinc (v := nI (k + 1)) dX10_waysHighest_79 rfl (nI_1 _) (Nat.le_of_ble_eq_true rfl) ?_
              refine h_goto (tgt := 27) dX10_waysHighest_82 rfl ?_
              have h3 := ih (k + 1) (by omega) (by omega)
              unfold pr at h3
              rw [if_neg c_39, hsn, if_pos (show k < x by omega), show ∀ z, fTO (some q) z = fT q z from fun _ => rfl, ← nL_mul] at h3
              rw [e2, nL_i2l (show fT q _ < 2147483648 by have := fTO_b hO (show k < np by omega) (f := qx.1.toInt + j - 1); rw [hsn] at this; exact Nat.lt_of_le_of_lt this (by omega))]
              exact h3
  have Lo : ∀ (m j : Nat), wd qx - j < m → j ≤ wd qx → ∀ z5 z6 z7, HV l mX10_waysHighest (dp + 2) 0 0 10 [some (.ref 1), some (.int (nI x)), some (.long (nL (sW O x np qx.1.toInt j))), none, some (.int (qx.1 + nI j)), z5, z6, z7] [] hSH I J (hRR lt tx) Q := by
    intro m
    induction m with
    | zero => intro j h1 h2 z5 z6 z7; omega
    | succ m ih =>
      intro j h1 h2 z5 z6 z7
      have e1 := hfj j (by omega)
      refine h_iload dX10_waysHighest_10 rfl ?_
      refine h_aload_n dX10_waysHighest_12 rfl ?_
      refine h_getR dX10_waysHighest_13 f_X10_63_8 rfl rfl ?_
      refine h_iload_n dX10_waysHighest_16 rfl ?_
      refine h_ialdN (j := x) dX10_waysHighest_17 rfl rfl (by omega) rfl xy1.2 ?_
      refine h_icmpgt (tgt := 96) dX10_waysHighest_18 rfl (fun c_18 => ?_) (fun c_18 => ?_)
      · have c_18 := Int32.lt_iff_toInt_lt.mp c_18
        rw [e1] at c_18
        refine h_lload_n dX10_waysHighest_96 rfl ?_
        refine h_lreturn dX10_waysHighest_97 rfl ?_
        have ek : j = wd qx := by omega
        subst ek
        exact hQ
      · have c_18 := Int32.le_iff_toInt_le.mp (Int32.not_lt.mp c_18)
        rw [e1] at c_18
        refine h_lconst (v := 1) dX10_waysHighest_21 rfl ?_
        refine h_lstore dX10_waysHighest_22 (Nat.le_of_ble_eq_true rfl) ?_
        refine h_iconst dX10_waysHighest_24 ci_0 ?_
        refine h_istore dX10_waysHighest_25 (Nat.le_of_ble_eq_true rfl) ?_
        have h3 := ih (j + 1) (by omega) (by omega)
        unfold sW at h3
        rw [← nL_add] at h3
        exact Li j _ (by omega) (h3 _ _ _) (np + 1) 0 (by omega) (by omega)
  have h0 := Lo (wd qx + 1) 0 (by omega) (by omega)
  rw [show qx.1 + nI 0 = qx.1 by rw [show nI 0 = (0 : Int32) by decide, Int32.add_zero]] at h0
  show HV l mX10_waysHighest (dp + 2) 0 0 0 [some (.ref 1), some (.int (nI x)), none, none, none, none, none, none] [] hSH I J (hRR lt tx) Q
  refine h_lconst (v := 0) dX10_waysHighest_0 rfl ?_
  refine h_lstore_n dX10_waysHighest_1 (Nat.le_of_ble_eq_true rfl) ?_
  refine h_aload_n dX10_waysHighest_2 rfl ?_
  refine h_getR dX10_waysHighest_3 f_X10_60_8 rfl rfl ?_
  refine h_iload_n dX10_waysHighest_6 rfl ?_
  refine h_ialdN (j := x) dX10_waysHighest_7 rfl rfl (by omega) rfl xy1.1 ?_
  refine h_istore dX10_waysHighest_8 (Nat.le_of_ble_eq_true rfl) ?_
  exact h0 _ _ _
