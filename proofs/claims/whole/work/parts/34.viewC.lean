def aw (x y : Nat) : Nat := if x < y then y - x else x - y
def lnQ (x y m : Nat) : Nat := m * 100 / (aw x y * aw x y + 1)
def lnS (x : Nat) (pp pm : Nat → Nat) : Nat → Int32
  | 0 => nI 0
  | p + 1 => lnS x pp pm p + (if pp p < x then - nI (lnQ x (pp p) (pm p)) else nI (lnQ x (pp p) (pm p)))
def ml4 (ml : Nat) : Nat := if ml = 0 then 4 else if ml = 1 then 2 else 1
def leanF (x np : Nat) (pp pm : Nat → Nat) (ml : Nat) : Int32 := lnS x pp pm np * nI (ml4 ml) / nI 4
def bdF (ki t a : Nat) : Nat := if ki = 1 then t * 2 else if ki = 2 then t / 2 else if ki = 3 then 0 else if ki = 4 then t * 2 + a / 10 else t / 2 + 1
def skF (ki a : Nat) : Nat := if ki = 1 then 3 else if ki = 2 then 5 else if ki = 3 then 1 else if ki = 4 then 3 + a / 50 else 10
def footF (lv ln sn : Int32) (ki t a : Nat) : Int32 := lv + (sn - nI (bdF ki t a) - ln) * nI a / nI 10 + nI (a * a / 200)
section VSPEC
variable (ns nl np ml nk nw : Nat) (pl fa fb sl pp pm ki fr tg wh bw : Nat → Nat) (rs sn : Nat → Int32) (fl : Nat → Bool) (qw : Nat → Nat → Nat → Nat → Bool) 
def awK (k : Nat) : Nat := aw (pl (fr k)) (pp (tg k))
def toK (k : Nat) : Nat := tol bw qw (ki k) (aw (pl (fr k)) (pp (tg k))) (wh k) nw
def ftS (s p kn : Nat) (sl0 : Int32) (w : Nat) : Int32 := footF (lvl fa fb sl rs nl s) (leanF (pl s) np pp pm ml) sl0 kn (tol bw qw kn (aw (pl s) (pp p)) w nw) (aw (pl s) (pp p))
def rcS (s p kn : Nat) : Nat := skF kn (aw (pl s) (pp p)) + dist fa fb sl nl s
def ftK (k : Nat) : Int32 := ftS nl np ml nw pl fa fb sl pp pm bw rs qw (fr k) (tg k) (ki k) (sn k) (wh k)
def rcK (k : Nat) : Nat := rcS nl pl fa fb sl pp (fr k) (tg k) (ki k)
def cnK (k : Nat) : Bool := fl k && decide (dist fa fb sl nl (fr k) < 1000000)
def inS (p : Nat) (e : Int32) (k : Nat) : Bool := decide (tg k = p) && decide (¬ nI k = e) && cnK nl fa fb sl fr fl k
def loK (k : Nat) : Int32 := ftK nl np ml nw pl fa fb sl pp pm ki fr tg wh bw rs sn qw k - nI (rcK nl pl fa fb sl pp ki fr tg k)
def hiK (k : Nat) : Int32 := ftK nl np ml nw pl fa fb sl pp pm ki fr tg wh bw rs sn qw k + nI (rcK nl pl fa fb sl pp ki fr tg k)
end VSPEC
def spG (P : Nat → Bool) (lo hi : Nat → Int32) : Nat → Option (Int32 × Int32)
  | 0 => none
  | k + 1 => if P k = true then (match spG P lo hi k with | none => some (lo k, hi k) | some q => some (if q.1 < lo k then lo k else q.1, if hi k < q.2 then hi k else q.2)) else spG P lo hi k
def spc (o : Option (Int32 × Int32)) : Int32 := match o with
  | none => -3
  | some q => if q.2 < q.1 then -4 else nI 0
/-- the class's rows of a view at cell B -/
def cV (I : hI) (B np ml nk : Nat) (pp pm ki fr tg wh : Nat → Nat) (sn : Nat → Int32) (fl : Nat → Bool) : Prop := I B 2 = nI np ∧ I B 5 = nI ml ∧ I B 6 = nI nk ∧ (∀ p, p < np → I (B + 17) p = nI (pp p) ∧ I (B + 18) p = nI (pm p)) ∧ (∀ k, k < nk → I (B + 19) k = nI (ki k) ∧ I (B + 20) k = nI (fr k) ∧ I (B + 21) k = nI (tg k) ∧ I (B + 22) k = sn k ∧ I (B + 23) k = nI (wh k)) ∧ ∀ k, k < nk → (I B 12 >>> (nI k &&& 31) &&& nI 1 = nI 1 ↔ fl k = false)
def viewW (ns np ml nk : Nat) (pp pm ki fr tg wh : Nat → Nat) (sn : Nat → Int32) : Prop := np ≤ 8 ∧ ml ≤ 2 ∧ nk ≤ 24 ∧ (∀ p, p < np → pp p ≤ 999 ∧ pm p ≤ 99) ∧ ∀ k, k < nk → 1 ≤ ki k ∧ ki k ≤ 5 ∧ fr k < ns ∧ tg k < np ∧ wh k / 100 ≤ 23 ∧ wh k % 100 ≤ 40 ∧ -99 ≤ (sn k).toInt ∧ (sn k).toInt ≤ 999
/-- the class's geometry -/
def cG (I : hI) (ns nl np ml nk nw : Nat) (pl fa fb sl pp pm ki fr tg wh bw : Nat → Nat) (rs sn : Nat → Int32) (fl : Nat → Bool) (qw : Nat → Nat → Nat → Nat → Bool)  : Prop := cNF I 2 ns nl pl fa fb sl rs ∧ netW ns nl pl fa fb sl rs ∧ cV I 1 np ml nk pp pm ki fr tg wh sn fl ∧ viewW ns np ml nk pp pm ki fr tg wh sn ∧ cL I 12 nw bw qw
theorem aw_le {x y : Nat} (hx : x ≤ 99) (hy : y ≤ 999) : aw x y ≤ 999 := by
  unfold aw
  by_cases h : x < y
  · rw [if_pos h]; omega
  · rw [if_neg h]; omega
theorem aw_abs {x y : Nat} (hx : x ≤ 99) (hy : y ≤ 999) : (if 0 ≤ nI x - nI y then nI x - nI y else 0 - (nI x - nI y)) = nI (aw x y) := by
  unfold aw
  by_cases h : x < y
  · rw [if_pos h, if_neg (by have := pk_sneg (a := x) (b := y) (by omega) h; rw [Int32.not_le]; exact this)]
    rw [Int32.zero_sub, Int32.neg_sub, pk_sub (by omega)]
  · rw [if_neg h, pk_sub (by omega), if_pos (nI_pos' (by omega))]
theorem aw_sq {x y : Nat} (hx : x ≤ 99) (hy : y ≤ 999) : aw x y * aw x y ≤ 998001 := Nat.mul_le_mul (aw_le hx hy) (aw_le hx hy)
theorem ml4_shr : ∀ ml, ml ≤ 2 → nI 4 >>> (nI ml &&& 31) = nI (ml4 ml) := by decide
theorem lnQ_le {x y m : Nat} (hm : m ≤ 99) : lnQ x y m ≤ 9900 := Nat.le_trans (Nat.div_le_self _ _) (by omega)
theorem c_away {l : Launch} {dp : Nat} {ns nl np ml nk nw : Nat} {pl fa fb sl pp pm ki fr tg wh bw : Nat → Nat} {rs sn : Nat → Int32} {fl : Nat → Bool} {qw : Nat → Nat → Nat → Nat → Bool} {I : hI} {J : hJ} {lt tx : Option Nat} {s p : Nat} {Q : hQ} (hG : cG I ns nl np ml nk nw pl fa fb sl pp pm ki fr tg wh bw rs sn fl qw) (hs : s < ns) (hp : p < np) (hQ : Q (some (.int (nI (aw (pl s) (pp p))))) hSH I J (hRR lt tx)) : HC l mX10_away (dp + 1) 0 0 [.ref 1, .int (nI s), .int (nI p)] hSH I J (hRR lt tx) Q := by
  refine HC.of (by decide +kernel) rfl (Nat.le_of_ble_eq_true rfl) ?_
  show HV l mX10_away (dp + 1) 0 0 0 [some (.ref 1), some (.int (nI s)), some (.int (nI p))] [] hSH I J (hRR lt tx) Q
  obtain ⟨⟨hN, hdo, hla, hlv⟩, hw, ⟨hnp, hml, hnk, hpt, hsi, hbt⟩, ⟨hn8, hm2, hn24, hpW, hsW⟩, hL⟩ := id hG
  obtain ⟨hns, hnl, hpl, hlg⟩ := id hN
  obtain ⟨hn6, hl12, hW, hp99, hr99⟩ := id hw
  have q1 := hp99 s hs
  have q2 := hpW p hp
  refine h_aload_n dX10_away_0 rfl ?_
  refine h_getR dX10_away_1 f_X10_12_8 rfl rfl ?_
  refine h_getR dX10_away_4 f_X10_69_5 rfl rfl ?_
  refine h_iload_n dX10_away_7 rfl ?_
  refine h_ialdN (j := s) dX10_away_8 rfl rfl (by omega) rfl (hpl _ (by omega)) ?_
  refine h_aload_n dX10_away_9 rfl ?_
  refine h_getR dX10_away_10 f_X10_29_8 rfl rfl ?_
  refine h_iload_n dX10_away_13 rfl ?_
  refine h_ialdN (j := p) dX10_away_14 rfl rfl (by omega) rfl (hpt _ (by omega)).1 ?_
  refine h_isub dX10_away_15 ?_
  refine h_mabs dX10_away_16 k2_220 k2_221 k1_14 k2_222 (Nat.le_of_ble_eq_true rfl) ?_
  refine h_ireturn dX10_away_19 rfl ?_
  rw [aw_abs (by omega) (by omega)]
  exact hQ
theorem c_awayOf {l : Launch} {dp : Nat} {ns nl np ml nk nw : Nat} {pl fa fb sl pp pm ki fr tg wh bw : Nat → Nat} {rs sn : Nat → Int32} {fl : Nat → Bool} {qw : Nat → Nat → Nat → Nat → Bool} {I : hI} {J : hJ} {lt tx : Option Nat} {k : Nat} {Q : hQ} (hG : cG I ns nl np ml nk nw pl fa fb sl pp pm ki fr tg wh bw rs sn fl qw) (hk : k < nk) (hQ : Q (some (.int (nI (aw (pl (fr k)) (pp (tg k)))))) hSH I J (hRR lt tx)) : HC l mX10_awayOf (dp + 2) 0 0 [.ref 1, .int (nI k)] hSH I J (hRR lt tx) Q := by
  refine HC.of (by decide +kernel) rfl (Nat.le_of_ble_eq_true rfl) ?_
  show HV l mX10_awayOf (dp + 2) 0 0 0 [some (.ref 1), some (.int (nI k))] [] hSH I J (hRR lt tx) Q
  obtain ⟨⟨hN, hdo, hla, hlv⟩, hw, ⟨hnp, hml, hnk, hpt, hsi, hbt⟩, ⟨hn8, hm2, hn24, hpW, hsW⟩, hL⟩ := id hG
  obtain ⟨hns, hnl, hpl, hlg⟩ := id hN
  obtain ⟨hn6, hl12, hW, hp99, hr99⟩ := id hw
  have q1 := hsW k hk
  refine h_aload_n dX10_awayOf_0 rfl ?_
  refine h_aload_n dX10_awayOf_1 rfl ?_
  refine h_getR dX10_awayOf_2 f_X10_45_8 rfl rfl ?_
  refine h_iload_n dX10_awayOf_5 rfl ?_
  refine h_ialdN (j := k) dX10_awayOf_6 rfl rfl (by omega) rfl (hsi _ (by omega)).2.1 ?_
  refine h_aload_n dX10_awayOf_7 rfl ?_
  refine h_getR dX10_awayOf_8 f_X10_48_8 rfl rfl ?_
  refine h_iload_n dX10_awayOf_11 rfl ?_
  refine h_ialdN (j := k) dX10_awayOf_12 rfl rfl (by omega) rfl (hsi _ (by omega)).2.2.1 ?_
  refine h_cV2 dX10_awayOf_13 k2_216 oVX10_away rfl rfl ?_
  refine c_away hG (by omega) (by omega) ?_
  refine h_ireturn dX10_awayOf_16 rfl ?_
  exact hQ
theorem c_slackOf {l : Launch} {dp : Nat} {ki a : Nat} {sh : hS} {I : hI} {J : hJ} {R : hR} {Q : hQ} (hk : ki ≤ 5) (ha : a ≤ 999) (hQ : Q (some (.int (nI (skF ki a)))) sh I J R) : HC l mX11_slackOf dp 0 0 [.int (nI ki), .int (nI a)] sh I J R Q := by
  refine HC.of (by decide +kernel) rfl (Nat.le_of_ble_eq_true rfl) ?_
  show HV l mX11_slackOf dp 0 0 0 [some (.int (nI ki)), some (.int (nI a))] [] sh I J R Q
  refine h_iload_n dX11_slackOf_0 rfl ?_
  by_cases s0 : nI ki = nI 1
  · refine h_tableIn (off := 31) (tgt := 32) dX11_slackOf_1 (by rw [s0]; decide) (by rw [s0]; decide) (by rw [s0]; decide) rfl ?_
    refine h_iconst dX11_slackOf_32 ci_3 ?_
    refine h_ireturn dX11_slackOf_33 rfl ?_
    rw [nI_eq (by omega) (by omega)] at s0
    unfold skF at hQ
    rw [if_pos s0] at hQ
    exact hQ
  by_cases s1 : nI ki = nI 2
  · refine h_tableIn (off := 33) (tgt := 34) dX11_slackOf_1 (by rw [s1]; decide) (by rw [s1]; decide) (by rw [s1]; decide) rfl ?_
    refine h_iconst dX11_slackOf_34 ci_5 ?_
    refine h_ireturn dX11_slackOf_35 rfl ?_
    rw [nI_eq (by omega) (by omega)] at s0
    rw [nI_eq (by omega) (by omega)] at s1
    unfold skF at hQ
    rw [if_neg s0, if_pos s1] at hQ
    exact hQ
  by_cases s2 : nI ki = nI 3
  · refine h_tableIn (off := 35) (tgt := 36) dX11_slackOf_1 (by rw [s2]; decide) (by rw [s2]; decide) (by rw [s2]; decide) rfl ?_
    refine h_iconst dX11_slackOf_36 ci_1 ?_
    refine h_ireturn dX11_slackOf_37 rfl ?_
    rw [nI_eq (by omega) (by omega)] at s0
    rw [nI_eq (by omega) (by omega)] at s1
    rw [nI_eq (by omega) (by omega)] at s2
    unfold skF at hQ
    rw [if_neg s0, if_neg s1, if_pos s2] at hQ
    exact hQ
  by_cases s3 : nI ki = nI 4
  · refine h_tableIn (off := 37) (tgt := 38) dX11_slackOf_1 (by rw [s3]; decide) (by rw [s3]; decide) (by rw [s3]; decide) rfl ?_
    refine h_iconst dX11_slackOf_38 ci_3 ?_
    refine h_iload_n dX11_slackOf_39 rfl ?_
    refine h_bipush dX11_slackOf_40 cb_50 ?_
    refine h_idivN dX11_slackOf_42 (by omega) (by omega) (by omega) ?_
    refine h_iaddN dX11_slackOf_43 ?_
    refine h_ireturn dX11_slackOf_44 rfl ?_
    rw [nI_eq (by omega) (by omega)] at s0
    rw [nI_eq (by omega) (by omega)] at s1
    rw [nI_eq (by omega) (by omega)] at s2
    rw [nI_eq (by omega) (by omega)] at s3
    unfold skF at hQ
    rw [if_neg s0, if_neg s1, if_neg s2, if_pos s3] at hQ
    exact hQ
  refine h_tableOut (tgt := 45) dX11_slackOf_1 (by have q0 := ti_ne s0 (by decide); have q1 := ti_ne s1 (by decide); have q2 := ti_ne s2 (by decide); have q3 := ti_ne s3 (by decide); omega) rfl ?_
  refine h_bipush dX11_slackOf_45 cb_10 ?_
  refine h_ireturn dX11_slackOf_47 rfl ?_
  rw [nI_eq (by omega) (by omega)] at s0
  rw [nI_eq (by omega) (by omega)] at s1
  rw [nI_eq (by omega) (by omega)] at s2
  rw [nI_eq (by omega) (by omega)] at s3
  unfold skF at hQ
  rw [if_neg s0, if_neg s1, if_neg s2, if_neg s3] at hQ
  exact hQ
theorem r_slackBy {l : Launch} {dp : Nat} {ki a : Nat} {sh : hS} {I : hI} {J : hJ} {R : hR} {Q : hQ} (hk : ki ≤ 5) (ha : a ≤ 999) (hQ : Q (some (.int (nI (skF ki a)))) sh I J R) : HC l mX12_slackBy dp 0 0 [.int (nI ki), .int (nI a)] sh I J R Q := by
  refine HC.of (by decide +kernel) rfl (Nat.le_of_ble_eq_true rfl) ?_
  show HV l mX12_slackBy dp 0 0 0 [some (.int (nI ki)), some (.int (nI a))] [] sh I J R Q
  refine h_iload_n dX12_slackBy_0 rfl ?_
  by_cases s0 : nI ki = nI 1
  · refine h_tableIn (off := 31) (tgt := 32) dX12_slackBy_1 (by rw [s0]; decide) (by rw [s0]; decide) (by rw [s0]; decide) rfl ?_
    refine h_iconst dX12_slackBy_32 ci_3 ?_
    refine h_ireturn dX12_slackBy_33 rfl ?_
    rw [nI_eq (by omega) (by omega)] at s0
    unfold skF at hQ
    rw [if_pos s0] at hQ
    exact hQ
  by_cases s1 : nI ki = nI 2
  · refine h_tableIn (off := 33) (tgt := 34) dX12_slackBy_1 (by rw [s1]; decide) (by rw [s1]; decide) (by rw [s1]; decide) rfl ?_
    refine h_iconst dX12_slackBy_34 ci_5 ?_
    refine h_ireturn dX12_slackBy_35 rfl ?_
    rw [nI_eq (by omega) (by omega)] at s0
    rw [nI_eq (by omega) (by omega)] at s1
    unfold skF at hQ
    rw [if_neg s0, if_pos s1] at hQ
    exact hQ
  by_cases s2 : nI ki = nI 3
  · refine h_tableIn (off := 35) (tgt := 36) dX12_slackBy_1 (by rw [s2]; decide) (by rw [s2]; decide) (by rw [s2]; decide) rfl ?_
    refine h_iconst dX12_slackBy_36 ci_1 ?_
    refine h_ireturn dX12_slackBy_37 rfl ?_
    rw [nI_eq (by omega) (by omega)] at s0
    rw [nI_eq (by omega) (by omega)] at s1
    rw [nI_eq (by omega) (by omega)] at s2
    unfold skF at hQ
    rw [if_neg s0, if_neg s1, if_pos s2] at hQ
    exact hQ
  by_cases s3 : nI ki = nI 4
  · refine h_tableIn (off := 37) (tgt := 38) dX12_slackBy_1 (by rw [s3]; decide) (by rw [s3]; decide) (by rw [s3]; decide) rfl ?_
    refine h_iconst dX12_slackBy_38 ci_3 ?_
    refine h_iload_n dX12_slackBy_39 rfl ?_
    refine h_bipush dX12_slackBy_40 cb_50 ?_
    refine h_idivN dX12_slackBy_42 (by omega) (by omega) (by omega) ?_
    refine h_iaddN dX12_slackBy_43 ?_
    refine h_ireturn dX12_slackBy_44 rfl ?_
    rw [nI_eq (by omega) (by omega)] at s0
    rw [nI_eq (by omega) (by omega)] at s1
    rw [nI_eq (by omega) (by omega)] at s2
    rw [nI_eq (by omega) (by omega)] at s3
    unfold skF at hQ
    rw [if_neg s0, if_neg s1, if_neg s2, if_pos s3] at hQ
    exact hQ
  refine h_tableOut (tgt := 45) dX12_slackBy_1 (by have q0 := ti_ne s0 (by decide); have q1 := ti_ne s1 (by decide); have q2 := ti_ne s2 (by decide); have q3 := ti_ne s3 (by decide); omega) rfl ?_
  refine h_bipush dX12_slackBy_45 cb_10 ?_
  refine h_ireturn dX12_slackBy_47 rfl ?_
  rw [nI_eq (by omega) (by omega)] at s0
  rw [nI_eq (by omega) (by omega)] at s1
  rw [nI_eq (by omega) (by omega)] at s2
  rw [nI_eq (by omega) (by omega)] at s3
  unfold skF at hQ
  rw [if_neg s0, if_neg s1, if_neg s2, if_neg s3] at hQ
  exact hQ
theorem c_bendOf {l : Launch} {dp : Nat} {ki t a : Nat} {sh : hS} {I : hI} {J : hJ} {R : hR} {Q : hQ} (hk : ki ≤ 5) (ht : t ≤ 99) (ha : a ≤ 999) (hQ : Q (some (.int (nI (bdF ki t a)))) sh I J R) : HC l mX11_bendOf dp 0 0 [.int (nI ki), .int (nI t), .int (nI a)] sh I J R Q := by
  refine HC.of (by decide +kernel) rfl (Nat.le_of_ble_eq_true rfl) ?_
  show HV l mX11_bendOf dp 0 0 0 [some (.int (nI ki)), some (.int (nI t)), some (.int (nI a))] [] sh I J R Q
  refine h_iload_n dX11_bendOf_0 rfl ?_
  by_cases s0 : nI ki = nI 1
  · refine h_tableIn (off := 31) (tgt := 32) dX11_bendOf_1 (by rw [s0]; decide) (by rw [s0]; decide) (by rw [s0]; decide) rfl ?_
    refine h_iload_n dX11_bendOf_32 rfl ?_
    refine h_iconst dX11_bendOf_33 ci_2 ?_
    refine h_imulN dX11_bendOf_34 ?_
    refine h_ireturn dX11_bendOf_35 rfl ?_
    rw [nI_eq (by omega) (by omega)] at s0
    unfold bdF at hQ
    rw [if_pos s0] at hQ
    exact hQ
  by_cases s1 : nI ki = nI 2
  · refine h_tableIn (off := 35) (tgt := 36) dX11_bendOf_1 (by rw [s1]; decide) (by rw [s1]; decide) (by rw [s1]; decide) rfl ?_
    refine h_iload_n dX11_bendOf_36 rfl ?_
    refine h_iconst dX11_bendOf_37 ci_2 ?_
    refine h_idivN dX11_bendOf_38 (by omega) (by omega) (by omega) ?_
    refine h_ireturn dX11_bendOf_39 rfl ?_
    rw [nI_eq (by omega) (by omega)] at s0
    rw [nI_eq (by omega) (by omega)] at s1
    unfold bdF at hQ
    rw [if_neg s0, if_pos s1] at hQ
    exact hQ
  by_cases s2 : nI ki = nI 3
  · refine h_tableIn (off := 39) (tgt := 40) dX11_bendOf_1 (by rw [s2]; decide) (by rw [s2]; decide) (by rw [s2]; decide) rfl ?_
    refine h_iconst dX11_bendOf_40 ci_0 ?_
    refine h_ireturn dX11_bendOf_41 rfl ?_
    rw [nI_eq (by omega) (by omega)] at s0
    rw [nI_eq (by omega) (by omega)] at s1
    rw [nI_eq (by omega) (by omega)] at s2
    unfold bdF at hQ
    rw [if_neg s0, if_neg s1, if_pos s2] at hQ
    exact hQ
  by_cases s3 : nI ki = nI 4
  · refine h_tableIn (off := 41) (tgt := 42) dX11_bendOf_1 (by rw [s3]; decide) (by rw [s3]; decide) (by rw [s3]; decide) rfl ?_
    refine h_iload_n dX11_bendOf_42 rfl ?_
    refine h_iconst dX11_bendOf_43 ci_2 ?_
    refine h_imulN dX11_bendOf_44 ?_
    refine h_iload_n dX11_bendOf_45 rfl ?_
    refine h_bipush dX11_bendOf_46 cb_10 ?_
    refine h_idivN dX11_bendOf_48 (by omega) (by omega) (by omega) ?_
    refine h_iaddN dX11_bendOf_49 ?_
    refine h_ireturn dX11_bendOf_50 rfl ?_
    rw [nI_eq (by omega) (by omega)] at s0
    rw [nI_eq (by omega) (by omega)] at s1
    rw [nI_eq (by omega) (by omega)] at s2
    rw [nI_eq (by omega) (by omega)] at s3
    unfold bdF at hQ
    rw [if_neg s0, if_neg s1, if_neg s2, if_pos s3] at hQ
    exact hQ
  refine h_tableOut (tgt := 51) dX11_bendOf_1 (by have q0 := ti_ne s0 (by decide); have q1 := ti_ne s1 (by decide); have q2 := ti_ne s2 (by decide); have q3 := ti_ne s3 (by decide); omega) rfl ?_
  refine h_iload_n dX11_bendOf_51 rfl ?_
  refine h_iconst dX11_bendOf_52 ci_2 ?_
  refine h_idivN dX11_bendOf_53 (by omega) (by omega) (by omega) ?_
  refine h_iconst dX11_bendOf_54 ci_1 ?_
  refine h_iaddN dX11_bendOf_55 ?_
  refine h_ireturn dX11_bendOf_56 rfl ?_
  rw [nI_eq (by omega) (by omega)] at s0
  rw [nI_eq (by omega) (by omega)] at s1
  rw [nI_eq (by omega) (by omega)] at s2
  rw [nI_eq (by omega) (by omega)] at s3
  unfold bdF at hQ
  rw [if_neg s0, if_neg s1, if_neg s2, if_neg s3] at hQ
  exact hQ
theorem r_bendBy {l : Launch} {dp : Nat} {ki t a : Nat} {sh : hS} {I : hI} {J : hJ} {R : hR} {Q : hQ} (hk : ki ≤ 5) (ht : t ≤ 99) (ha : a ≤ 999) (hQ : Q (some (.int (nI (bdF ki t a)))) sh I J R) : HC l mX12_bendBy dp 0 0 [.ref 82, .int (nI ki), .int (nI t), .int (nI a)] sh I J R Q := by
  refine HC.of (by decide +kernel) rfl (Nat.le_of_ble_eq_true rfl) ?_
  show HV l mX12_bendBy dp 0 0 0 [some (.ref 82), some (.int (nI ki)), some (.int (nI t)), some (.int (nI a))] [] sh I J R Q
  refine h_iload_n dX12_bendBy_0 rfl ?_
  by_cases s0 : nI ki = nI 1
  · refine h_tableIn (off := 31) (tgt := 32) dX12_bendBy_1 (by rw [s0]; decide) (by rw [s0]; decide) (by rw [s0]; decide) rfl ?_
    refine h_iconst dX12_bendBy_32 ci_2 ?_
    refine h_iload_n dX12_bendBy_33 rfl ?_
    refine h_imulN dX12_bendBy_34 ?_
    refine h_ireturn dX12_bendBy_35 rfl ?_
    rw [nI_eq (by omega) (by omega)] at s0
    unfold bdF at hQ
    rw [if_pos s0] at hQ
    try rw [Nat.mul_comm 2 t]
    exact hQ
  by_cases s1 : nI ki = nI 2
  · refine h_tableIn (off := 35) (tgt := 36) dX12_bendBy_1 (by rw [s1]; decide) (by rw [s1]; decide) (by rw [s1]; decide) rfl ?_
    refine h_iload_n dX12_bendBy_36 rfl ?_
    refine h_iconst dX12_bendBy_37 ci_2 ?_
    refine h_idivN dX12_bendBy_38 (by omega) (by omega) (by omega) ?_
    refine h_ireturn dX12_bendBy_39 rfl ?_
    rw [nI_eq (by omega) (by omega)] at s0
    rw [nI_eq (by omega) (by omega)] at s1
    unfold bdF at hQ
    rw [if_neg s0, if_pos s1] at hQ
    try rw [Nat.mul_comm 2 t]
    exact hQ
  by_cases s2 : nI ki = nI 3
  · refine h_tableIn (off := 39) (tgt := 40) dX12_bendBy_1 (by rw [s2]; decide) (by rw [s2]; decide) (by rw [s2]; decide) rfl ?_
    refine h_iconst dX12_bendBy_40 ci_0 ?_
    refine h_ireturn dX12_bendBy_41 rfl ?_
    rw [nI_eq (by omega) (by omega)] at s0
    rw [nI_eq (by omega) (by omega)] at s1
    rw [nI_eq (by omega) (by omega)] at s2
    unfold bdF at hQ
    rw [if_neg s0, if_neg s1, if_pos s2] at hQ
    try rw [Nat.mul_comm 2 t]
    exact hQ
  by_cases s3 : nI ki = nI 4
  · refine h_tableIn (off := 41) (tgt := 42) dX12_bendBy_1 (by rw [s3]; decide) (by rw [s3]; decide) (by rw [s3]; decide) rfl ?_
    refine h_iconst dX12_bendBy_42 ci_2 ?_
    refine h_iload_n dX12_bendBy_43 rfl ?_
    refine h_imulN dX12_bendBy_44 ?_
    refine h_iload_n dX12_bendBy_45 rfl ?_
    refine h_bipush dX12_bendBy_46 cb_10 ?_
    refine h_idivN dX12_bendBy_48 (by omega) (by omega) (by omega) ?_
    refine h_iaddN dX12_bendBy_49 ?_
    refine h_ireturn dX12_bendBy_50 rfl ?_
    rw [nI_eq (by omega) (by omega)] at s0
    rw [nI_eq (by omega) (by omega)] at s1
    rw [nI_eq (by omega) (by omega)] at s2
    rw [nI_eq (by omega) (by omega)] at s3
    unfold bdF at hQ
    rw [if_neg s0, if_neg s1, if_neg s2, if_pos s3] at hQ
    try rw [Nat.mul_comm 2 t]
    exact hQ
  refine h_tableOut (tgt := 51) dX12_bendBy_1 (by have q0 := ti_ne s0 (by decide); have q1 := ti_ne s1 (by decide); have q2 := ti_ne s2 (by decide); have q3 := ti_ne s3 (by decide); omega) rfl ?_
  refine h_iload_n dX12_bendBy_51 rfl ?_
  refine h_iconst dX12_bendBy_52 ci_2 ?_
  refine h_idivN dX12_bendBy_53 (by omega) (by omega) (by omega) ?_
  refine h_iconst dX12_bendBy_54 ci_1 ?_
  refine h_iaddN dX12_bendBy_55 ?_
  refine h_ireturn dX12_bendBy_56 rfl ?_
  rw [nI_eq (by omega) (by omega)] at s0
  rw [nI_eq (by omega) (by omega)] at s1
  rw [nI_eq (by omega) (by omega)] at s2
  rw [nI_eq (by omega) (by omega)] at s3
  unfold bdF at hQ
  rw [if_neg s0, if_neg s1, if_neg s2, if_neg s3] at hQ
  try rw [Nat.mul_comm 2 t]
  exact hQ
theorem c_lean {l : Launch} {dp : Nat} {ns nl np ml nk nw : Nat} {pl fa fb sl pp pm ki fr tg wh bw : Nat → Nat} {rs sn : Nat → Int32} {fl : Nat → Bool} {qw : Nat → Nat → Nat → Nat → Bool} {I : hI} {J : hJ} {lt tx : Option Nat} {s : Nat} {Q : hQ} (hG : cG I ns nl np ml nk nw pl fa fb sl pp pm ki fr tg wh bw rs sn fl qw) (hs : s < ns) (hQ : Q (some (.int (leanF (pl s) np pp pm ml))) hSH I J (hRR lt tx)) : HC l mX10_lean (dp + 2) 0 0 [.ref 1, .int (nI s)] hSH I J (hRR lt tx) Q := by
  refine HC.of (by decide +kernel) rfl (Nat.le_of_ble_eq_true rfl) ?_
  obtain ⟨⟨hN, hdo, hla, hlv⟩, hw, ⟨hnp, hml, hnk, hpt, hsi, hbt⟩, ⟨hn8, hm2, hn24, hpW, hsW⟩, hL⟩ := id hG
  obtain ⟨hns, hnl, hpl, hlg⟩ := id hN
  obtain ⟨hn6, hl12, hW, hp99, hr99⟩ := id hw
  have Lo : ∀ (m p : Nat) (v : Int32), np - p < m → p ≤ np → v = lnS (pl s) pp pm p → ∀ z4 z5, HV l mX10_lean (dp + 2) 0 0 4 [some (.ref 1), some (.int (nI s)), some (.int v), some (.int (nI p)), z4, z5] [] hSH I J (hRR lt tx) Q := by
    intro m
    induction m with
    | zero => intro p v h1 h2 hv z4 z5; omega
    | succ m ih =>
      intro p v h1 h2 hv z4 z5
      refine h_iload_n dX10_lean_4 rfl ?_
      refine h_aload_n dX10_lean_5 rfl ?_
      refine h_getI dX10_lean_6 f_X10_25_8 rfl hnp ?_
      refine h_icmpge (tgt := 74) dX10_lean_9 rfl (fun c_9 => ?_) (fun c_9 => ?_)
      · rw [nI_leI (by omega) (by omega)] at c_9
        have ep : p = np := by omega
        subst ep
        subst hv
        refine h_iload_n dX10_lean_74 rfl ?_
        refine h_iconst dX10_lean_75 ci_4 ?_
        refine h_aload_n dX10_lean_76 rfl ?_
        refine h_getI dX10_lean_77 f_X10_36_8 rfl hml ?_
        refine h_ishr dX10_lean_80 ?_
        refine h_imul dX10_lean_81 ?_
        refine h_iconst dX10_lean_82 ci_4 ?_
        refine h_idiv dX10_lean_83 (by decide) ?_
        refine h_ireturn dX10_lean_84 rfl ?_
        rw [ml4_shr ml hm2]
        exact hQ
      · rw [nI_leI (by omega) (by omega)] at c_9
        have q1 := hp99 s hs
        have q2 := hpW p (by omega)
        have q3 := aw_sq q1 q2.1
        refine h_aload_n dX10_lean_12 rfl ?_
        refine h_iload_n dX10_lean_13 rfl ?_
        refine h_iload_n dX10_lean_14 rfl ?_
        refine h_cV2 dX10_lean_15 k2_216 oVX10_away rfl rfl ?_
        refine c_away hG (by omega) (by omega) ?_
        refine h_istore dX10_lean_18 (Nat.le_of_ble_eq_true rfl) ?_
        refine h_aload_n dX10_lean_20 rfl ?_
        refine h_getR dX10_lean_21 f_X10_33_8 rfl rfl ?_
        refine h_iload_n dX10_lean_24 rfl ?_
        refine h_ialdN (j := p) dX10_lean_25 rfl rfl (by omega) rfl (hpt _ (by omega)).2 ?_
        refine h_bipush dX10_lean_26 cb_100 ?_
        refine h_imulN dX10_lean_28 ?_
        refine h_iload dX10_lean_29 rfl ?_
        refine h_iload dX10_lean_31 rfl ?_
        refine h_imulN dX10_lean_33 ?_
        refine h_iconst dX10_lean_34 ci_1 ?_
        refine h_iaddN dX10_lean_35 ?_
        refine h_idivN dX10_lean_36 (by omega) (by omega) (by omega) ?_
        refine h_istore dX10_lean_37 (Nat.le_of_ble_eq_true rfl) ?_
        refine h_iload_n dX10_lean_39 rfl ?_
        refine h_aload_n dX10_lean_40 rfl ?_
        refine h_getR dX10_lean_41 f_X10_29_8 rfl rfl ?_
        refine h_iload_n dX10_lean_44 rfl ?_
        refine h_ialdN (j := p) dX10_lean_45 rfl rfl (by omega) rfl (hpt _ (by omega)).1 ?_
        refine h_aload_n dX10_lean_46 rfl ?_
        refine h_getR dX10_lean_47 f_X10_12_8 rfl rfl ?_
        refine h_getR dX10_lean_50 f_X10_69_5 rfl rfl ?_
        refine h_iload_n dX10_lean_53 rfl ?_
        refine h_ialdN (j := s) dX10_lean_54 rfl rfl (by omega) rfl (hpl _ (by omega)) ?_
        refine h_icmpge (tgt := 64) dX10_lean_55 rfl (fun c_55 => ?_) (fun c_55 => ?_)
        · rw [nI_leI (by omega) (by omega)] at c_55
          refine h_iload dX10_lean_64 rfl ?_
          refine h_iadd dX10_lean_66 ?_
          refine h_istore_n dX10_lean_67 (Nat.le_of_ble_eq_true rfl) ?_
          refine h_iinc (v := nI (p + 1)) dX10_lean_68 rfl (nI_1 _) (Nat.le_of_ble_eq_true rfl) ?_
          refine h_goto (tgt := 4) dX10_lean_71 rfl ?_
          exact ih (p + 1) _ (by omega) (by omega) (by rw [hv]; show _ = lnS _ _ _ p + (if _ then _ else _); rw [if_neg (by omega)]; rfl) _ _
        · rw [nI_leI (by omega) (by omega)] at c_55
          refine h_iload dX10_lean_58 rfl ?_
          refine h_ineg dX10_lean_60 ?_
          refine h_goto (tgt := 66) dX10_lean_61 rfl ?_
          refine h_iadd dX10_lean_66 ?_
          refine h_istore_n dX10_lean_67 (Nat.le_of_ble_eq_true rfl) ?_
          refine h_iinc (v := nI (p + 1)) dX10_lean_68 rfl (nI_1 _) (Nat.le_of_ble_eq_true rfl) ?_
          refine h_goto (tgt := 4) dX10_lean_71 rfl ?_
          exact ih (p + 1) _ (by omega) (by omega) (by rw [hv]; show _ = lnS _ _ _ p + (if _ then _ else _); rw [if_pos (by omega)]; rfl) _ _
  show HV l mX10_lean (dp + 2) 0 0 0 [some (.ref 1), some (.int (nI s)), none, none, none, none] [] hSH I J (hRR lt tx) Q
  refine h_iconst dX10_lean_0 ci_0 ?_
  refine h_istore_n dX10_lean_1 (Nat.le_of_ble_eq_true rfl) ?_
  refine h_iconst dX10_lean_2 ci_0 ?_
  refine h_istore_n dX10_lean_3 (Nat.le_of_ble_eq_true rfl) ?_
  exact Lo (np + 1) 0 _ (by omega) (by omega) rfl _ _
