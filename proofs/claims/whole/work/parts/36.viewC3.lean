def bt (x : Int32) (i : Nat) : Bool := x.toBitVec.getLsbD i
theorem b_ext {x y : Int32} (h : ∀ i, i < 32 → bt x i = bt y i) : x = y := Int32.toBitVec_inj.mp (BitVec.eq_of_getLsbD_eq (fun i hi => h i hi))
theorem b_or (x y : Int32) (i : Nat) : bt (x ||| y) i = (bt x i || bt y i) := by unfold bt; rw [Int32.toBitVec_or, BitVec.getLsbD_or]
theorem b_and (x y : Int32) (i : Nat) : bt (x &&& y) i = (bt x i && bt y i) := by unfold bt; rw [Int32.toBitVec_and, BitVec.getLsbD_and]
theorem b_xor (x y : Int32) (i : Nat) : bt (x ^^^ y) i = (bt x i ^^ bt y i) := by unfold bt; rw [Int32.toBitVec_xor, BitVec.getLsbD_xor]
theorem b_big {x : Int32} {i : Nat} (h : 32 ≤ i) : bt x i = false := BitVec.getLsbD_of_ge _ _ h
theorem b_255 (i : Nat) : bt 255 i = decide (i < 8) := by
  rcases Nat.lt_or_ge i 32 with h | h
  · exact (by decide +kernel : ∀ i, i < 32 → bt 255 i = decide (i < 8)) i h
  · rw [b_big h, decide_eq_false (by omega)]
theorem b_65535 (i : Nat) : bt 65535 i = decide (i < 16) := by
  rcases Nat.lt_or_ge i 32 with h | h
  · exact (by decide +kernel : ∀ i, i < 32 → bt 65535 i = decide (i < 16)) i h
  · rw [b_big h, decide_eq_false (by omega)]
theorem b_m1 : ∀ i, i < 32 → bt (-1) i = true := by decide +kernel
theorem b_0 (i : Nat) : bt 0 i = false := BitVec.getLsbD_zero
theorem s_l : ∀ n, n < 32 → ((nI n &&& 31).toBitVec.smod 32).toNat = n := by decide +kernel
theorem s_u : ∀ n, n < 32 → (((nI n).toUInt32 &&& Int32.toUInt32 31).toBitVec % 32).toNat = n := by decide +kernel
theorem b_shl (n : Nat) (hn : n < 32) (x : Int32) {i : Nat} (hi : i < 32) : bt (x <<< (nI n &&& 31)) i = (decide (n ≤ i) && bt x (i - n)) := by
  unfold bt
  rw [Int32.toBitVec_shiftLeft]
  show (x.toBitVec <<< ((nI n &&& 31).toBitVec.smod 32).toNat).getLsbD i = _
  rw [s_l n hn, BitVec.getLsbD_shiftLeft]
  rcases Nat.lt_or_ge i n with h | h
  · simp [h, Nat.not_le.mpr h]
  · simp [hi, h, Nat.not_lt.mpr h]
theorem b_ushr (n : Nat) (hn : n < 32) (x : Int32) (i : Nat) : bt ((x.toUInt32 >>> ((nI n).toUInt32 &&& Int32.toUInt32 31)).toInt32) i = bt x (n + i) := by
  show (x.toUInt32 >>> ((nI n).toUInt32 &&& Int32.toUInt32 31)).toBitVec.getLsbD i = x.toUInt32.toBitVec.getLsbD (n + i)
  rw [UInt32.toBitVec_shiftRight]
  show (x.toUInt32.toBitVec >>> (((nI n).toUInt32 &&& Int32.toUInt32 31).toBitVec % 32).toNat).getLsbD i = _
  rw [s_u n hn, BitVec.getLsbD_ushiftRight]
theorem b_sshr (n : Nat) (hn : n < 32) (x : Int32) {i : Nat} (hi : i < 32) : bt (x >>> (nI n &&& 31)) i = if n + i < 32 then bt x (n + i) else bt x 31 := by
  unfold bt
  rw [Int32.toBitVec_shiftRight]
  show (x.toBitVec.sshiftRight ((nI n &&& 31).toBitVec.smod 32).toNat).getLsbD i = _
  rw [s_l n hn, BitVec.getLsbD_sshiftRight, BitVec.msb_eq_getLsbD_last]
  simp [hi]
theorem b_shl8 (x : Int32) {i : Nat} (hi : i < 32) : bt (x <<< ((8 : Int32) &&& 31)) i = (decide (8 ≤ i) && bt x (i - 8)) := b_shl 8 (by omega) x hi
theorem b_shl16 (x : Int32) {i : Nat} (hi : i < 32) : bt (x <<< ((16 : Int32) &&& 31)) i = (decide (16 ≤ i) && bt x (i - 16)) := b_shl 16 (by omega) x hi
theorem b_shl24 (x : Int32) {i : Nat} (hi : i < 32) : bt (x <<< ((24 : Int32) &&& 31)) i = (decide (24 ≤ i) && bt x (i - 24)) := b_shl 24 (by omega) x hi
theorem b_sshr8 (x : Int32) {i : Nat} (hi : i < 32) : bt (x >>> ((8 : Int32) &&& 31)) i = if 8 + i < 32 then bt x (8 + i) else bt x 31 := b_sshr 8 (by omega) x hi
theorem b_one (x : Int32) : (x &&& nI 1 = nI 1) ↔ bt x 0 = true := by
  constructor
  · intro h
    have := congrArg (fun z => bt z 0) h
    simp only [b_and] at this
    rw [show bt (nI 1) 0 = true by decide] at this
    simpa using this
  · intro h
    apply b_ext
    intro i hi
    rw [b_and]
    by_cases e : i = 0
    · subst e; rw [h]; rfl
    · rw [show bt (nI 1) i = false by
        have : ∀ i, i < 32 → i ≠ 0 → bt (nI 1) i = false := by decide +kernel
        exact this i hi e]
      simp
theorem b_test (v : Int32) {k : Nat} (hk : k < 32) : (v >>> (nI k &&& 31) &&& nI 1 = nI 1) ↔ bt v k = true := by
  rw [b_one, b_sshr k hk v (by decide), if_pos (by omega), Nat.add_zero]
theorem b_bit1 : ∀ n, n < 32 → ∀ i, i < 32 → bt (nI 1 <<< (nI n &&& 31)) i = decide (i = n) := by decide +kernel
theorem b_clr (v : Int32) {n k : Nat} (hn : n < 32) (hk : k < 32) : bt (v &&& ((nI 1 <<< (nI n &&& 31)) ^^^ -1)) k = (bt v k && !decide (k = n)) := by
  rw [b_and, b_xor, b_bit1 n hn k hk, b_m1 k hk]
  simp
theorem b_flip (v : Int32) {n k : Nat} (hn : n < 32) (hk : k < 32) : bt (v ^^^ (nI 1 <<< (nI n &&& 31))) k = (bt v k ^^ decide (k = n)) := by
  rw [b_xor, b_bit1 n hn k hk]
theorem up3 (I : hI) {a b c : Nat} (h1 : a ≠ b) (h2 : a ≠ c) (h3 : b ≠ c) (f1 f2 f3 g1 g2 g3 : Nat → Int32) : upA (upA (upA (upA (upA (upA I a f1) b f2) c f3) a g1) b g2) c g3 = upA (upA (upA I a g1) b g2) c g3 := by
  funext x
  by_cases e1 : x = c
  · simp [upA, e1]
  · by_cases e2 : x = b
    · simp [upA, e2, h3]
    · by_cases e3 : x = a
      · simp [upA, e3, h1, h2]
      · simp [upA, e1, e2, e3]
theorem lg_le (x y : Int64) : lg_cmp x y ≤ 0 ↔ ¬ y < x := by
  unfold lg_cmp
  by_cases h : x > y
  · rw [if_pos h]; exact ⟨fun z => absurd z (by decide), fun z => absurd h z⟩
  · rw [if_neg h]
    by_cases h2 : x = y
    · rw [if_pos h2]; exact ⟨fun _ => h, fun _ => by decide⟩
    · rw [if_neg h2]; exact ⟨fun _ => h, fun _ => by decide⟩
def ctr (f : Nat → Int32) : Nat → Nat
  | 0 => 0
  | p + 1 => if f p = -4 then 1 else ctr f p
theorem c_measureAll {l : Launch} {dp : Nat} {ns nl np ml nk nw : Nat} {pl fa fb sl pp pm ki fr tg wh bw : Nat → Nat} {rs sn : Nat → Int32} {fl : Nat → Bool} {qw : Nat → Nat → Nat → Nat → Bool} {I : hI} {J : hJ} {lt tx : Option Nat} {Q : hQ} (hG : cG I ns nl np ml nk nw pl fa fb sl pp pm ki fr tg wh bw rs sn fl qw) (hQ : ∀ g1 g2 g3, (∀ q, q < np → spA (spG (inS nl fa fb sl fr tg fl q (-9)) (loK nl np ml nw pl fa fb sl pp pm ki fr tg wh bw rs sn qw) (hiK nl np ml nw pl fa fb sl pp pm ki fr tg wh bw rs sn qw) nk) g1 g2 q ∧ g3 q = spc (spG (inS nl fa fb sl fr tg fl q (-9)) (loK nl np ml nw pl fa fb sl pp pm ki fr tg wh bw rs sn qw) (hiK nl np ml nw pl fa fb sl pp pm ki fr tg wh bw rs sn qw) nk)) → Q (some (.int (nI (ctr (fun p => spc (spG (inS nl fa fb sl fr tg fl p (-9)) (loK nl np ml nw pl fa fb sl pp pm ki fr tg wh bw rs sn qw) (hiK nl np ml nw pl fa fb sl pp pm ki fr tg wh bw rs sn qw) nk)) np)))) hSH (upA (upA (upA I 25 g1) 26 g2) 27 g3) J (hRR lt tx)) : HC l mX10_measureAll (dp + 6) 0 0 [.ref 1] hSH I J (hRR lt tx) Q := by
  refine HC.of (by decide +kernel) rfl (Nat.le_of_ble_eq_true rfl) ?_
  obtain ⟨⟨hN, hdo, hla, hlv⟩, hw, ⟨hnp, hml, hnk, hpt, hsi, hbt⟩, ⟨hn8, hm2, hn24, hpW, hsW⟩, hL⟩ := id hG
  obtain ⟨hns, hnl, hpl, hlg⟩ := id hN
  obtain ⟨hn6, hl12, hW, hp99, hr99⟩ := id hw
  have Lo : ∀ (m p : Nat) (g1 g2 g3 : Nat → Int32), np - p < m → p ≤ np → (∀ q, q < p → spA (spG (inS nl fa fb sl fr tg fl q (-9)) (loK nl np ml nw pl fa fb sl pp pm ki fr tg wh bw rs sn qw) (hiK nl np ml nw pl fa fb sl pp pm ki fr tg wh bw rs sn qw) nk) g1 g2 q ∧ g3 q = spc (spG (inS nl fa fb sl fr tg fl q (-9)) (loK nl np ml nw pl fa fb sl pp pm ki fr tg wh bw rs sn qw) (hiK nl np ml nw pl fa fb sl pp pm ki fr tg wh bw rs sn qw) nk)) → HV l mX10_measureAll (dp + 6) 0 0 4 [some (.ref 1), some (.int (nI (ctr (fun p => spc (spG (inS nl fa fb sl fr tg fl p (-9)) (loK nl np ml nw pl fa fb sl pp pm ki fr tg wh bw rs sn qw) (hiK nl np ml nw pl fa fb sl pp pm ki fr tg wh bw rs sn qw) nk)) p))), some (.int (nI p))] [] hSH (upA (upA (upA I 25 g1) 26 g2) 27 g3) J (hRR lt tx) Q := by
    intro m
    induction m with
    | zero => intro p g1 g2 g3 h1 h2 hs; omega
    | succ m ih =>
      intro p g1 g2 g3 h1 h2 hs
      refine h_iload_n dX10_measureAll_4 rfl ?_
      refine h_aload_n dX10_measureAll_5 rfl ?_
      refine h_getI dX10_measureAll_6 f_X10_25_8 rfl hnp ?_
      refine h_icmpge (tgt := 32) dX10_measureAll_9 rfl (fun c_9 => ?_) (fun c_9 => ?_)
      · rw [nI_leI (by omega) (by omega)] at c_9
        refine h_iload_n dX10_measureAll_32 rfl ?_
        refine h_zreturn dX10_measureAll_33 rfl (by
  have : ∀ n, ctr (fun p => spc (spG (inS nl fa fb sl fr tg fl p (-9)) (loK nl np ml nw pl fa fb sl pp pm ki fr tg wh bw rs sn qw) (hiK nl np ml nw pl fa fb sl pp pm ki fr tg wh bw rs sn qw) nk)) n = 0 ∨ ctr (fun p => spc (spG (inS nl fa fb sl fr tg fl p (-9)) (loK nl np ml nw pl fa fb sl pp pm ki fr tg wh bw rs sn qw) (hiK nl np ml nw pl fa fb sl pp pm ki fr tg wh bw rs sn qw) nk)) n = 1 := fun n => by
    induction n with
    | zero => exact Or.inl rfl
    | succ n ih => unfold ctr; by_cases e : (fun p => spc (spG (inS nl fa fb sl fr tg fl p (-9)) (loK nl np ml nw pl fa fb sl pp pm ki fr tg wh bw rs sn qw) (hiK nl np ml nw pl fa fb sl pp pm ki fr tg wh bw rs sn qw) nk)) n = -4
                   · rw [if_pos e]; exact Or.inr rfl
                   · rw [if_neg e]; exact ih
  rcases this p with e | e <;> rw [e]
  · exact Or.inl rfl
  · exact Or.inr rfl) ?_
        have ep : np = p := by omega
        subst ep
        exact hQ g1 g2 g3 hs
      · rw [nI_leI (by omega) (by omega)] at c_9
        refine h_aload_n dX10_measureAll_12 rfl ?_
        refine h_iload_n dX10_measureAll_13 rfl ?_
        refine h_bipush dX10_measureAll_14 cb_m9 ?_
        refine h_cV2 dX10_measureAll_16 k3_144 oVX10_measure rfl rfl ?_
        refine c_measure (p := p) (e := -9) hG (by omega) (fun k1 k2 k3 y1 y2 y3 => ?_)
        refine h_bipush dX10_measureAll_19 cb_m4 ?_
        refine h_icmpne (tgt := 26) dX10_measureAll_21 rfl (fun c_21 => ?_) (fun c_21 => ?_)
        · refine h_iinc (v := nI (p + 1)) dX10_measureAll_26 rfl (nI_1 _) (Nat.le_of_ble_eq_true rfl) ?_
          refine h_goto (tgt := 4) dX10_measureAll_29 rfl ?_
          have eC : ctr (fun p => spc (spG (inS nl fa fb sl fr tg fl p (-9)) (loK nl np ml nw pl fa fb sl pp pm ki fr tg wh bw rs sn qw) (hiK nl np ml nw pl fa fb sl pp pm ki fr tg wh bw rs sn qw) nk)) (p + 1) = ctr (fun p => spc (spG (inS nl fa fb sl fr tg fl p (-9)) (loK nl np ml nw pl fa fb sl pp pm ki fr tg wh bw rs sn qw) (hiK nl np ml nw pl fa fb sl pp pm ki fr tg wh bw rs sn qw) nk)) p := if_neg c_21
          rw [up3 _ (by decide) (by decide) (by decide)]
          have h3 := ih (p + 1) k1 k2 k3 (by omega) (by omega) (fun q hq => by
            by_cases e : q = p
            · subst e; exact ⟨y1, y3⟩
            · obtain ⟨z1, z2, z3⟩ := y2 q e
              obtain ⟨x1, x2⟩ := hs q (by omega)
              refine ⟨?_, z3.trans x2⟩
              have z1 : k1 q = g1 q := z1
              have z2 : k2 q = g2 q := z2
              unfold spA at x1 ⊢
              rw [z1, z2]
              exact x1)
          rw [eC] at h3
          exact h3
        · refine h_iconst dX10_measureAll_24 ci_1 ?_
          refine h_istore_n dX10_measureAll_25 (Nat.le_of_ble_eq_true rfl) ?_
          refine h_iinc (v := nI (p + 1)) dX10_measureAll_26 rfl (nI_1 _) (Nat.le_of_ble_eq_true rfl) ?_
          refine h_goto (tgt := 4) dX10_measureAll_29 rfl ?_
          have eC : ctr (fun p => spc (spG (inS nl fa fb sl fr tg fl p (-9)) (loK nl np ml nw pl fa fb sl pp pm ki fr tg wh bw rs sn qw) (hiK nl np ml nw pl fa fb sl pp pm ki fr tg wh bw rs sn qw) nk)) (p + 1) = 1 := if_pos c_21
          rw [up3 _ (by decide) (by decide) (by decide)]
          have h3 := ih (p + 1) k1 k2 k3 (by omega) (by omega) (fun q hq => by
            by_cases e : q = p
            · subst e; exact ⟨y1, y3⟩
            · obtain ⟨z1, z2, z3⟩ := y2 q e
              obtain ⟨x1, x2⟩ := hs q (by omega)
              refine ⟨?_, z3.trans x2⟩
              have z1 : k1 q = g1 q := z1
              have z2 : k2 q = g2 q := z2
              unfold spA at x1 ⊢
              rw [z1, z2]
              exact x1)
          rw [eC] at h3
          exact h3
  show HV l mX10_measureAll (dp + 6) 0 0 0 [some (.ref 1), none, none] [] hSH I J (hRR lt tx) Q
  refine h_iconst dX10_measureAll_0 ci_0 ?_
  refine h_istore_n dX10_measureAll_1 (Nat.le_of_ble_eq_true rfl) ?_
  refine h_iconst dX10_measureAll_2 ci_0 ?_
  refine h_istore_n dX10_measureAll_3 (Nat.le_of_ble_eq_true rfl) ?_
  have h0 := Lo (np + 1) 0 (I 25) (I 26) (I 27) (by omega) (by omega) (fun q hq => by omega)
  rw [upA_id, upA_id, upA_id] at h0
  exact h0
theorem c_mayBeSeen {l : Launch} {dp : Nat} {ns nl np ml nk nw : Nat} {pl fa fb sl pp pm ki fr tg wh bw : Nat → Nat} {rs sn : Nat → Int32} {fl : Nat → Bool} {qw : Nat → Nat → Nat → Nat → Bool} {I : hI} {J : hJ} {lt tx : Option Nat} {s p w : Nat} {x : Int32} {Q : hQ} (hG : cG I ns nl np ml nk nw pl fa fb sl pp pm ki fr tg wh bw rs sn fl qw) (hs : s < ns) (hf : dist fa fb sl nl s < 1000000) (hp : p < np) (hw0 : w ≤ 2340) (h1 : ∀ g1 g2 g3, (∃ q, spG (inS nl fa fb sl fr tg fl p (-9)) (loK nl np ml nw pl fa fb sl pp pm ki fr tg wh bw rs sn qw) (hiK nl np ml nw pl fa fb sl pp pm ki fr tg wh bw rs sn qw) nk = some q ∧ ¬ q.2 < q.1 ∧ ftS nl np ml nw pl fa fb sl pp pm bw rs qw s p 2 x w - nI (rcS nl pl fa fb sl pp s p 2) ≤ q.2 ∧ q.1 ≤ ftS nl np ml nw pl fa fb sl pp pm bw rs qw s p 2 x w + nI (rcS nl pl fa fb sl pp s p 2)) → Q (some (.int (nI 1))) hSH (upA (upA (upA I 25 g1) 26 g2) 27 g3) J (hRR lt tx)) (h0 : ∀ g1 g2 g3, ¬ (∃ q, spG (inS nl fa fb sl fr tg fl p (-9)) (loK nl np ml nw pl fa fb sl pp pm ki fr tg wh bw rs sn qw) (hiK nl np ml nw pl fa fb sl pp pm ki fr tg wh bw rs sn qw) nk = some q ∧ ¬ q.2 < q.1 ∧ ftS nl np ml nw pl fa fb sl pp pm bw rs qw s p 2 x w - nI (rcS nl pl fa fb sl pp s p 2) ≤ q.2 ∧ q.1 ≤ ftS nl np ml nw pl fa fb sl pp pm bw rs qw s p 2 x w + nI (rcS nl pl fa fb sl pp s p 2)) → Q (some (.int (nI 0))) hSH (upA (upA (upA I 25 g1) 26 g2) 27 g3) J (hRR lt tx)) : HC l mX10_mayBeSeen (dp + 6) 0 0 [.ref 1, .int (nI s), .int (nI p), .int x, .int (nI w)] hSH I J (hRR lt tx) Q := by
  refine HC.of (by decide +kernel) rfl (Nat.le_of_ble_eq_true rfl) ?_
  show HV l mX10_mayBeSeen (dp + 6) 0 0 0 [some (.ref 1), some (.int (nI s)), some (.int (nI p)), some (.int x), some (.int (nI w)), none, none] [] hSH I J (hRR lt tx) Q
  obtain ⟨⟨hN, hdo, hla, hlv⟩, hw, ⟨hnp, hml, hnk, hpt, hsi, hbt⟩, ⟨hn8, hm2, hn24, hpW, hsW⟩, hL⟩ := id hG
  obtain ⟨hns, hnl, hpl, hlg⟩ := id hN
  obtain ⟨hn6, hl12, hW, hp99, hr99⟩ := id hw
  refine h_aload_n dX10_mayBeSeen_0 rfl ?_
  refine h_iload_n dX10_mayBeSeen_1 rfl ?_
  refine h_bipush dX10_mayBeSeen_2 cb_m9 ?_
  refine h_cV2 dX10_mayBeSeen_4 k3_144 oVX10_measure rfl rfl ?_
  refine c_measure (p := p) (e := -9) hG hp (fun g1 g2 g3 y1 y2 y3 => ?_)
  refine h_ifeq (tgt := 12) dX10_mayBeSeen_7 rfl (fun c_7 => ?_) (fun c_7 => ?_)
  · obtain ⟨q, hsn, hqq⟩ : ∃ q, spG (inS nl fa fb sl fr tg fl p (-9)) (loK nl np ml nw pl fa fb sl pp pm ki fr tg wh bw rs sn qw) (hiK nl np ml nw pl fa fb sl pp pm ki fr tg wh bw rs sn qw) nk = some q ∧ ¬ q.2 < q.1 := by
      cases e0 : spG (inS nl fa fb sl fr tg fl p (-9)) (loK nl np ml nw pl fa fb sl pp pm ki fr tg wh bw rs sn qw) (hiK nl np ml nw pl fa fb sl pp pm ki fr tg wh bw rs sn qw) nk with
      | none => rw [e0] at c_7; exact absurd c_7 (by decide)
      | some q =>
        rw [e0] at c_7
        refine ⟨q, rfl, fun z => ?_⟩
        have c_7 : (if q.2 < q.1 then (-4 : Int32) else nI 0) = 0 := c_7
        rw [if_pos z] at c_7
        exact absurd c_7 (by decide)
    rw [hsn] at y1
    refine h_aload_n dX10_mayBeSeen_12 rfl ?_
    refine h_iconst dX10_mayBeSeen_13 ci_2 ?_
    refine h_iload_n dX10_mayBeSeen_14 rfl ?_
    refine h_iload_n dX10_mayBeSeen_15 rfl ?_
    refine h_iload_n dX10_mayBeSeen_16 rfl ?_
    refine h_iload dX10_mayBeSeen_17 rfl ?_
    refine h_cV5 dX10_mayBeSeen_19 k3_89 oVX10_footFrom rfl rfl ?_
    refine c_footFrom hG (by omega) hs hp hw0 ?_
    refine h_istore dX10_mayBeSeen_22 (Nat.le_of_ble_eq_true rfl) ?_
    refine h_aload_n dX10_mayBeSeen_24 rfl ?_
    refine h_iconst dX10_mayBeSeen_25 ci_2 ?_
    refine h_iload_n dX10_mayBeSeen_26 rfl ?_
    refine h_iload_n dX10_mayBeSeen_27 rfl ?_
    refine h_cV3 dX10_mayBeSeen_28 k3_99 oVX10_reach rfl rfl ?_
    refine c_reach hG (by omega) hs hp hf ?_
    refine h_istore dX10_mayBeSeen_31 (Nat.le_of_ble_eq_true rfl) ?_
    refine h_iload dX10_mayBeSeen_33 rfl ?_
    refine h_iload dX10_mayBeSeen_35 rfl ?_
    refine h_isub dX10_mayBeSeen_37 ?_
    refine h_aload_n dX10_mayBeSeen_38 rfl ?_
    refine h_getR dX10_mayBeSeen_39 f_X10_63_8 rfl rfl ?_
    refine h_iload_n dX10_mayBeSeen_42 rfl ?_
    refine h_ialdN (j := p) dX10_mayBeSeen_43 rfl rfl (by omega) rfl (show _ = q.2 from y1.2) ?_
    refine h_icmpgt (tgt := 65) dX10_mayBeSeen_44 rfl (fun c_44 => ?_) (fun c_44 => ?_)
    · refine h_iconst dX10_mayBeSeen_65 ci_0 ?_
      refine h_zreturn dX10_mayBeSeen_66 rfl (by decide) ?_
      exact h0 g1 g2 g3 (fun z => by
        obtain ⟨q2, z1, z2, z3, z4⟩ := z
        rw [hsn] at z1
        cases z1
        exact absurd z3 (Int32.not_le.mpr c_44))
    · refine h_iload dX10_mayBeSeen_47 rfl ?_
      refine h_iload dX10_mayBeSeen_49 rfl ?_
      refine h_iadd dX10_mayBeSeen_51 ?_
      refine h_aload_n dX10_mayBeSeen_52 rfl ?_
      refine h_getR dX10_mayBeSeen_53 f_X10_60_8 rfl rfl ?_
      refine h_iload_n dX10_mayBeSeen_56 rfl ?_
      refine h_ialdN (j := p) dX10_mayBeSeen_57 rfl rfl (by omega) rfl (show _ = q.1 from y1.1) ?_
      refine h_icmplt (tgt := 65) dX10_mayBeSeen_58 rfl (fun c_58 => ?_) (fun c_58 => ?_)
      · refine h_iconst dX10_mayBeSeen_65 ci_0 ?_
        refine h_zreturn dX10_mayBeSeen_66 rfl (by decide) ?_
        exact h0 g1 g2 g3 (fun z => by
          obtain ⟨q2, z1, z2, z3, z4⟩ := z
          rw [hsn] at z1
          cases z1
          exact absurd z4 (Int32.not_le.mpr c_58))
      · refine h_iconst dX10_mayBeSeen_61 ci_1 ?_
        refine h_goto (tgt := 66) dX10_mayBeSeen_62 rfl ?_
        refine h_zreturn dX10_mayBeSeen_66 rfl (by decide) ?_
        exact h1 g1 g2 g3 ⟨q, hsn, hqq, Int32.not_lt.mp c_44, Int32.not_lt.mp c_58⟩
  · refine h_iconst dX10_mayBeSeen_10 ci_0 ?_
    refine h_zreturn dX10_mayBeSeen_11 rfl (by decide) ?_
    exact h0 g1 g2 g3 (fun z => by
      obtain ⟨q, z1, z2, -⟩ := z
      rw [z1] at c_7
      exact c_7 (if_neg z2))
