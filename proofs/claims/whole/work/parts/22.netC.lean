def enc (x : Nat) : Int32 := if x < 1000000 then nI x else -1
theorem enc_lt {x : Nat} (h : x < 1000000) : enc x = nI x := if_pos h
theorem enc_ge {x : Nat} (h : ¬ x < 1000000) : enc x = -1 := if_neg h
theorem nI_nem1 {x : Nat} (h : x < 2147483648) : ¬ nI x = -1 := by
  intro e
  have := congrArg Int32.toInt e
  rw [nI_toInt h, show (-1 : Int32).toInt = -1 by decide] at this
  omega
theorem nI_nem9 {x : Nat} (h : x < 2147483648) : ¬ nI x = -9 := by
  intro e
  have := congrArg Int32.toInt e
  rw [nI_toInt h, show (-9 : Int32).toInt = -9 by decide] at this
  omega
theorem enc_m1 {x : Nat} (h : enc x = -1) : ¬ x < 1000000 := fun q => by
  rw [enc_lt q] at h
  exact nI_nem1 (by omega) h
theorem enc_n {x : Nat} (h : ¬ enc x = -1) : x < 1000000 := by
  by_cases q : x < 1000000
  · exact q
  · exact absurd (enc_ge q) h
/-- the class's rows of a net at cell B -/
def cN (I : hI) (B ns nl : Nat) (pl fa fb sl : Nat → Nat) (rs : Nat → Int32) : Prop := I B 0 = nI ns ∧ I B 2 = nI nl ∧ (∀ s, s < ns → I (B + 1) s = nI (pl s)) ∧ ∀ k, k < nl → I (B + 2) k = nI (fa k) ∧ I (B + 3) k = nI (fb k) ∧ I (B + 4) k = rs k ∧ I (B + 5) k = nI (sl k)
def netW (ns nl : Nat) (pl fa fb sl : Nat → Nat) (rs : Nat → Int32) : Prop := ns ≤ 6 ∧ nl ≤ 12 ∧ legW ns nl fa fb sl ∧ (∀ s, s < ns → pl s ≤ 99) ∧ ∀ k, k < nl → -99 ≤ (rs k).toInt ∧ (rs k).toInt ≤ 99
theorem enc_up {g : Nat → Int32} {f : Nat → Nat} {n x y w : Nat} (hf : ∀ s, s < n → g s = enc (f s)) (h : f x + w < f y) (hb : f x + w < 1000000) : ∀ s, s < n → upd g y (nI (f x + w)) s = enc (rlx f x y w s) := by
  intro s hs
  unfold rlx
  by_cases e : s = y
  · subst e; rw [upd_s, if_pos rfl, if_pos h, enc_lt hb]
  · rw [upd_n g _ e, if_neg e]; exact hf s hs
theorem enc_no {g : Nat → Int32} {f : Nat → Nat} {n x y w : Nat} (hf : ∀ s, s < n → g s = enc (f s)) (h : ¬ f x + w < f y) : ∀ s, s < n → g s = enc (rlx f x y w s) := by
  intro s hs
  unfold rlx
  by_cases e : s = y
  · subst e; rw [if_pos rfl, if_neg h]; exact hf s hs
  · rw [if_neg e]; exact hf s hs
def slE (sl : Nat → Nat) (e : Int32) (k : Nat) : Nat := if nI k = e then 1 else sl k
theorem slE_W {ns nl : Nat} {fa fb sl : Nat → Nat} (hW : legW ns nl fa fb sl) (e : Int32) : legW ns nl fa fb (slE sl e) := by
  intro k hk
  obtain ⟨w1, w2, w3, w4, w5⟩ := hW k hk
  unfold slE
  by_cases h : nI k = e
  · rw [if_pos h]; exact ⟨w1, w2, w3, by omega, by omega⟩
  · rw [if_neg h]; exact ⟨w1, w2, w3, w4, w5⟩
theorem bsm_rnd {ns nl c : Nat} {fa fb sl f : Nat → Nat} (hW : legW ns nl fa fb sl) (h : bsm c f) : ∀ k, k ≤ nl → c + 18 * k < 900000 → bsm (c + 18 * k) (rnd fa fb sl k f)
  | 0, _, _ => h
  | k + 1, hk, hc => by
    have w5 := (hW k (by omega)).2.2.2.2
    have := bsm_rlx (a := fb k) (b := fa k) (bsm_rlx (a := fa k) (b := fb k) (bsm_rnd hW h k (by omega) (by omega)) w5 (by omega)) w5 (by omega)
    rw [show c + 18 * (k + 1) = c + 18 * k + 9 + 9 by omega]
    exact this
theorem bsm_up {c c' : Nat} {f : Nat → Nat} (h : bsm c f) (hc : c ≤ c') : bsm c' f := fun v => by have := h v; omega
theorem bsm_bf {ns nl : Nat} {fa fb sl : Nat → Nat} (hW : legW ns nl fa fb sl) (hn : nl ≤ 12) : ∀ r, r ≤ 7 → bsm (216 * r) (bf fa fb sl nl r)
  | 0, _ => fun v => by
    show bfi v = _ ∨ bfi v ≤ _
    unfold bfi
    by_cases h : v = 0
    · rw [if_pos h]; omega
    · rw [if_neg h]; omega
  | r + 1, hr => bsm_up (bsm_rnd hW (bsm_bf hW hn r (by omega)) nl (Nat.le_refl _) (by omega)) (by omega)
theorem rnd_congr {nl : Nat} {fa fb sl sl' f : Nat → Nat} (h : ∀ k, k < nl → sl k = sl' k) : ∀ k, k ≤ nl → rnd fa fb sl k f = rnd fa fb sl' k f
  | 0, _ => rfl
  | k + 1, hk => by
    show rlx (rlx (rnd fa fb sl k f) _ _ _) _ _ _ = rlx (rlx (rnd fa fb sl' k f) _ _ _) _ _ _
    rw [rnd_congr h k (by omega), h k (by omega)]
theorem bf_congr {nl : Nat} {fa fb sl sl' : Nat → Nat} (h : ∀ k, k < nl → sl k = sl' k) (r : Nat) : bf fa fb sl nl r = bf fa fb sl' nl r := by
  induction r with
  | zero => rfl
  | succ r ih =>
    show rnd fa fb sl nl (bf fa fb sl nl r) = rnd fa fb sl' nl (bf fa fb sl' nl r)
    rw [ih, rnd_congr h nl (Nat.le_refl _)]
theorem slE_m9 {nl : Nat} (hn : nl ≤ 12) {fa fb sl : Nat → Nat} (r : Nat) : bf fa fb (slE sl (-9)) nl r = bf fa fb sl nl r := bf_congr (fun k hk => if_neg (nI_nem9 (by omega))) r
theorem c_lessen_8 {l : Launch} {dp : Nat} {f : Nat → Nat} {n x y w c : Nat} {I : hI} {J : hJ} {R : hR} {Q : hQ} (hn : n ≤ 6) (hx : x < n) (hy : y < n) (hw : w ≤ 9) (hf : ∀ s, s < n → I 8 s = enc (f s)) (hs : bsm c f) (hc : c < 900000) (hQ : ∀ g, (∀ s, s < n → g s = enc (rlx f x y w s)) → Q none hSH (upA I 8 g) J R) : HC l mX5_lessen dp 0 0 [.ref 8, .int (nI x), .int (nI y), .int (nI w)] hSH I J R Q := by
  refine HC.of (by decide +kernel) rfl (Nat.le_of_ble_eq_true rfl) ?_
  show HV l mX5_lessen dp 0 0 0 [some (.ref 8), some (.int (nI x)), some (.int (nI y)), some (.int (nI w)), none] [] hSH I J R Q
  have hsx := hs x
  have hsy := hs y
  refine h_aload_n dX5_lessen_0 rfl ?_
  refine h_iload_n dX5_lessen_1 rfl ?_
  refine h_ialdN (j := x) dX5_lessen_2 rfl rfl (by omega) rfl (hf x hx) ?_
  refine h_iconst dX5_lessen_3 ci_m1 ?_
  refine h_icmpne (tgt := 8) dX5_lessen_4 rfl (fun c_4 => ?_) (fun c_4 => ?_)
  · have hlt := enc_n c_4
    refine h_aload_n dX5_lessen_8 rfl ?_
    refine h_iload_n dX5_lessen_9 rfl ?_
    refine h_ialdN (j := x) dX5_lessen_10 rfl rfl (by omega) rfl ((hf x hx).trans (enc_lt hlt)) ?_
    refine h_iload_n dX5_lessen_11 rfl ?_
    refine h_iaddN dX5_lessen_12 ?_
    refine h_istore dX5_lessen_13 (Nat.le_of_ble_eq_true rfl) ?_
    refine h_aload_n dX5_lessen_15 rfl ?_
    refine h_iload_n dX5_lessen_16 rfl ?_
    refine h_ialdN (j := y) dX5_lessen_17 rfl rfl (by omega) rfl (hf y hy) ?_
    refine h_iconst dX5_lessen_18 ci_m1 ?_
    refine h_icmpeq (tgt := 30) dX5_lessen_19 rfl (fun c_19 => ?_) (fun c_19 => ?_)
    · have c_19 := enc_m1 c_19
      refine h_aload_n dX5_lessen_30 rfl ?_
      refine h_iload_n dX5_lessen_31 rfl ?_
      refine h_iload dX5_lessen_32 rfl ?_
      refine h_iastN (j := y) dX5_lessen_34 rfl rfl (by omega) rfl ?_
      refine h_return dX5_lessen_35 rfl ?_
      first
        | exact hQ _ (enc_up hf (by omega) (by omega))
        | (have := hQ (I 8) (enc_no hf (by omega))
           rw [upA_id] at this
           exact this)
    · refine h_iload dX5_lessen_22 rfl ?_
      refine h_aload_n dX5_lessen_24 rfl ?_
      refine h_iload_n dX5_lessen_25 rfl ?_
      refine h_ialdN (j := y) dX5_lessen_26 rfl rfl (by omega) rfl ((hf y hy).trans (enc_lt (enc_n c_19))) ?_
      refine h_icmpge (tgt := 35) dX5_lessen_27 rfl (fun c_27 => ?_) (fun c_27 => ?_)
      · rw [nI_leI (by omega) (by omega)] at c_27
        refine h_return dX5_lessen_35 rfl ?_
        first
          | exact hQ _ (enc_up hf (by omega) (by omega))
          | (have := hQ (I 8) (enc_no hf (by omega))
             rw [upA_id] at this
             exact this)
      · rw [nI_leI (by omega) (by omega)] at c_27
        refine h_aload_n dX5_lessen_30 rfl ?_
        refine h_iload_n dX5_lessen_31 rfl ?_
        refine h_iload dX5_lessen_32 rfl ?_
        refine h_iastN (j := y) dX5_lessen_34 rfl rfl (by omega) rfl ?_
        refine h_return dX5_lessen_35 rfl ?_
        first
          | exact hQ _ (enc_up hf (by omega) (by omega))
          | (have := hQ (I 8) (enc_no hf (by omega))
             rw [upA_id] at this
             exact this)
  · have c_4 := enc_m1 c_4
    refine h_return dX5_lessen_7 rfl ?_
    have := hQ (I 8) (enc_no hf (by omega))
    rw [upA_id] at this
    exact this
theorem c_lessen_11 {l : Launch} {dp : Nat} {f : Nat → Nat} {n x y w c : Nat} {I : hI} {J : hJ} {R : hR} {Q : hQ} (hn : n ≤ 6) (hx : x < n) (hy : y < n) (hw : w ≤ 9) (hf : ∀ s, s < n → I 11 s = enc (f s)) (hs : bsm c f) (hc : c < 900000) (hQ : ∀ g, (∀ s, s < n → g s = enc (rlx f x y w s)) → Q none hSH (upA I 11 g) J R) : HC l mX5_lessen dp 0 0 [.ref 11, .int (nI x), .int (nI y), .int (nI w)] hSH I J R Q := by
  refine HC.of (by decide +kernel) rfl (Nat.le_of_ble_eq_true rfl) ?_
  show HV l mX5_lessen dp 0 0 0 [some (.ref 11), some (.int (nI x)), some (.int (nI y)), some (.int (nI w)), none] [] hSH I J R Q
  have hsx := hs x
  have hsy := hs y
  refine h_aload_n dX5_lessen_0 rfl ?_
  refine h_iload_n dX5_lessen_1 rfl ?_
  refine h_ialdN (j := x) dX5_lessen_2 rfl rfl (by omega) rfl (hf x hx) ?_
  refine h_iconst dX5_lessen_3 ci_m1 ?_
  refine h_icmpne (tgt := 8) dX5_lessen_4 rfl (fun c_4 => ?_) (fun c_4 => ?_)
  · have hlt := enc_n c_4
    refine h_aload_n dX5_lessen_8 rfl ?_
    refine h_iload_n dX5_lessen_9 rfl ?_
    refine h_ialdN (j := x) dX5_lessen_10 rfl rfl (by omega) rfl ((hf x hx).trans (enc_lt hlt)) ?_
    refine h_iload_n dX5_lessen_11 rfl ?_
    refine h_iaddN dX5_lessen_12 ?_
    refine h_istore dX5_lessen_13 (Nat.le_of_ble_eq_true rfl) ?_
    refine h_aload_n dX5_lessen_15 rfl ?_
    refine h_iload_n dX5_lessen_16 rfl ?_
    refine h_ialdN (j := y) dX5_lessen_17 rfl rfl (by omega) rfl (hf y hy) ?_
    refine h_iconst dX5_lessen_18 ci_m1 ?_
    refine h_icmpeq (tgt := 30) dX5_lessen_19 rfl (fun c_19 => ?_) (fun c_19 => ?_)
    · have c_19 := enc_m1 c_19
      refine h_aload_n dX5_lessen_30 rfl ?_
      refine h_iload_n dX5_lessen_31 rfl ?_
      refine h_iload dX5_lessen_32 rfl ?_
      refine h_iastN (j := y) dX5_lessen_34 rfl rfl (by omega) rfl ?_
      refine h_return dX5_lessen_35 rfl ?_
      first
        | exact hQ _ (enc_up hf (by omega) (by omega))
        | (have := hQ (I 11) (enc_no hf (by omega))
           rw [upA_id] at this
           exact this)
    · refine h_iload dX5_lessen_22 rfl ?_
      refine h_aload_n dX5_lessen_24 rfl ?_
      refine h_iload_n dX5_lessen_25 rfl ?_
      refine h_ialdN (j := y) dX5_lessen_26 rfl rfl (by omega) rfl ((hf y hy).trans (enc_lt (enc_n c_19))) ?_
      refine h_icmpge (tgt := 35) dX5_lessen_27 rfl (fun c_27 => ?_) (fun c_27 => ?_)
      · rw [nI_leI (by omega) (by omega)] at c_27
        refine h_return dX5_lessen_35 rfl ?_
        first
          | exact hQ _ (enc_up hf (by omega) (by omega))
          | (have := hQ (I 11) (enc_no hf (by omega))
             rw [upA_id] at this
             exact this)
      · rw [nI_leI (by omega) (by omega)] at c_27
        refine h_aload_n dX5_lessen_30 rfl ?_
        refine h_iload_n dX5_lessen_31 rfl ?_
        refine h_iload dX5_lessen_32 rfl ?_
        refine h_iastN (j := y) dX5_lessen_34 rfl rfl (by omega) rfl ?_
        refine h_return dX5_lessen_35 rfl ?_
        first
          | exact hQ _ (enc_up hf (by omega) (by omega))
          | (have := hQ (I 11) (enc_no hf (by omega))
             rw [upA_id] at this
             exact this)
  · have c_4 := enc_m1 c_4
    refine h_return dX5_lessen_7 rfl ?_
    have := hQ (I 11) (enc_no hf (by omega))
    rw [upA_id] at this
    exact this
theorem c_lessen_35 {l : Launch} {dp : Nat} {f : Nat → Nat} {n x y w c : Nat} {I : hI} {J : hJ} {R : hR} {Q : hQ} (hn : n ≤ 6) (hx : x < n) (hy : y < n) (hw : w ≤ 9) (hf : ∀ s, s < n → I 35 s = enc (f s)) (hs : bsm c f) (hc : c < 900000) (hQ : ∀ g, (∀ s, s < n → g s = enc (rlx f x y w s)) → Q none hSH (upA I 35 g) J R) : HC l mX5_lessen dp 0 0 [.ref 35, .int (nI x), .int (nI y), .int (nI w)] hSH I J R Q := by
  refine HC.of (by decide +kernel) rfl (Nat.le_of_ble_eq_true rfl) ?_
  show HV l mX5_lessen dp 0 0 0 [some (.ref 35), some (.int (nI x)), some (.int (nI y)), some (.int (nI w)), none] [] hSH I J R Q
  have hsx := hs x
  have hsy := hs y
  refine h_aload_n dX5_lessen_0 rfl ?_
  refine h_iload_n dX5_lessen_1 rfl ?_
  refine h_ialdN (j := x) dX5_lessen_2 rfl rfl (by omega) rfl (hf x hx) ?_
  refine h_iconst dX5_lessen_3 ci_m1 ?_
  refine h_icmpne (tgt := 8) dX5_lessen_4 rfl (fun c_4 => ?_) (fun c_4 => ?_)
  · have hlt := enc_n c_4
    refine h_aload_n dX5_lessen_8 rfl ?_
    refine h_iload_n dX5_lessen_9 rfl ?_
    refine h_ialdN (j := x) dX5_lessen_10 rfl rfl (by omega) rfl ((hf x hx).trans (enc_lt hlt)) ?_
    refine h_iload_n dX5_lessen_11 rfl ?_
    refine h_iaddN dX5_lessen_12 ?_
    refine h_istore dX5_lessen_13 (Nat.le_of_ble_eq_true rfl) ?_
    refine h_aload_n dX5_lessen_15 rfl ?_
    refine h_iload_n dX5_lessen_16 rfl ?_
    refine h_ialdN (j := y) dX5_lessen_17 rfl rfl (by omega) rfl (hf y hy) ?_
    refine h_iconst dX5_lessen_18 ci_m1 ?_
    refine h_icmpeq (tgt := 30) dX5_lessen_19 rfl (fun c_19 => ?_) (fun c_19 => ?_)
    · have c_19 := enc_m1 c_19
      refine h_aload_n dX5_lessen_30 rfl ?_
      refine h_iload_n dX5_lessen_31 rfl ?_
      refine h_iload dX5_lessen_32 rfl ?_
      refine h_iastN (j := y) dX5_lessen_34 rfl rfl (by omega) rfl ?_
      refine h_return dX5_lessen_35 rfl ?_
      first
        | exact hQ _ (enc_up hf (by omega) (by omega))
        | (have := hQ (I 35) (enc_no hf (by omega))
           rw [upA_id] at this
           exact this)
    · refine h_iload dX5_lessen_22 rfl ?_
      refine h_aload_n dX5_lessen_24 rfl ?_
      refine h_iload_n dX5_lessen_25 rfl ?_
      refine h_ialdN (j := y) dX5_lessen_26 rfl rfl (by omega) rfl ((hf y hy).trans (enc_lt (enc_n c_19))) ?_
      refine h_icmpge (tgt := 35) dX5_lessen_27 rfl (fun c_27 => ?_) (fun c_27 => ?_)
      · rw [nI_leI (by omega) (by omega)] at c_27
        refine h_return dX5_lessen_35 rfl ?_
        first
          | exact hQ _ (enc_up hf (by omega) (by omega))
          | (have := hQ (I 35) (enc_no hf (by omega))
             rw [upA_id] at this
             exact this)
      · rw [nI_leI (by omega) (by omega)] at c_27
        refine h_aload_n dX5_lessen_30 rfl ?_
        refine h_iload_n dX5_lessen_31 rfl ?_
        refine h_iload dX5_lessen_32 rfl ?_
        refine h_iastN (j := y) dX5_lessen_34 rfl rfl (by omega) rfl ?_
        refine h_return dX5_lessen_35 rfl ?_
        first
          | exact hQ _ (enc_up hf (by omega) (by omega))
          | (have := hQ (I 35) (enc_no hf (by omega))
             rw [upA_id] at this
             exact this)
  · have c_4 := enc_m1 c_4
    refine h_return dX5_lessen_7 rfl ?_
    have := hQ (I 35) (enc_no hf (by omega))
    rw [upA_id] at this
    exact this
theorem c_spread_2_8 {l : Launch} {dp : Nat} {ns nl : Nat} {pl fa fb sl : Nat → Nat} {rs : Nat → Int32} {I : hI} {J : hJ} {lt tx : Option Nat} {e : Int32} {Q : hQ} (hN : cN I 2 ns nl pl fa fb sl rs) (hw : netW ns nl pl fa fb sl rs) (hQ : ∀ g, (∀ t, t < ns → g t = enc (bf fa fb (slE sl e) nl (ns - 1) t)) → Q none hSH (upA I 8 g) J (hRR lt tx)) : HC l mX5_spread (dp + 1) 0 0 [.ref 2, .ref 8, .int e] hSH I J (hRR lt tx) Q := by
  refine HC.of (by decide +kernel) rfl (Nat.le_of_ble_eq_true rfl) ?_
  obtain ⟨hns, hnl, hpl, hlg⟩ := id hN
  obtain ⟨hn6, hl12, hW, hp99, hr99⟩ := id hw
  have hWe := slE_W hW e
  have Lo : ∀ (m r : Nat) (g : Nat → Int32), ns - r < m → 1 ≤ r → r ≤ ns + 1 → (r ≤ ns ∨ ns = 0) → (∀ t, t < ns → g t = enc (bf fa fb (slE sl e) nl (r - 1) t)) → ∀ z4 z5, HV l mX5_spread (dp + 1) 0 0 30 [some (.ref 2), some (.ref 8), some (.int e), some (.int (nI r)), z4, z5] [] hSH (upA I 8 g) J (hRR lt tx) Q := by
    intro m
    induction m with
    | zero => intro r g h1 h2 h3 h4 hg z4 z5; omega
    | succ m ihr =>
      intro r g h1 h2 h3 h4 hg z4 z5
      have Li : ∀ (m2 k : Nat) (g : Nat → Int32), nl - k < m2 → k ≤ nl → (∀ t, t < ns → g t = enc (rnd fa fb (slE sl e) k (bf fa fb (slE sl e) nl (r - 1)) t)) → r < ns → ∀ z5, HV l mX5_spread (dp + 1) 0 0 41 [some (.ref 2), some (.ref 8), some (.int e), some (.int (nI r)), some (.int (nI k)), z5] [] hSH (upA I 8 g) J (hRR lt tx) Q := by
        intro m2
        induction m2 with
        | zero => intro k g h1 h2 hg h5 z5; omega
        | succ m2 ih =>
          intro k g h5 h6 hg hrn z5
          refine h_iload dX5_spread_41 rfl ?_
          refine h_aload_n dX5_spread_43 rfl ?_
          refine h_getI dX5_spread_44 f_X5_19_5 rfl hnl ?_
          refine h_icmpge (tgt := 115) dX5_spread_47 rfl (fun c_47 => ?_) (fun c_47 => ?_)
          · rw [nI_leI (by omega) (by omega)] at c_47
            refine h_iinc (v := nI (r + 1)) dX5_spread_115 rfl (nI_1 _) (Nat.le_of_ble_eq_true rfl) ?_
            refine h_goto (tgt := 30) dX5_spread_118 rfl ?_
            have ek : k = nl := by omega
            subst ek
            exact ihr (r + 1) g (by omega) (by omega) (by omega) (Or.inl (by omega)) (fun t ht => by rw [hg t ht, show r + 1 - 1 = (r - 1) + 1 by omega]; rfl) _ _
          · rw [nI_leI (by omega) (by omega)] at c_47
            have hb1 := bsm_rnd hWe (bsm_bf hWe hl12 (r - 1) (by omega)) k (by omega) (by omega)
            have hk9 := (hW k (by omega)).2.2.2.2
            refine h_iload dX5_spread_50 rfl ?_
            refine h_iload_n dX5_spread_52 rfl ?_
            refine h_icmpne (tgt := 60) dX5_spread_53 rfl (fun c_53 => ?_) (fun c_53 => ?_)
            · have eS : slE sl e k = sl k := if_neg c_53
              refine h_aload_n dX5_spread_60 rfl ?_
              refine h_getR dX5_spread_61 f_X5_31_5 rfl rfl ?_
              refine h_iload dX5_spread_64 rfl ?_
              refine h_ialdN (j := k) dX5_spread_66 rfl rfl (by omega) rfl (hlg _ (by omega)).2.2.2 ?_
              refine h_istore dX5_spread_67 (Nat.le_of_ble_eq_true rfl) ?_
              refine h_aload_n dX5_spread_69 rfl ?_
              refine h_aload_n dX5_spread_70 rfl ?_
              refine h_getR dX5_spread_71 f_X5_22_5 rfl rfl ?_
              refine h_iload dX5_spread_74 rfl ?_
              refine h_ialdN (j := k) dX5_spread_76 rfl rfl (by omega) rfl (hlg _ (by omega)).1 ?_
              refine h_aload_n dX5_spread_77 rfl ?_
              refine h_getR dX5_spread_78 f_X5_25_5 rfl rfl ?_
              refine h_iload dX5_spread_81 rfl ?_
              refine h_ialdN (j := k) dX5_spread_83 rfl rfl (by omega) rfl (hlg _ (by omega)).2.1 ?_
              refine h_iload dX5_spread_84 rfl ?_
              refine h_cS4 dX5_spread_86 k2_169 oSX5_lessen rfl ?_
              refine c_lessen_8 (f := rnd fa fb (slE sl e) k (bf fa fb (slE sl e) nl (r - 1))) (n := ns) hn6 (hW k (by omega)).1 (hW k (by omega)).2.1 (by omega) hg hb1 (by omega) (fun g2 hg2 => ?_)
              rw [upA_A]
              refine h_aload_n dX5_spread_89 rfl ?_
              refine h_aload_n dX5_spread_90 rfl ?_
              refine h_getR dX5_spread_91 f_X5_25_5 rfl rfl ?_
              refine h_iload dX5_spread_94 rfl ?_
              refine h_ialdN (j := k) dX5_spread_96 rfl rfl (by omega) rfl (hlg _ (by omega)).2.1 ?_
              refine h_aload_n dX5_spread_97 rfl ?_
              refine h_getR dX5_spread_98 f_X5_22_5 rfl rfl ?_
              refine h_iload dX5_spread_101 rfl ?_
              refine h_ialdN (j := k) dX5_spread_103 rfl rfl (by omega) rfl (hlg _ (by omega)).1 ?_
              refine h_iload dX5_spread_104 rfl ?_
              refine h_cS4 dX5_spread_106 k2_169 oSX5_lessen rfl ?_
              refine c_lessen_8 (f := rlx (rnd fa fb (slE sl e) k (bf fa fb (slE sl e) nl (r - 1))) (fa k) (fb k) (sl k)) (n := ns) hn6 (hW k (by omega)).2.1 (hW k (by omega)).1 (by omega) hg2 (bsm_rlx hb1 (by omega) (by omega)) (by omega) (fun g3 hg3 => ?_)
              rw [upA_A]
              refine h_iinc (v := nI (k + 1)) dX5_spread_109 rfl (nI_1 _) (Nat.le_of_ble_eq_true rfl) ?_
              refine h_goto (tgt := 41) dX5_spread_112 rfl ?_
              exact ih (k + 1) _ (by omega) (by omega) (fun t ht => by rw [hg3 t ht]; show _ = enc (rlx (rlx _ _ _ (slE sl e k)) _ _ (slE sl e k) t); rw [eS]) hrn _
            · have eS : slE sl e k = 1 := if_pos c_53
              refine h_iconst dX5_spread_56 ci_1 ?_
              refine h_goto (tgt := 67) dX5_spread_57 rfl ?_
              refine h_istore dX5_spread_67 (Nat.le_of_ble_eq_true rfl) ?_
              refine h_aload_n dX5_spread_69 rfl ?_
              refine h_aload_n dX5_spread_70 rfl ?_
              refine h_getR dX5_spread_71 f_X5_22_5 rfl rfl ?_
              refine h_iload dX5_spread_74 rfl ?_
              refine h_ialdN (j := k) dX5_spread_76 rfl rfl (by omega) rfl (hlg _ (by omega)).1 ?_
              refine h_aload_n dX5_spread_77 rfl ?_
              refine h_getR dX5_spread_78 f_X5_25_5 rfl rfl ?_
              refine h_iload dX5_spread_81 rfl ?_
              refine h_ialdN (j := k) dX5_spread_83 rfl rfl (by omega) rfl (hlg _ (by omega)).2.1 ?_
              refine h_iload dX5_spread_84 rfl ?_
              refine h_cS4 dX5_spread_86 k2_169 oSX5_lessen rfl ?_
              refine c_lessen_8 (f := rnd fa fb (slE sl e) k (bf fa fb (slE sl e) nl (r - 1))) (n := ns) hn6 (hW k (by omega)).1 (hW k (by omega)).2.1 (by omega) hg hb1 (by omega) (fun g2 hg2 => ?_)
              rw [upA_A]
              refine h_aload_n dX5_spread_89 rfl ?_
              refine h_aload_n dX5_spread_90 rfl ?_
              refine h_getR dX5_spread_91 f_X5_25_5 rfl rfl ?_
              refine h_iload dX5_spread_94 rfl ?_
              refine h_ialdN (j := k) dX5_spread_96 rfl rfl (by omega) rfl (hlg _ (by omega)).2.1 ?_
              refine h_aload_n dX5_spread_97 rfl ?_
              refine h_getR dX5_spread_98 f_X5_22_5 rfl rfl ?_
              refine h_iload dX5_spread_101 rfl ?_
              refine h_ialdN (j := k) dX5_spread_103 rfl rfl (by omega) rfl (hlg _ (by omega)).1 ?_
              refine h_iload dX5_spread_104 rfl ?_
              refine h_cS4 dX5_spread_106 k2_169 oSX5_lessen rfl ?_
              refine c_lessen_8 (f := rlx (rnd fa fb (slE sl e) k (bf fa fb (slE sl e) nl (r - 1))) (fa k) (fb k) 1) (n := ns) hn6 (hW k (by omega)).2.1 (hW k (by omega)).1 (by omega) hg2 (bsm_rlx hb1 (by omega) (by omega)) (by omega) (fun g3 hg3 => ?_)
              rw [upA_A]
              refine h_iinc (v := nI (k + 1)) dX5_spread_109 rfl (nI_1 _) (Nat.le_of_ble_eq_true rfl) ?_
              refine h_goto (tgt := 41) dX5_spread_112 rfl ?_
              exact ih (k + 1) _ (by omega) (by omega) (fun t ht => by rw [hg3 t ht]; show _ = enc (rlx (rlx _ _ _ (slE sl e k)) _ _ (slE sl e k) t); rw [eS]) hrn _
      refine h_iload_n dX5_spread_30 rfl ?_
      refine h_aload_n dX5_spread_31 rfl ?_
      refine h_getI dX5_spread_32 f_X5_9_5 rfl hns ?_
      refine h_icmpge (tgt := 121) dX5_spread_35 rfl (fun c_35 => ?_) (fun c_35 => ?_)
      · rw [nI_leI (by omega) (by omega)] at c_35
        refine h_return dX5_spread_121 rfl ?_
        exact hQ g (fun t ht => by rw [hg t ht, show r - 1 = ns - 1 by omega])
      · rw [nI_leI (by omega) (by omega)] at c_35
        refine h_iconst dX5_spread_38 ci_0 ?_
        refine h_istore dX5_spread_39 (Nat.le_of_ble_eq_true rfl) ?_
        exact Li (nl + 1) 0 g (by omega) (by omega) hg (by omega) _
  have Lf : ∀ (m s : Nat) (g : Nat → Int32), ns - s < m → s ≤ ns → (∀ t, t < s → g t = enc (bfi t)) → HV l mX5_spread (dp + 1) 0 0 2 [some (.ref 2), some (.ref 8), some (.int e), some (.int (nI s)), none, none] [] hSH (upA I 8 g) J (hRR lt tx) Q := by
    intro m
    induction m with
    | zero => intro s g h1 h2 hg; omega
    | succ m ih =>
      intro s g h1 h2 hg
      refine h_iload_n dX5_spread_2 rfl ?_
      refine h_aload_n dX5_spread_3 rfl ?_
      refine h_getI dX5_spread_4 f_X5_9_5 rfl hns ?_
      refine h_icmpge (tgt := 28) dX5_spread_7 rfl (fun c_7 => ?_) (fun c_7 => ?_)
      · rw [nI_leI (by omega) (by omega)] at c_7
        refine h_iconst dX5_spread_28 ci_1 ?_
        refine h_istore_n dX5_spread_29 (Nat.le_of_ble_eq_true rfl) ?_
        have es : s = ns := by omega
        subst es
        exact Lo (s + 1) 1 g (by omega) (by omega) (by omega) (by omega) (fun t ht => hg t ht) _ _
      · rw [nI_leI (by omega) (by omega)] at c_7
        refine h_aload_n dX5_spread_10 rfl ?_
        refine h_iload_n dX5_spread_11 rfl ?_
        refine h_iload_n dX5_spread_12 rfl ?_
        refine h_ifne (tgt := 20) dX5_spread_13 rfl (fun c_13 => ?_) (fun c_13 => ?_)
        · rw [show (0 : Int32) = nI 0 from rfl, nI_eq (by omega) (by omega)] at c_13
          refine h_iconst dX5_spread_20 ci_m1 ?_
          refine h_iastN (j := s) dX5_spread_21 rfl rfl (by omega) rfl ?_
          refine h_iinc (v := nI (s + 1)) dX5_spread_22 rfl (nI_1 _) (Nat.le_of_ble_eq_true rfl) ?_
          refine h_goto (tgt := 2) dX5_spread_25 rfl ?_
          rw [upA_I]
          exact ih (s + 1) _ (by omega) (by omega) (fun t ht => by
            by_cases e : t = s
            · subst e; rw [upd_s]; first | (rw [c_13]; rfl) | (unfold bfi; rw [if_neg c_13]; rfl)
            · rw [upd_n _ _ e]; exact hg t (by omega))
        · rw [show (0 : Int32) = nI 0 from rfl, nI_eq (by omega) (by omega)] at c_13
          refine h_iconst dX5_spread_16 ci_0 ?_
          refine h_goto (tgt := 21) dX5_spread_17 rfl ?_
          refine h_iastN (j := s) dX5_spread_21 rfl rfl (by omega) rfl ?_
          refine h_iinc (v := nI (s + 1)) dX5_spread_22 rfl (nI_1 _) (Nat.le_of_ble_eq_true rfl) ?_
          refine h_goto (tgt := 2) dX5_spread_25 rfl ?_
          rw [upA_I]
          exact ih (s + 1) _ (by omega) (by omega) (fun t ht => by
            by_cases e : t = s
            · subst e; rw [upd_s]; first | (rw [c_13]; rfl) | (unfold bfi; rw [if_neg c_13]; rfl)
            · rw [upd_n _ _ e]; exact hg t (by omega))
  have h0 := Lf (ns + 1) 0 (I 8) (by omega) (by omega) (fun t ht => by omega)
  rw [upA_id] at h0
  show HV l mX5_spread (dp + 1) 0 0 0 [some (.ref 2), some (.ref 8), some (.int e), none, none, none] [] hSH I J (hRR lt tx) Q
  refine h_iconst dX5_spread_0 ci_0 ?_
  refine h_istore_n dX5_spread_1 (Nat.le_of_ble_eq_true rfl) ?_
  exact h0
theorem c_spread_2_11 {l : Launch} {dp : Nat} {ns nl : Nat} {pl fa fb sl : Nat → Nat} {rs : Nat → Int32} {I : hI} {J : hJ} {lt tx : Option Nat} {e : Int32} {Q : hQ} (hN : cN I 2 ns nl pl fa fb sl rs) (hw : netW ns nl pl fa fb sl rs) (hQ : ∀ g, (∀ t, t < ns → g t = enc (bf fa fb (slE sl e) nl (ns - 1) t)) → Q none hSH (upA I 11 g) J (hRR lt tx)) : HC l mX5_spread (dp + 1) 0 0 [.ref 2, .ref 11, .int e] hSH I J (hRR lt tx) Q := by
  refine HC.of (by decide +kernel) rfl (Nat.le_of_ble_eq_true rfl) ?_
  obtain ⟨hns, hnl, hpl, hlg⟩ := id hN
  obtain ⟨hn6, hl12, hW, hp99, hr99⟩ := id hw
  have hWe := slE_W hW e
  have Lo : ∀ (m r : Nat) (g : Nat → Int32), ns - r < m → 1 ≤ r → r ≤ ns + 1 → (r ≤ ns ∨ ns = 0) → (∀ t, t < ns → g t = enc (bf fa fb (slE sl e) nl (r - 1) t)) → ∀ z4 z5, HV l mX5_spread (dp + 1) 0 0 30 [some (.ref 2), some (.ref 11), some (.int e), some (.int (nI r)), z4, z5] [] hSH (upA I 11 g) J (hRR lt tx) Q := by
    intro m
    induction m with
    | zero => intro r g h1 h2 h3 h4 hg z4 z5; omega
    | succ m ihr =>
      intro r g h1 h2 h3 h4 hg z4 z5
      have Li : ∀ (m2 k : Nat) (g : Nat → Int32), nl - k < m2 → k ≤ nl → (∀ t, t < ns → g t = enc (rnd fa fb (slE sl e) k (bf fa fb (slE sl e) nl (r - 1)) t)) → r < ns → ∀ z5, HV l mX5_spread (dp + 1) 0 0 41 [some (.ref 2), some (.ref 11), some (.int e), some (.int (nI r)), some (.int (nI k)), z5] [] hSH (upA I 11 g) J (hRR lt tx) Q := by
        intro m2
        induction m2 with
        | zero => intro k g h1 h2 hg h5 z5; omega
        | succ m2 ih =>
          intro k g h5 h6 hg hrn z5
          refine h_iload dX5_spread_41 rfl ?_
          refine h_aload_n dX5_spread_43 rfl ?_
          refine h_getI dX5_spread_44 f_X5_19_5 rfl hnl ?_
          refine h_icmpge (tgt := 115) dX5_spread_47 rfl (fun c_47 => ?_) (fun c_47 => ?_)
          · rw [nI_leI (by omega) (by omega)] at c_47
            refine h_iinc (v := nI (r + 1)) dX5_spread_115 rfl (nI_1 _) (Nat.le_of_ble_eq_true rfl) ?_
            refine h_goto (tgt := 30) dX5_spread_118 rfl ?_
            have ek : k = nl := by omega
            subst ek
            exact ihr (r + 1) g (by omega) (by omega) (by omega) (Or.inl (by omega)) (fun t ht => by rw [hg t ht, show r + 1 - 1 = (r - 1) + 1 by omega]; rfl) _ _
          · rw [nI_leI (by omega) (by omega)] at c_47
            have hb1 := bsm_rnd hWe (bsm_bf hWe hl12 (r - 1) (by omega)) k (by omega) (by omega)
            have hk9 := (hW k (by omega)).2.2.2.2
            refine h_iload dX5_spread_50 rfl ?_
            refine h_iload_n dX5_spread_52 rfl ?_
            refine h_icmpne (tgt := 60) dX5_spread_53 rfl (fun c_53 => ?_) (fun c_53 => ?_)
            · have eS : slE sl e k = sl k := if_neg c_53
              refine h_aload_n dX5_spread_60 rfl ?_
              refine h_getR dX5_spread_61 f_X5_31_5 rfl rfl ?_
              refine h_iload dX5_spread_64 rfl ?_
              refine h_ialdN (j := k) dX5_spread_66 rfl rfl (by omega) rfl (hlg _ (by omega)).2.2.2 ?_
              refine h_istore dX5_spread_67 (Nat.le_of_ble_eq_true rfl) ?_
              refine h_aload_n dX5_spread_69 rfl ?_
              refine h_aload_n dX5_spread_70 rfl ?_
              refine h_getR dX5_spread_71 f_X5_22_5 rfl rfl ?_
              refine h_iload dX5_spread_74 rfl ?_
              refine h_ialdN (j := k) dX5_spread_76 rfl rfl (by omega) rfl (hlg _ (by omega)).1 ?_
              refine h_aload_n dX5_spread_77 rfl ?_
              refine h_getR dX5_spread_78 f_X5_25_5 rfl rfl ?_
              refine h_iload dX5_spread_81 rfl ?_
              refine h_ialdN (j := k) dX5_spread_83 rfl rfl (by omega) rfl (hlg _ (by omega)).2.1 ?_
              refine h_iload dX5_spread_84 rfl ?_
              refine h_cS4 dX5_spread_86 k2_169 oSX5_lessen rfl ?_
              refine c_lessen_11 (f := rnd fa fb (slE sl e) k (bf fa fb (slE sl e) nl (r - 1))) (n := ns) hn6 (hW k (by omega)).1 (hW k (by omega)).2.1 (by omega) hg hb1 (by omega) (fun g2 hg2 => ?_)
              rw [upA_A]
              refine h_aload_n dX5_spread_89 rfl ?_
              refine h_aload_n dX5_spread_90 rfl ?_
              refine h_getR dX5_spread_91 f_X5_25_5 rfl rfl ?_
              refine h_iload dX5_spread_94 rfl ?_
              refine h_ialdN (j := k) dX5_spread_96 rfl rfl (by omega) rfl (hlg _ (by omega)).2.1 ?_
              refine h_aload_n dX5_spread_97 rfl ?_
              refine h_getR dX5_spread_98 f_X5_22_5 rfl rfl ?_
              refine h_iload dX5_spread_101 rfl ?_
              refine h_ialdN (j := k) dX5_spread_103 rfl rfl (by omega) rfl (hlg _ (by omega)).1 ?_
              refine h_iload dX5_spread_104 rfl ?_
              refine h_cS4 dX5_spread_106 k2_169 oSX5_lessen rfl ?_
              refine c_lessen_11 (f := rlx (rnd fa fb (slE sl e) k (bf fa fb (slE sl e) nl (r - 1))) (fa k) (fb k) (sl k)) (n := ns) hn6 (hW k (by omega)).2.1 (hW k (by omega)).1 (by omega) hg2 (bsm_rlx hb1 (by omega) (by omega)) (by omega) (fun g3 hg3 => ?_)
              rw [upA_A]
              refine h_iinc (v := nI (k + 1)) dX5_spread_109 rfl (nI_1 _) (Nat.le_of_ble_eq_true rfl) ?_
              refine h_goto (tgt := 41) dX5_spread_112 rfl ?_
              exact ih (k + 1) _ (by omega) (by omega) (fun t ht => by rw [hg3 t ht]; show _ = enc (rlx (rlx _ _ _ (slE sl e k)) _ _ (slE sl e k) t); rw [eS]) hrn _
            · have eS : slE sl e k = 1 := if_pos c_53
              refine h_iconst dX5_spread_56 ci_1 ?_
              refine h_goto (tgt := 67) dX5_spread_57 rfl ?_
              refine h_istore dX5_spread_67 (Nat.le_of_ble_eq_true rfl) ?_
              refine h_aload_n dX5_spread_69 rfl ?_
              refine h_aload_n dX5_spread_70 rfl ?_
              refine h_getR dX5_spread_71 f_X5_22_5 rfl rfl ?_
              refine h_iload dX5_spread_74 rfl ?_
              refine h_ialdN (j := k) dX5_spread_76 rfl rfl (by omega) rfl (hlg _ (by omega)).1 ?_
              refine h_aload_n dX5_spread_77 rfl ?_
              refine h_getR dX5_spread_78 f_X5_25_5 rfl rfl ?_
              refine h_iload dX5_spread_81 rfl ?_
              refine h_ialdN (j := k) dX5_spread_83 rfl rfl (by omega) rfl (hlg _ (by omega)).2.1 ?_
              refine h_iload dX5_spread_84 rfl ?_
              refine h_cS4 dX5_spread_86 k2_169 oSX5_lessen rfl ?_
              refine c_lessen_11 (f := rnd fa fb (slE sl e) k (bf fa fb (slE sl e) nl (r - 1))) (n := ns) hn6 (hW k (by omega)).1 (hW k (by omega)).2.1 (by omega) hg hb1 (by omega) (fun g2 hg2 => ?_)
              rw [upA_A]
              refine h_aload_n dX5_spread_89 rfl ?_
              refine h_aload_n dX5_spread_90 rfl ?_
              refine h_getR dX5_spread_91 f_X5_25_5 rfl rfl ?_
              refine h_iload dX5_spread_94 rfl ?_
              refine h_ialdN (j := k) dX5_spread_96 rfl rfl (by omega) rfl (hlg _ (by omega)).2.1 ?_
              refine h_aload_n dX5_spread_97 rfl ?_
              refine h_getR dX5_spread_98 f_X5_22_5 rfl rfl ?_
              refine h_iload dX5_spread_101 rfl ?_
              refine h_ialdN (j := k) dX5_spread_103 rfl rfl (by omega) rfl (hlg _ (by omega)).1 ?_
              refine h_iload dX5_spread_104 rfl ?_
              refine h_cS4 dX5_spread_106 k2_169 oSX5_lessen rfl ?_
              refine c_lessen_11 (f := rlx (rnd fa fb (slE sl e) k (bf fa fb (slE sl e) nl (r - 1))) (fa k) (fb k) 1) (n := ns) hn6 (hW k (by omega)).2.1 (hW k (by omega)).1 (by omega) hg2 (bsm_rlx hb1 (by omega) (by omega)) (by omega) (fun g3 hg3 => ?_)
              rw [upA_A]
              refine h_iinc (v := nI (k + 1)) dX5_spread_109 rfl (nI_1 _) (Nat.le_of_ble_eq_true rfl) ?_
              refine h_goto (tgt := 41) dX5_spread_112 rfl ?_
              exact ih (k + 1) _ (by omega) (by omega) (fun t ht => by rw [hg3 t ht]; show _ = enc (rlx (rlx _ _ _ (slE sl e k)) _ _ (slE sl e k) t); rw [eS]) hrn _
      refine h_iload_n dX5_spread_30 rfl ?_
      refine h_aload_n dX5_spread_31 rfl ?_
      refine h_getI dX5_spread_32 f_X5_9_5 rfl hns ?_
      refine h_icmpge (tgt := 121) dX5_spread_35 rfl (fun c_35 => ?_) (fun c_35 => ?_)
      · rw [nI_leI (by omega) (by omega)] at c_35
        refine h_return dX5_spread_121 rfl ?_
        exact hQ g (fun t ht => by rw [hg t ht, show r - 1 = ns - 1 by omega])
      · rw [nI_leI (by omega) (by omega)] at c_35
        refine h_iconst dX5_spread_38 ci_0 ?_
        refine h_istore dX5_spread_39 (Nat.le_of_ble_eq_true rfl) ?_
        exact Li (nl + 1) 0 g (by omega) (by omega) hg (by omega) _
  have Lf : ∀ (m s : Nat) (g : Nat → Int32), ns - s < m → s ≤ ns → (∀ t, t < s → g t = enc (bfi t)) → HV l mX5_spread (dp + 1) 0 0 2 [some (.ref 2), some (.ref 11), some (.int e), some (.int (nI s)), none, none] [] hSH (upA I 11 g) J (hRR lt tx) Q := by
    intro m
    induction m with
    | zero => intro s g h1 h2 hg; omega
    | succ m ih =>
      intro s g h1 h2 hg
      refine h_iload_n dX5_spread_2 rfl ?_
      refine h_aload_n dX5_spread_3 rfl ?_
      refine h_getI dX5_spread_4 f_X5_9_5 rfl hns ?_
      refine h_icmpge (tgt := 28) dX5_spread_7 rfl (fun c_7 => ?_) (fun c_7 => ?_)
      · rw [nI_leI (by omega) (by omega)] at c_7
        refine h_iconst dX5_spread_28 ci_1 ?_
        refine h_istore_n dX5_spread_29 (Nat.le_of_ble_eq_true rfl) ?_
        have es : s = ns := by omega
        subst es
        exact Lo (s + 1) 1 g (by omega) (by omega) (by omega) (by omega) (fun t ht => hg t ht) _ _
      · rw [nI_leI (by omega) (by omega)] at c_7
        refine h_aload_n dX5_spread_10 rfl ?_
        refine h_iload_n dX5_spread_11 rfl ?_
        refine h_iload_n dX5_spread_12 rfl ?_
        refine h_ifne (tgt := 20) dX5_spread_13 rfl (fun c_13 => ?_) (fun c_13 => ?_)
        · rw [show (0 : Int32) = nI 0 from rfl, nI_eq (by omega) (by omega)] at c_13
          refine h_iconst dX5_spread_20 ci_m1 ?_
          refine h_iastN (j := s) dX5_spread_21 rfl rfl (by omega) rfl ?_
          refine h_iinc (v := nI (s + 1)) dX5_spread_22 rfl (nI_1 _) (Nat.le_of_ble_eq_true rfl) ?_
          refine h_goto (tgt := 2) dX5_spread_25 rfl ?_
          rw [upA_I]
          exact ih (s + 1) _ (by omega) (by omega) (fun t ht => by
            by_cases e : t = s
            · subst e; rw [upd_s]; first | (rw [c_13]; rfl) | (unfold bfi; rw [if_neg c_13]; rfl)
            · rw [upd_n _ _ e]; exact hg t (by omega))
        · rw [show (0 : Int32) = nI 0 from rfl, nI_eq (by omega) (by omega)] at c_13
          refine h_iconst dX5_spread_16 ci_0 ?_
          refine h_goto (tgt := 21) dX5_spread_17 rfl ?_
          refine h_iastN (j := s) dX5_spread_21 rfl rfl (by omega) rfl ?_
          refine h_iinc (v := nI (s + 1)) dX5_spread_22 rfl (nI_1 _) (Nat.le_of_ble_eq_true rfl) ?_
          refine h_goto (tgt := 2) dX5_spread_25 rfl ?_
          rw [upA_I]
          exact ih (s + 1) _ (by omega) (by omega) (fun t ht => by
            by_cases e : t = s
            · subst e; rw [upd_s]; first | (rw [c_13]; rfl) | (unfold bfi; rw [if_neg c_13]; rfl)
            · rw [upd_n _ _ e]; exact hg t (by omega))
  have h0 := Lf (ns + 1) 0 (I 11) (by omega) (by omega) (fun t ht => by omega)
  rw [upA_id] at h0
  show HV l mX5_spread (dp + 1) 0 0 0 [some (.ref 2), some (.ref 11), some (.int e), none, none, none] [] hSH I J (hRR lt tx) Q
  refine h_iconst dX5_spread_0 ci_0 ?_
  refine h_istore_n dX5_spread_1 (Nat.le_of_ble_eq_true rfl) ?_
  exact h0
theorem c_spread_29_35 {l : Launch} {dp : Nat} {ns nl : Nat} {pl fa fb sl : Nat → Nat} {rs : Nat → Int32} {I : hI} {J : hJ} {lt tx : Option Nat} {e : Int32} {Q : hQ} (hN : cN I 29 ns nl pl fa fb sl rs) (hw : netW ns nl pl fa fb sl rs) (hQ : ∀ g, (∀ t, t < ns → g t = enc (bf fa fb (slE sl e) nl (ns - 1) t)) → Q none hSH (upA I 35 g) J (hRR lt tx)) : HC l mX5_spread (dp + 1) 0 0 [.ref 29, .ref 35, .int e] hSH I J (hRR lt tx) Q := by
  refine HC.of (by decide +kernel) rfl (Nat.le_of_ble_eq_true rfl) ?_
  obtain ⟨hns, hnl, hpl, hlg⟩ := id hN
  obtain ⟨hn6, hl12, hW, hp99, hr99⟩ := id hw
  have hWe := slE_W hW e
  have Lo : ∀ (m r : Nat) (g : Nat → Int32), ns - r < m → 1 ≤ r → r ≤ ns + 1 → (r ≤ ns ∨ ns = 0) → (∀ t, t < ns → g t = enc (bf fa fb (slE sl e) nl (r - 1) t)) → ∀ z4 z5, HV l mX5_spread (dp + 1) 0 0 30 [some (.ref 29), some (.ref 35), some (.int e), some (.int (nI r)), z4, z5] [] hSH (upA I 35 g) J (hRR lt tx) Q := by
    intro m
    induction m with
    | zero => intro r g h1 h2 h3 h4 hg z4 z5; omega
    | succ m ihr =>
      intro r g h1 h2 h3 h4 hg z4 z5
      have Li : ∀ (m2 k : Nat) (g : Nat → Int32), nl - k < m2 → k ≤ nl → (∀ t, t < ns → g t = enc (rnd fa fb (slE sl e) k (bf fa fb (slE sl e) nl (r - 1)) t)) → r < ns → ∀ z5, HV l mX5_spread (dp + 1) 0 0 41 [some (.ref 29), some (.ref 35), some (.int e), some (.int (nI r)), some (.int (nI k)), z5] [] hSH (upA I 35 g) J (hRR lt tx) Q := by
        intro m2
        induction m2 with
        | zero => intro k g h1 h2 hg h5 z5; omega
        | succ m2 ih =>
          intro k g h5 h6 hg hrn z5
          refine h_iload dX5_spread_41 rfl ?_
          refine h_aload_n dX5_spread_43 rfl ?_
          refine h_getI dX5_spread_44 f_X5_19_5 rfl hnl ?_
          refine h_icmpge (tgt := 115) dX5_spread_47 rfl (fun c_47 => ?_) (fun c_47 => ?_)
          · rw [nI_leI (by omega) (by omega)] at c_47
            refine h_iinc (v := nI (r + 1)) dX5_spread_115 rfl (nI_1 _) (Nat.le_of_ble_eq_true rfl) ?_
            refine h_goto (tgt := 30) dX5_spread_118 rfl ?_
            have ek : k = nl := by omega
            subst ek
            exact ihr (r + 1) g (by omega) (by omega) (by omega) (Or.inl (by omega)) (fun t ht => by rw [hg t ht, show r + 1 - 1 = (r - 1) + 1 by omega]; rfl) _ _
          · rw [nI_leI (by omega) (by omega)] at c_47
            have hb1 := bsm_rnd hWe (bsm_bf hWe hl12 (r - 1) (by omega)) k (by omega) (by omega)
            have hk9 := (hW k (by omega)).2.2.2.2
            refine h_iload dX5_spread_50 rfl ?_
            refine h_iload_n dX5_spread_52 rfl ?_
            refine h_icmpne (tgt := 60) dX5_spread_53 rfl (fun c_53 => ?_) (fun c_53 => ?_)
            · have eS : slE sl e k = sl k := if_neg c_53
              refine h_aload_n dX5_spread_60 rfl ?_
              refine h_getR dX5_spread_61 f_X5_31_5 rfl rfl ?_
              refine h_iload dX5_spread_64 rfl ?_
              refine h_ialdN (j := k) dX5_spread_66 rfl rfl (by omega) rfl (hlg _ (by omega)).2.2.2 ?_
              refine h_istore dX5_spread_67 (Nat.le_of_ble_eq_true rfl) ?_
              refine h_aload_n dX5_spread_69 rfl ?_
              refine h_aload_n dX5_spread_70 rfl ?_
              refine h_getR dX5_spread_71 f_X5_22_5 rfl rfl ?_
              refine h_iload dX5_spread_74 rfl ?_
              refine h_ialdN (j := k) dX5_spread_76 rfl rfl (by omega) rfl (hlg _ (by omega)).1 ?_
              refine h_aload_n dX5_spread_77 rfl ?_
              refine h_getR dX5_spread_78 f_X5_25_5 rfl rfl ?_
              refine h_iload dX5_spread_81 rfl ?_
              refine h_ialdN (j := k) dX5_spread_83 rfl rfl (by omega) rfl (hlg _ (by omega)).2.1 ?_
              refine h_iload dX5_spread_84 rfl ?_
              refine h_cS4 dX5_spread_86 k2_169 oSX5_lessen rfl ?_
              refine c_lessen_35 (f := rnd fa fb (slE sl e) k (bf fa fb (slE sl e) nl (r - 1))) (n := ns) hn6 (hW k (by omega)).1 (hW k (by omega)).2.1 (by omega) hg hb1 (by omega) (fun g2 hg2 => ?_)
              rw [upA_A]
              refine h_aload_n dX5_spread_89 rfl ?_
              refine h_aload_n dX5_spread_90 rfl ?_
              refine h_getR dX5_spread_91 f_X5_25_5 rfl rfl ?_
              refine h_iload dX5_spread_94 rfl ?_
              refine h_ialdN (j := k) dX5_spread_96 rfl rfl (by omega) rfl (hlg _ (by omega)).2.1 ?_
              refine h_aload_n dX5_spread_97 rfl ?_
              refine h_getR dX5_spread_98 f_X5_22_5 rfl rfl ?_
              refine h_iload dX5_spread_101 rfl ?_
              refine h_ialdN (j := k) dX5_spread_103 rfl rfl (by omega) rfl (hlg _ (by omega)).1 ?_
              refine h_iload dX5_spread_104 rfl ?_
              refine h_cS4 dX5_spread_106 k2_169 oSX5_lessen rfl ?_
              refine c_lessen_35 (f := rlx (rnd fa fb (slE sl e) k (bf fa fb (slE sl e) nl (r - 1))) (fa k) (fb k) (sl k)) (n := ns) hn6 (hW k (by omega)).2.1 (hW k (by omega)).1 (by omega) hg2 (bsm_rlx hb1 (by omega) (by omega)) (by omega) (fun g3 hg3 => ?_)
              rw [upA_A]
              refine h_iinc (v := nI (k + 1)) dX5_spread_109 rfl (nI_1 _) (Nat.le_of_ble_eq_true rfl) ?_
              refine h_goto (tgt := 41) dX5_spread_112 rfl ?_
              exact ih (k + 1) _ (by omega) (by omega) (fun t ht => by rw [hg3 t ht]; show _ = enc (rlx (rlx _ _ _ (slE sl e k)) _ _ (slE sl e k) t); rw [eS]) hrn _
            · have eS : slE sl e k = 1 := if_pos c_53
              refine h_iconst dX5_spread_56 ci_1 ?_
              refine h_goto (tgt := 67) dX5_spread_57 rfl ?_
              refine h_istore dX5_spread_67 (Nat.le_of_ble_eq_true rfl) ?_
              refine h_aload_n dX5_spread_69 rfl ?_
              refine h_aload_n dX5_spread_70 rfl ?_
              refine h_getR dX5_spread_71 f_X5_22_5 rfl rfl ?_
              refine h_iload dX5_spread_74 rfl ?_
              refine h_ialdN (j := k) dX5_spread_76 rfl rfl (by omega) rfl (hlg _ (by omega)).1 ?_
              refine h_aload_n dX5_spread_77 rfl ?_
              refine h_getR dX5_spread_78 f_X5_25_5 rfl rfl ?_
              refine h_iload dX5_spread_81 rfl ?_
              refine h_ialdN (j := k) dX5_spread_83 rfl rfl (by omega) rfl (hlg _ (by omega)).2.1 ?_
              refine h_iload dX5_spread_84 rfl ?_
              refine h_cS4 dX5_spread_86 k2_169 oSX5_lessen rfl ?_
              refine c_lessen_35 (f := rnd fa fb (slE sl e) k (bf fa fb (slE sl e) nl (r - 1))) (n := ns) hn6 (hW k (by omega)).1 (hW k (by omega)).2.1 (by omega) hg hb1 (by omega) (fun g2 hg2 => ?_)
              rw [upA_A]
              refine h_aload_n dX5_spread_89 rfl ?_
              refine h_aload_n dX5_spread_90 rfl ?_
              refine h_getR dX5_spread_91 f_X5_25_5 rfl rfl ?_
              refine h_iload dX5_spread_94 rfl ?_
              refine h_ialdN (j := k) dX5_spread_96 rfl rfl (by omega) rfl (hlg _ (by omega)).2.1 ?_
              refine h_aload_n dX5_spread_97 rfl ?_
              refine h_getR dX5_spread_98 f_X5_22_5 rfl rfl ?_
              refine h_iload dX5_spread_101 rfl ?_
              refine h_ialdN (j := k) dX5_spread_103 rfl rfl (by omega) rfl (hlg _ (by omega)).1 ?_
              refine h_iload dX5_spread_104 rfl ?_
              refine h_cS4 dX5_spread_106 k2_169 oSX5_lessen rfl ?_
              refine c_lessen_35 (f := rlx (rnd fa fb (slE sl e) k (bf fa fb (slE sl e) nl (r - 1))) (fa k) (fb k) 1) (n := ns) hn6 (hW k (by omega)).2.1 (hW k (by omega)).1 (by omega) hg2 (bsm_rlx hb1 (by omega) (by omega)) (by omega) (fun g3 hg3 => ?_)
              rw [upA_A]
              refine h_iinc (v := nI (k + 1)) dX5_spread_109 rfl (nI_1 _) (Nat.le_of_ble_eq_true rfl) ?_
              refine h_goto (tgt := 41) dX5_spread_112 rfl ?_
              exact ih (k + 1) _ (by omega) (by omega) (fun t ht => by rw [hg3 t ht]; show _ = enc (rlx (rlx _ _ _ (slE sl e k)) _ _ (slE sl e k) t); rw [eS]) hrn _
      refine h_iload_n dX5_spread_30 rfl ?_
      refine h_aload_n dX5_spread_31 rfl ?_
      refine h_getI dX5_spread_32 f_X5_9_5 rfl hns ?_
      refine h_icmpge (tgt := 121) dX5_spread_35 rfl (fun c_35 => ?_) (fun c_35 => ?_)
      · rw [nI_leI (by omega) (by omega)] at c_35
        refine h_return dX5_spread_121 rfl ?_
        exact hQ g (fun t ht => by rw [hg t ht, show r - 1 = ns - 1 by omega])
      · rw [nI_leI (by omega) (by omega)] at c_35
        refine h_iconst dX5_spread_38 ci_0 ?_
        refine h_istore dX5_spread_39 (Nat.le_of_ble_eq_true rfl) ?_
        exact Li (nl + 1) 0 g (by omega) (by omega) hg (by omega) _
  have Lf : ∀ (m s : Nat) (g : Nat → Int32), ns - s < m → s ≤ ns → (∀ t, t < s → g t = enc (bfi t)) → HV l mX5_spread (dp + 1) 0 0 2 [some (.ref 29), some (.ref 35), some (.int e), some (.int (nI s)), none, none] [] hSH (upA I 35 g) J (hRR lt tx) Q := by
    intro m
    induction m with
    | zero => intro s g h1 h2 hg; omega
    | succ m ih =>
      intro s g h1 h2 hg
      refine h_iload_n dX5_spread_2 rfl ?_
      refine h_aload_n dX5_spread_3 rfl ?_
      refine h_getI dX5_spread_4 f_X5_9_5 rfl hns ?_
      refine h_icmpge (tgt := 28) dX5_spread_7 rfl (fun c_7 => ?_) (fun c_7 => ?_)
      · rw [nI_leI (by omega) (by omega)] at c_7
        refine h_iconst dX5_spread_28 ci_1 ?_
        refine h_istore_n dX5_spread_29 (Nat.le_of_ble_eq_true rfl) ?_
        have es : s = ns := by omega
        subst es
        exact Lo (s + 1) 1 g (by omega) (by omega) (by omega) (by omega) (fun t ht => hg t ht) _ _
      · rw [nI_leI (by omega) (by omega)] at c_7
        refine h_aload_n dX5_spread_10 rfl ?_
        refine h_iload_n dX5_spread_11 rfl ?_
        refine h_iload_n dX5_spread_12 rfl ?_
        refine h_ifne (tgt := 20) dX5_spread_13 rfl (fun c_13 => ?_) (fun c_13 => ?_)
        · rw [show (0 : Int32) = nI 0 from rfl, nI_eq (by omega) (by omega)] at c_13
          refine h_iconst dX5_spread_20 ci_m1 ?_
          refine h_iastN (j := s) dX5_spread_21 rfl rfl (by omega) rfl ?_
          refine h_iinc (v := nI (s + 1)) dX5_spread_22 rfl (nI_1 _) (Nat.le_of_ble_eq_true rfl) ?_
          refine h_goto (tgt := 2) dX5_spread_25 rfl ?_
          rw [upA_I]
          exact ih (s + 1) _ (by omega) (by omega) (fun t ht => by
            by_cases e : t = s
            · subst e; rw [upd_s]; first | (rw [c_13]; rfl) | (unfold bfi; rw [if_neg c_13]; rfl)
            · rw [upd_n _ _ e]; exact hg t (by omega))
        · rw [show (0 : Int32) = nI 0 from rfl, nI_eq (by omega) (by omega)] at c_13
          refine h_iconst dX5_spread_16 ci_0 ?_
          refine h_goto (tgt := 21) dX5_spread_17 rfl ?_
          refine h_iastN (j := s) dX5_spread_21 rfl rfl (by omega) rfl ?_
          refine h_iinc (v := nI (s + 1)) dX5_spread_22 rfl (nI_1 _) (Nat.le_of_ble_eq_true rfl) ?_
          refine h_goto (tgt := 2) dX5_spread_25 rfl ?_
          rw [upA_I]
          exact ih (s + 1) _ (by omega) (by omega) (fun t ht => by
            by_cases e : t = s
            · subst e; rw [upd_s]; first | (rw [c_13]; rfl) | (unfold bfi; rw [if_neg c_13]; rfl)
            · rw [upd_n _ _ e]; exact hg t (by omega))
  have h0 := Lf (ns + 1) 0 (I 35) (by omega) (by omega) (fun t ht => by omega)
  rw [upA_id] at h0
  show HV l mX5_spread (dp + 1) 0 0 0 [some (.ref 29), some (.ref 35), some (.int e), none, none, none] [] hSH I J (hRR lt tx) Q
  refine h_iconst dX5_spread_0 ci_0 ?_
  refine h_istore_n dX5_spread_1 (Nat.le_of_ble_eq_true rfl) ?_
  exact h0
