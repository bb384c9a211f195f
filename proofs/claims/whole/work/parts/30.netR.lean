/-- the reference's rows of a net -/
def rN (I : hI) (ns nl : Nat) (pl fa fb sl : Nat → Nat) (rs : Nat → Int32) : Prop := I 82 0 = nI ns ∧ I 82 2 = nI nl ∧ (∀ s, s < ns → I 83 s = nI (pl s)) ∧ ∀ k, k < nl → I 84 (4 * k) = nI (fa k) ∧ I 84 (4 * k + 1) = nI (fb k) ∧ I 84 (4 * k + 2) = rs k ∧ I 84 (4 * k + 3) = nI (sl k)
theorem nup {g : Nat → Int32} {f : Nat → Nat} {n x y w : Nat} (hf : ∀ s, s < n → g s = nI (f s)) (h : ¬ f y ≤ f x + w) : ∀ s, s < n → upd g y (nI (f x + w)) s = nI (rlx f x y w s) := by
  intro s hs
  unfold rlx
  by_cases e : s = y
  · subst e; rw [upd_s, if_pos rfl, if_pos (by omega)]
  · rw [upd_n g _ e, if_neg e]; exact hf s hs
theorem nno {g : Nat → Int32} {f : Nat → Nat} {n x y w : Nat} (hf : ∀ s, s < n → g s = nI (f s)) (h : f y ≤ f x + w) : ∀ s, s < n → g s = nI (rlx f x y w s) := by
  intro s hs
  unfold rlx
  by_cases e : s = y
  · subst e; rw [if_pos rfl, if_neg (by omega)]; exact hf s hs
  · rw [if_neg e]; exact hf s hs
theorem upI_in (I : hI) {a b : Nat} (h : b ≠ a) (f g : Nat → Int32) (j : Nat) (v : Int32) : upI (upA (upA I b f) a g) b j v = upA (upA I b (upd f j v)) a g := by
  funext x
  by_cases e : x = b
  · subst e; simp [upI, upA, h]
  · by_cases e2 : x = a
    · subst e2; simp [upI, upA, e]
    · simp [upI, upA, e, e2]
theorem upI_out (I : hI) {a b : Nat} (h : b ≠ a) (f : Nat → Int32) (j : Nat) (v : Int32) : upI (upA I a f) b j v = upA (upI I b j v) a f := by
  funext x
  by_cases e : x = b
  · subst e; simp [upI, upA, h]
  · by_cases e2 : x = a
    · subst e2; simp [upI, upA, e]
    · simp [upI, upA, e, e2]
def kd : Nat → Int32
  | 0 => -1
  | p + 1 => nI p
theorem kd_dec (p : Nat) : nI p + Int32.ofInt (-1) = kd p := by
  cases p with
  | zero => decide
  | succ p =>
    show nI (p + 1) + Int32.ofInt (-1) = nI p
    rw [show Int32.ofInt (-1) = (-1 : Int32) by decide]
    exact pk_m1 p
theorem kd_sub (n : Nat) : nI n - nI 1 = kd n := by
  cases n with
  | zero => decide
  | succ p => exact pk_sub (by omega)
theorem r_nearer {l : Launch} {dp : Nat} {f : Nat → Nat} {x y w : Nat} {I : hI} {J : hJ} {lt tx : Option Nat} {Q : hQ} (hx : x < 6) (hy : y < 6) (hw9 : w ≤ 9) (hf : ∀ s, s < 6 → I 90 s = nI (f s)) (hb : ∀ s, f s ≤ 1000000) (hQ : ∀ g, (∀ s, s < 6 → g s = nI (rlx f x y w s)) → Q none hSH (upA I 90 g) J (hRR lt tx)) : HC l mX12_nearer dp 0 0 [.ref 82, .int (nI x), .int (nI y), .int (nI w)] hSH I J (hRR lt tx) Q := by
  refine HC.of (by decide +kernel) rfl (Nat.le_of_ble_eq_true rfl) ?_
  show HV l mX12_nearer dp 0 0 0 [some (.ref 82), some (.int (nI x)), some (.int (nI y)), some (.int (nI w))] [] hSH I J (hRR lt tx) Q
  have hbx := hb x
  have hby := hb y
  refine h_aload_n dX12_nearer_0 rfl ?_
  refine h_getR dX12_nearer_1 f_X12_31_10 rfl rfl ?_
  refine h_iload_n dX12_nearer_4 rfl ?_
  refine h_ialdN (j := x) dX12_nearer_5 rfl rfl (by omega) rfl (hf _ (by omega)) ?_
  refine h_iload_n dX12_nearer_6 rfl ?_
  refine h_iaddN dX12_nearer_7 ?_
  refine h_aload_n dX12_nearer_8 rfl ?_
  refine h_getR dX12_nearer_9 f_X12_31_10 rfl rfl ?_
  refine h_iload_n dX12_nearer_12 rfl ?_
  refine h_ialdN (j := y) dX12_nearer_13 rfl rfl (by omega) rfl (hf _ (by omega)) ?_
  refine h_icmpge (tgt := 31) dX12_nearer_14 rfl (fun c_14 => ?_) (fun c_14 => ?_)
  · rw [nI_leI (by omega) (by omega)] at c_14
    refine h_return dX12_nearer_31 rfl ?_
    first
      | exact hQ _ (nup hf c_14)
      | (have := hQ (I 90) (nno hf c_14)
         rw [upA_id] at this
         exact this)
  · rw [nI_leI (by omega) (by omega)] at c_14
    refine h_aload_n dX12_nearer_17 rfl ?_
    refine h_getR dX12_nearer_18 f_X12_31_10 rfl rfl ?_
    refine h_iload_n dX12_nearer_21 rfl ?_
    refine h_aload_n dX12_nearer_22 rfl ?_
    refine h_getR dX12_nearer_23 f_X12_31_10 rfl rfl ?_
    refine h_iload_n dX12_nearer_26 rfl ?_
    refine h_ialdN (j := x) dX12_nearer_27 rfl rfl (by omega) rfl (hf _ (by omega)) ?_
    refine h_iload_n dX12_nearer_28 rfl ?_
    refine h_iaddN dX12_nearer_29 ?_
    refine h_iastN (j := y) dX12_nearer_30 rfl rfl (by omega) rfl ?_
    refine h_return dX12_nearer_31 rfl ?_
    first
      | exact hQ _ (nup hf c_14)
      | (have := hQ (I 90) (nno hf c_14)
         rw [upA_id] at this
         exact this)
theorem r_hasLevel {l : Launch} {dp : Nat} {f : Nat → Nat} {s : Nat} {I : hI} {J : hJ} {lt tx : Option Nat} {Q : hQ} (hs : s < 6) (hf : ∀ s, s < 6 → I 90 s = nI (f s)) (hb : ∀ s, f s ≤ 1000000) (h1 : f s < 1000000 → Q (some (.int (nI 1))) hSH I J (hRR lt tx)) (h0 : ¬ f s < 1000000 → Q (some (.int (nI 0))) hSH I J (hRR lt tx)) : HC l mX12_hasLevel dp 0 0 [.ref 82, .int (nI s)] hSH I J (hRR lt tx) Q := by
  refine HC.of (by decide +kernel) rfl (Nat.le_of_ble_eq_true rfl) ?_
  show HV l mX12_hasLevel dp 0 0 0 [some (.ref 82), some (.int (nI s))] [] hSH I J (hRR lt tx) Q
  have hbs := hb s
  refine h_aload_n dX12_hasLevel_0 rfl ?_
  refine h_getR dX12_hasLevel_1 f_X12_31_10 rfl rfl ?_
  refine h_iload_n dX12_hasLevel_4 rfl ?_
  refine h_ialdN (j := s) dX12_hasLevel_5 rfl rfl (by omega) rfl (hf _ (by omega)) ?_
  refine h_ldc (v := nI 1000000) dX12_hasLevel_6 k5_208 ?_
  refine h_icmpge (tgt := 15) dX12_hasLevel_8 rfl (fun c_8 => ?_) (fun c_8 => ?_)
  · rw [nI_leI (by omega) (by omega)] at c_8
    refine h_iconst dX12_hasLevel_15 ci_0 ?_
    refine h_zreturn dX12_hasLevel_16 rfl (by decide) ?_
    exact h0 (by omega)
  · rw [nI_leI (by omega) (by omega)] at c_8
    refine h_iconst dX12_hasLevel_11 ci_1 ?_
    refine h_goto (tgt := 16) dX12_hasLevel_12 rfl ?_
    refine h_zreturn dX12_hasLevel_16 rfl (by decide) ?_
    exact h1 (by omega)
theorem r_findDoubts {l : Launch} {dp : Nat} {ns nl : Nat} {pl fa fb sl : Nat → Nat} {rs : Nat → Int32} {I : hI} {J : hJ} {lt tx : Option Nat} {Q : hQ} (hN : rN I ns nl pl fa fb sl rs) (hw : netW ns nl pl fa fb sl rs) (hQ : ∀ g, (∀ s, s < 6 → g s = nI (dist fa fb sl nl s)) → Q none hSH (upA I 90 g) J (hRR lt tx)) : HC l mX12_findDoubts (dp + 1) 0 0 [.ref 82] hSH I J (hRR lt tx) Q := by
  refine HC.of (by decide +kernel) rfl (Nat.le_of_ble_eq_true rfl) ?_
  obtain ⟨hns, hnl, hpl, hlg⟩ := id hN
  obtain ⟨hn6, hl12, hW, hp99, hr99⟩ := id hw
  have Lo : ∀ (m r : Nat) (g : Nat → Int32), 6 - r < m → r ≤ 6 → (∀ t, t < 6 → g t = nI (bf fa fb sl nl r t)) → ∀ z2, HV l mX12_findDoubts (dp + 1) 0 0 32 [some (.ref 82), some (.int (nI r)), z2] [] hSH (upA I 90 g) J (hRR lt tx) Q := by
    intro m
    induction m with
    | zero => intro r g h1 h2 hg z2; omega
    | succ m ihr =>
      intro r g h1 h2 hg z2
      have Li : ∀ (m2 k : Nat) (g : Nat → Int32), nl - k < m2 → k ≤ nl → (∀ t, t < 6 → g t = nI (rnd fa fb sl k (bf fa fb sl nl r) t)) → r < 6 → HV l mX12_findDoubts (dp + 1) 0 0 40 [some (.ref 82), some (.int (nI r)), some (.int (nI k))] [] hSH (upA I 90 g) J (hRR lt tx) Q := by
        intro m2
        induction m2 with
        | zero => intro k g h1 h2 hg h5; omega
        | succ m2 ih =>
          intro k g h5 h6 hg hrn
          refine h_iload_n dX12_findDoubts_40 rfl ?_
          refine h_aload_n dX12_findDoubts_41 rfl ?_
          refine h_getI dX12_findDoubts_42 f_X12_120_10 rfl hnl ?_
          refine h_icmpge (tgt := 118) dX12_findDoubts_45 rfl (fun c_45 => ?_) (fun c_45 => ?_)
          · rw [nI_leI (by omega) (by omega)] at c_45
            refine h_iinc (v := nI (r + 1)) dX12_findDoubts_118 rfl (nI_1 _) (Nat.le_of_ble_eq_true rfl) ?_
            refine h_goto (tgt := 32) dX12_findDoubts_121 rfl ?_
            have ek : k = nl := by omega
            subst ek
            exact ihr (r + 1) g (by omega) (by omega) (fun t ht => by rw [hg t ht]; rfl) _
          · rw [nI_leI (by omega) (by omega)] at c_45
            have hWk := hW k (by omega)
            refine h_aload_n dX12_findDoubts_48 rfl ?_
            refine h_aload_n dX12_findDoubts_49 rfl ?_
            refine h_getR dX12_findDoubts_50 f_X12_13_10 rfl rfl ?_
            refine h_iconst dX12_findDoubts_53 ci_4 ?_
            refine h_iload_n dX12_findDoubts_54 rfl ?_
            refine h_imulN dX12_findDoubts_55 ?_
            refine h_ialdN (j := 4 * k) dX12_findDoubts_56 rfl rfl (by omega) rfl (hlg k (by omega)).1 ?_
            refine h_aload_n dX12_findDoubts_57 rfl ?_
            refine h_getR dX12_findDoubts_58 f_X12_13_10 rfl rfl ?_
            refine h_iconst dX12_findDoubts_61 ci_4 ?_
            refine h_iload_n dX12_findDoubts_62 rfl ?_
            refine h_imulN dX12_findDoubts_63 ?_
            refine h_iconst dX12_findDoubts_64 ci_1 ?_
            refine h_iaddN dX12_findDoubts_65 ?_
            refine h_ialdN (j := (4 * k) + 1) dX12_findDoubts_66 rfl rfl (by omega) rfl (hlg k (by omega)).2.1 ?_
            refine h_aload_n dX12_findDoubts_67 rfl ?_
            refine h_getR dX12_findDoubts_68 f_X12_13_10 rfl rfl ?_
            refine h_iconst dX12_findDoubts_71 ci_4 ?_
            refine h_iload_n dX12_findDoubts_72 rfl ?_
            refine h_imulN dX12_findDoubts_73 ?_
            refine h_iconst dX12_findDoubts_74 ci_3 ?_
            refine h_iaddN dX12_findDoubts_75 ?_
            refine h_ialdN (j := (4 * k) + 3) dX12_findDoubts_76 rfl rfl (by omega) rfl (hlg k (by omega)).2.2.2 ?_
            refine h_cV3 dX12_findDoubts_77 k5_209 oVX12_nearer rfl rfl ?_
            refine r_nearer (f := rnd fa fb sl k (bf fa fb sl nl r)) (by omega) (by omega) (by omega) hg (fun s => Nat.le_trans (rnd_le _ _ _) (bf_le _ _)) (fun g2 hg2 => ?_)
            rw [upA_A]
            refine h_aload_n dX12_findDoubts_80 rfl ?_
            refine h_aload_n dX12_findDoubts_81 rfl ?_
            refine h_getR dX12_findDoubts_82 f_X12_13_10 rfl rfl ?_
            refine h_iconst dX12_findDoubts_85 ci_4 ?_
            refine h_iload_n dX12_findDoubts_86 rfl ?_
            refine h_imulN dX12_findDoubts_87 ?_
            refine h_iconst dX12_findDoubts_88 ci_1 ?_
            refine h_iaddN dX12_findDoubts_89 ?_
            refine h_ialdN (j := (4 * k) + 1) dX12_findDoubts_90 rfl rfl (by omega) rfl (hlg k (by omega)).2.1 ?_
            refine h_aload_n dX12_findDoubts_91 rfl ?_
            refine h_getR dX12_findDoubts_92 f_X12_13_10 rfl rfl ?_
            refine h_iconst dX12_findDoubts_95 ci_4 ?_
            refine h_iload_n dX12_findDoubts_96 rfl ?_
            refine h_imulN dX12_findDoubts_97 ?_
            refine h_ialdN (j := 4 * k) dX12_findDoubts_98 rfl rfl (by omega) rfl (hlg k (by omega)).1 ?_
            refine h_aload_n dX12_findDoubts_99 rfl ?_
            refine h_getR dX12_findDoubts_100 f_X12_13_10 rfl rfl ?_
            refine h_iconst dX12_findDoubts_103 ci_4 ?_
            refine h_iload_n dX12_findDoubts_104 rfl ?_
            refine h_imulN dX12_findDoubts_105 ?_
            refine h_iconst dX12_findDoubts_106 ci_3 ?_
            refine h_iaddN dX12_findDoubts_107 ?_
            refine h_ialdN (j := (4 * k) + 3) dX12_findDoubts_108 rfl rfl (by omega) rfl (hlg k (by omega)).2.2.2 ?_
            refine h_cV3 dX12_findDoubts_109 k5_209 oVX12_nearer rfl rfl ?_
            refine r_nearer (f := rlx (rnd fa fb sl k (bf fa fb sl nl r)) (fa k) (fb k) (sl k)) (by omega) (by omega) (by omega) hg2 (fun s => Nat.le_trans (rlx_le _ _ _ _ _) (Nat.le_trans (rnd_le _ _ _) (bf_le _ _))) (fun g3 hg3 => ?_)
            rw [upA_A]
            refine h_iinc (v := nI (k + 1)) dX12_findDoubts_112 rfl (nI_1 _) (Nat.le_of_ble_eq_true rfl) ?_
            refine h_goto (tgt := 40) dX12_findDoubts_115 rfl ?_
            exact ih (k + 1) _ (by omega) (by omega) (fun t ht => by rw [hg3 t ht]; rfl) hrn
      refine h_iload_n dX12_findDoubts_32 rfl ?_
      refine h_bipush dX12_findDoubts_33 cb_6 ?_
      refine h_icmpge (tgt := 124) dX12_findDoubts_35 rfl (fun c_35 => ?_) (fun c_35 => ?_)
      · rw [nI_leI (by omega) (by omega)] at c_35
        refine h_return dX12_findDoubts_124 rfl ?_
        have er : r = 6 := by omega
        subst er
        exact hQ g hg
      · rw [nI_leI (by omega) (by omega)] at c_35
        refine h_iconst dX12_findDoubts_38 ci_0 ?_
        refine h_istore_n dX12_findDoubts_39 (Nat.le_of_ble_eq_true rfl) ?_
        exact Li (nl + 1) 0 g (by omega) (by omega) hg (by omega)
  have Lf : ∀ (m s : Nat) (g : Nat → Int32), 6 - s < m → s ≤ 6 → (∀ t, t < s → g t = nI (bfi t)) → HV l mX12_findDoubts (dp + 1) 0 0 2 [some (.ref 82), some (.int (nI s)), none] [] hSH (upA I 90 g) J (hRR lt tx) Q := by
    intro m
    induction m with
    | zero => intro s g h1 h2 hg; omega
    | succ m ih =>
      intro s g h1 h2 hg
      refine h_iload_n dX12_findDoubts_2 rfl ?_
      refine h_bipush dX12_findDoubts_3 cb_6 ?_
      refine h_icmpge (tgt := 30) dX12_findDoubts_5 rfl (fun c_5 => ?_) (fun c_5 => ?_)
      · rw [nI_leI (by omega) (by omega)] at c_5
        refine h_iconst dX12_findDoubts_30 ci_0 ?_
        refine h_istore_n dX12_findDoubts_31 (Nat.le_of_ble_eq_true rfl) ?_
        have es : s = 6 := by omega
        subst es
        exact Lo 7 0 g (by omega) (by omega) (fun t ht => hg t ht) _
      · rw [nI_leI (by omega) (by omega)] at c_5
        refine h_aload_n dX12_findDoubts_8 rfl ?_
        refine h_getR dX12_findDoubts_9 f_X12_31_10 rfl rfl ?_
        refine h_iload_n dX12_findDoubts_12 rfl ?_
        refine h_iload_n dX12_findDoubts_13 rfl ?_
        refine h_ifne (tgt := 21) dX12_findDoubts_14 rfl (fun c_14 => ?_) (fun c_14 => ?_)
        · rw [show (0 : Int32) = nI 0 from rfl, nI_eq (by omega) (by omega)] at c_14
          refine h_ldc (v := nI 1000000) dX12_findDoubts_21 k5_208 ?_
          refine h_iastN (j := s) dX12_findDoubts_23 rfl rfl (by omega) rfl ?_
          refine h_iinc (v := nI (s + 1)) dX12_findDoubts_24 rfl (nI_1 _) (Nat.le_of_ble_eq_true rfl) ?_
          refine h_goto (tgt := 2) dX12_findDoubts_27 rfl ?_
          rw [upA_I]
          exact ih (s + 1) _ (by omega) (by omega) (fun t ht => by
            by_cases e : t = s
            · subst e; rw [upd_s]; first | (rw [c_14]; rfl) | (unfold bfi; rw [if_neg c_14])
            · rw [upd_n _ _ e]; exact hg t (by omega))
        · rw [show (0 : Int32) = nI 0 from rfl, nI_eq (by omega) (by omega)] at c_14
          refine h_iconst dX12_findDoubts_17 ci_0 ?_
          refine h_goto (tgt := 23) dX12_findDoubts_18 rfl ?_
          refine h_iastN (j := s) dX12_findDoubts_23 rfl rfl (by omega) rfl ?_
          refine h_iinc (v := nI (s + 1)) dX12_findDoubts_24 rfl (nI_1 _) (Nat.le_of_ble_eq_true rfl) ?_
          refine h_goto (tgt := 2) dX12_findDoubts_27 rfl ?_
          rw [upA_I]
          exact ih (s + 1) _ (by omega) (by omega) (fun t ht => by
            by_cases e : t = s
            · subst e; rw [upd_s]; first | (rw [c_14]; rfl) | (unfold bfi; rw [if_neg c_14])
            · rw [upd_n _ _ e]; exact hg t (by omega))
  have h0 := Lf 7 0 (I 90) (by omega) (by omega) (fun t ht => by omega)
  rw [upA_id] at h0
  show HV l mX12_findDoubts (dp + 1) 0 0 0 [some (.ref 82), none, none] [] hSH I J (hRR lt tx) Q
  refine h_iconst dX12_findDoubts_0 ci_0 ?_
  refine h_istore_n dX12_findDoubts_1 (Nat.le_of_ble_eq_true rfl) ?_
  exact h0
theorem r_comes0 {l : Launch} {dp : Nat} {ns nl : Nat} {pl fa fb sl : Nat → Nat} {rs : Nat → Int32} {I : hI} {J : hJ} {lt tx : Option Nat} {f : Nat → Nat} {k s : Nat} {Q : hQ} (hN : rN I ns nl pl fa fb sl rs) (hw : netW ns nl pl fa fb sl rs) (hk : k < nl) (hs : s < 6) (hf : ∀ s, s < 6 → I 90 s = nI (f s)) (hb : ∀ s, f s ≤ 1000000) (h1 : (fb k = s ∧ f (fa k) < 1000000 ∧ f (fa k) + sl k = f s) → Q (some (.int (nI 1))) hSH I J (hRR lt tx)) (h0 : ¬ (fb k = s ∧ f (fa k) < 1000000 ∧ f (fa k) + sl k = f s) → Q (some (.int (nI 0))) hSH I J (hRR lt tx)) : HC l mX12_comes (dp + 1) 0 0 [.ref 82, .int (nI k), .int (nI s), .int (nI 0)] hSH I J (hRR lt tx) Q := by
  refine HC.of (by decide +kernel) rfl (Nat.le_of_ble_eq_true rfl) ?_
  show HV l mX12_comes (dp + 1) 0 0 0 [some (.ref 82), some (.int (nI k)), some (.int (nI s)), some (.int (nI 0)), none] [] hSH I J (hRR lt tx) Q
  obtain ⟨hns, hnl, hpl, hlg⟩ := id hN
  obtain ⟨hn6, hl12, hW, hp99, hr99⟩ := id hw
  have hWk := hW k hk
  have hbs := hb s
  have hbx := hb (fa k)
  refine h_aload_n dX12_comes_0 rfl ?_
  refine h_getR dX12_comes_1 f_X12_13_10 rfl rfl ?_
  refine h_iconst dX12_comes_4 ci_4 ?_
  refine h_iload_n dX12_comes_5 rfl ?_
  refine h_imulN dX12_comes_6 ?_
  refine h_iload_n dX12_comes_7 rfl ?_
  refine h_iaddN dX12_comes_8 ?_
  refine h_ialdN (j := 4 * k) dX12_comes_9 rfl rfl (by omega) rfl (hlg k (by omega)).1 ?_
  refine h_istore dX12_comes_10 (Nat.le_of_ble_eq_true rfl) ?_
  refine h_aload_n dX12_comes_12 rfl ?_
  refine h_getR dX12_comes_13 f_X12_13_10 rfl rfl ?_
  refine h_iconst dX12_comes_16 ci_4 ?_
  refine h_iload_n dX12_comes_17 rfl ?_
  refine h_imulN dX12_comes_18 ?_
  refine h_iconst dX12_comes_19 ci_1 ?_
  refine h_iaddN dX12_comes_20 ?_
  refine h_iload_n dX12_comes_21 rfl ?_
  refine h_isubN dX12_comes_22 (by omega) ?_
  refine h_ialdN (j := 4 * k + 1) dX12_comes_23 rfl rfl (by omega) rfl (hlg k (by omega)).2.1 ?_
  refine h_iload_n dX12_comes_24 rfl ?_
  refine h_icmpne (tgt := 68) dX12_comes_25 rfl (fun c_25 => ?_) (fun c_25 => ?_)
  · rw [nI_eq (by omega) (by omega)] at c_25
    refine h_iconst dX12_comes_68 ci_0 ?_
    refine h_zreturn dX12_comes_69 rfl (by decide) ?_
    exact h0 (by rintro ⟨q1, q2, q3⟩; omega)
  · rw [nI_eq (by omega) (by omega)] at c_25
    refine h_aload_n dX12_comes_28 rfl ?_
    refine h_iload dX12_comes_29 rfl ?_
    refine h_cV1 dX12_comes_31 k5_213 oVX12_hasLevel rfl rfl ?_
    refine r_hasLevel (f := f) (by omega) hf hb (fun b1 => ?_) (fun b1 => ?_)
    · refine h_ifeq (tgt := 68) dX12_comes_34 rfl (fun c => absurd c (by decide)) (fun _ => ?_)
      refine h_aload_n dX12_comes_37 rfl ?_
      refine h_getR dX12_comes_38 f_X12_31_10 rfl rfl ?_
      refine h_iload dX12_comes_41 rfl ?_
      refine h_ialdN (j := fa k) dX12_comes_43 rfl rfl (by omega) rfl (hf _ (by omega)) ?_
      refine h_aload_n dX12_comes_44 rfl ?_
      refine h_getR dX12_comes_45 f_X12_13_10 rfl rfl ?_
      refine h_iconst dX12_comes_48 ci_4 ?_
      refine h_iload_n dX12_comes_49 rfl ?_
      refine h_imulN dX12_comes_50 ?_
      refine h_iconst dX12_comes_51 ci_3 ?_
      refine h_iaddN dX12_comes_52 ?_
      refine h_ialdN (j := (4 * k) + 3) dX12_comes_53 rfl rfl (by omega) rfl (hlg k (by omega)).2.2.2 ?_
      refine h_iaddN dX12_comes_54 ?_
      refine h_aload_n dX12_comes_55 rfl ?_
      refine h_getR dX12_comes_56 f_X12_31_10 rfl rfl ?_
      refine h_iload_n dX12_comes_59 rfl ?_
      refine h_ialdN (j := s) dX12_comes_60 rfl rfl (by omega) rfl (hf _ (by omega)) ?_
      refine h_icmpne (tgt := 68) dX12_comes_61 rfl (fun c_61 => ?_) (fun c_61 => ?_)
      · rw [nI_eq (by omega) (by omega)] at c_61
        refine h_iconst dX12_comes_68 ci_0 ?_
        refine h_zreturn dX12_comes_69 rfl (by decide) ?_
        exact h0 (by rintro ⟨q1, q2, q3⟩; omega)
      · rw [nI_eq (by omega) (by omega)] at c_61
        refine h_iconst dX12_comes_64 ci_1 ?_
        refine h_goto (tgt := 69) dX12_comes_65 rfl ?_
        refine h_zreturn dX12_comes_69 rfl (by decide) ?_
        exact h1 ⟨by omega, b1, by omega⟩
    · refine h_ifeq (tgt := 68) dX12_comes_34 rfl (fun _ => ?_) (fun c => absurd (by decide) c)
      refine h_iconst dX12_comes_68 ci_0 ?_
      refine h_zreturn dX12_comes_69 rfl (by decide) ?_
      exact h0 (by rintro ⟨q1, q2, q3⟩; omega)
theorem r_comes1 {l : Launch} {dp : Nat} {ns nl : Nat} {pl fa fb sl : Nat → Nat} {rs : Nat → Int32} {I : hI} {J : hJ} {lt tx : Option Nat} {f : Nat → Nat} {k s : Nat} {Q : hQ} (hN : rN I ns nl pl fa fb sl rs) (hw : netW ns nl pl fa fb sl rs) (hk : k < nl) (hs : s < 6) (hf : ∀ s, s < 6 → I 90 s = nI (f s)) (hb : ∀ s, f s ≤ 1000000) (h1 : (fa k = s ∧ f (fb k) < 1000000 ∧ f (fb k) + sl k = f s) → Q (some (.int (nI 1))) hSH I J (hRR lt tx)) (h0 : ¬ (fa k = s ∧ f (fb k) < 1000000 ∧ f (fb k) + sl k = f s) → Q (some (.int (nI 0))) hSH I J (hRR lt tx)) : HC l mX12_comes (dp + 1) 0 0 [.ref 82, .int (nI k), .int (nI s), .int (nI 1)] hSH I J (hRR lt tx) Q := by
  refine HC.of (by decide +kernel) rfl (Nat.le_of_ble_eq_true rfl) ?_
  show HV l mX12_comes (dp + 1) 0 0 0 [some (.ref 82), some (.int (nI k)), some (.int (nI s)), some (.int (nI 1)), none] [] hSH I J (hRR lt tx) Q
  obtain ⟨hns, hnl, hpl, hlg⟩ := id hN
  obtain ⟨hn6, hl12, hW, hp99, hr99⟩ := id hw
  have hWk := hW k hk
  have hbs := hb s
  have hbx := hb (fb k)
  refine h_aload_n dX12_comes_0 rfl ?_
  refine h_getR dX12_comes_1 f_X12_13_10 rfl rfl ?_
  refine h_iconst dX12_comes_4 ci_4 ?_
  refine h_iload_n dX12_comes_5 rfl ?_
  refine h_imulN dX12_comes_6 ?_
  refine h_iload_n dX12_comes_7 rfl ?_
  refine h_iaddN dX12_comes_8 ?_
  refine h_ialdN (j := (4 * k) + 1) dX12_comes_9 rfl rfl (by omega) rfl (hlg k (by omega)).2.1 ?_
  refine h_istore dX12_comes_10 (Nat.le_of_ble_eq_true rfl) ?_
  refine h_aload_n dX12_comes_12 rfl ?_
  refine h_getR dX12_comes_13 f_X12_13_10 rfl rfl ?_
  refine h_iconst dX12_comes_16 ci_4 ?_
  refine h_iload_n dX12_comes_17 rfl ?_
  refine h_imulN dX12_comes_18 ?_
  refine h_iconst dX12_comes_19 ci_1 ?_
  refine h_iaddN dX12_comes_20 ?_
  refine h_iload_n dX12_comes_21 rfl ?_
  refine h_isubN dX12_comes_22 (by omega) ?_
  refine h_ialdN (j := 4 * k) dX12_comes_23 rfl (by rw [Nat.add_sub_cancel]) (by omega) rfl (hlg k (by omega)).1 ?_
  refine h_iload_n dX12_comes_24 rfl ?_
  refine h_icmpne (tgt := 68) dX12_comes_25 rfl (fun c_25 => ?_) (fun c_25 => ?_)
  · rw [nI_eq (by omega) (by omega)] at c_25
    refine h_iconst dX12_comes_68 ci_0 ?_
    refine h_zreturn dX12_comes_69 rfl (by decide) ?_
    exact h0 (by rintro ⟨q1, q2, q3⟩; omega)
  · rw [nI_eq (by omega) (by omega)] at c_25
    refine h_aload_n dX12_comes_28 rfl ?_
    refine h_iload dX12_comes_29 rfl ?_
    refine h_cV1 dX12_comes_31 k5_213 oVX12_hasLevel rfl rfl ?_
    refine r_hasLevel (f := f) (by omega) hf hb (fun b1 => ?_) (fun b1 => ?_)
    · refine h_ifeq (tgt := 68) dX12_comes_34 rfl (fun c => absurd c (by decide)) (fun _ => ?_)
      refine h_aload_n dX12_comes_37 rfl ?_
      refine h_getR dX12_comes_38 f_X12_31_10 rfl rfl ?_
      refine h_iload dX12_comes_41 rfl ?_
      refine h_ialdN (j := fb k) dX12_comes_43 rfl rfl (by omega) rfl (hf _ (by omega)) ?_
      refine h_aload_n dX12_comes_44 rfl ?_
      refine h_getR dX12_comes_45 f_X12_13_10 rfl rfl ?_
      refine h_iconst dX12_comes_48 ci_4 ?_
      refine h_iload_n dX12_comes_49 rfl ?_
      refine h_imulN dX12_comes_50 ?_
      refine h_iconst dX12_comes_51 ci_3 ?_
      refine h_iaddN dX12_comes_52 ?_
      refine h_ialdN (j := (4 * k) + 3) dX12_comes_53 rfl rfl (by omega) rfl (hlg k (by omega)).2.2.2 ?_
      refine h_iaddN dX12_comes_54 ?_
      refine h_aload_n dX12_comes_55 rfl ?_
      refine h_getR dX12_comes_56 f_X12_31_10 rfl rfl ?_
      refine h_iload_n dX12_comes_59 rfl ?_
      refine h_ialdN (j := s) dX12_comes_60 rfl rfl (by omega) rfl (hf _ (by omega)) ?_
      refine h_icmpne (tgt := 68) dX12_comes_61 rfl (fun c_61 => ?_) (fun c_61 => ?_)
      · rw [nI_eq (by omega) (by omega)] at c_61
        refine h_iconst dX12_comes_68 ci_0 ?_
        refine h_zreturn dX12_comes_69 rfl (by decide) ?_
        exact h0 (by rintro ⟨q1, q2, q3⟩; omega)
      · rw [nI_eq (by omega) (by omega)] at c_61
        refine h_iconst dX12_comes_64 ci_1 ?_
        refine h_goto (tgt := 69) dX12_comes_65 rfl ?_
        refine h_zreturn dX12_comes_69 rfl (by decide) ?_
        exact h1 ⟨by omega, b1, by omega⟩
    · refine h_ifeq (tgt := 68) dX12_comes_34 rfl (fun _ => ?_) (fun c => absurd (by decide) c)
      refine h_iconst dX12_comes_68 ci_0 ?_
      refine h_zreturn dX12_comes_69 rfl (by decide) ?_
      exact h0 (by rintro ⟨q1, q2, q3⟩; omega)
