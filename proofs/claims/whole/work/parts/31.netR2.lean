def ptl (fa fb sl f : Nat → Nat) (nl s q : Nat) (r : Int32) : Prop := (r = -9 ∧ ∀ k, q ≤ k → k < nl → lsP fa fb sl f k s = false) ∨ (f s < 1000000 ∧ ∃ k, q ≤ k ∧ k < nl ∧ r = nI k ∧ lsP fa fb sl f k s = true ∧ ∀ j, q ≤ j → j < k → lsP fa fb sl f j s = false)
section PT
variable {fa fb sl f : Nat → Nat} {nl s q : Nat} {r : Int32}
theorem ptl_t (h : lsP fa fb sl f q s = true) (hf : f s < 1000000) (hq : q < nl) : ptl fa fb sl f nl s q (nI q) := Or.inr ⟨hf, q, Nat.le_refl _, hq, rfl, h, fun j h1 h2 => by omega⟩
theorem ptl_f (h : ¬ lsP fa fb sl f q s = true) (hp : ptl fa fb sl f nl s (q + 1) r) : ptl fa fb sl f nl s q r := by
  have h : lsP fa fb sl f q s = false := by simpa using h
  rcases hp with ⟨h1, h2⟩ | ⟨h1, k, k1, k2, k3, k4, k5⟩
  · refine Or.inl ⟨h1, fun k hk hk2 => ?_⟩
    by_cases e : k = q
    · rw [e]; exact h
    · exact h2 k (by omega) hk2
  · refine Or.inr ⟨h1, k, by omega, k2, k3, k4, fun j hj hj2 => ?_⟩
    by_cases e : j = q
    · rw [e]; exact h
    · exact k5 j (by omega) hj2
theorem ptl_0 (h0 : s ≠ 0) (hp : ptl fa fb sl f nl s 0 r) : r = lsI fa fb sl f nl s := by
  rcases hp with ⟨h1, h2⟩ | ⟨h1, k, k1, k2, k3, k4, k5⟩
  · rw [h1, lsI_no (fun j hj => h2 j (Nat.zero_le _) hj)]
  · rw [k3, lsI_is h0 h1 k2 k4 (fun j hj => k5 j (Nat.zero_le _) hj)]
theorem ptl_n (hf : ¬ f s < 1000000) (hp : ptl fa fb sl f nl s q r) : r = lsI fa fb sl f nl s := by
  rcases hp with ⟨h1, h2⟩ | ⟨h1, -⟩
  · rw [h1, lsI_0 (Or.inr hf)]
  · exact absurd h1 hf
end PT
theorem lst_ex {ns nl : Nat} {fa fb sl : Nat → Nat} (hW : legW ns nl fa fb sl) (hn : ns ≤ 6) {s : Nat} (h0 : s ≠ 0) (hf : dist fa fb sl nl s < 1000000) : ∃ k, lst fa fb sl (dist fa fb sl nl) nl s = some k := by
  obtain ⟨k, hk, hq⟩ := dist_sup hW hn h0 hf
  unfold lst
  rw [if_neg (by omega)]
  cases e : lstN fa fb sl (dist fa fb sl nl) s nl with
  | some j => exact ⟨j, rfl⟩
  | none =>
    have := lstN_none e k hk
    rw [lsP_iff.mpr (by rcases hq with ⟨q1, q2⟩ | ⟨q1, q2⟩; exact Or.inl ⟨q1, by omega, q2⟩; exact Or.inr ⟨q1, by omega, q2⟩)] at this
    cases this
/-- what findLevels leaves -/
def rL (I : hI) (ns nl : Nat) (fa fb sl : Nat → Nat) (rs : Nat → Int32) : Prop := (∀ s, s < 6 → I 90 s = nI (dist fa fb sl nl s)) ∧ (∀ s, s < ns → dist fa fb sl nl s < 1000000 → I 92 s = lvl fa fb sl rs nl s) ∧ ∀ s, s < ns → I 91 s = lsI fa fb sl (dist fa fb sl nl) nl s
theorem r_findLevels {l : Launch} {dp : Nat} {ns nl : Nat} {pl fa fb sl : Nat → Nat} {rs : Nat → Int32} {I : hI} {J : hJ} {lt tx : Option Nat} {Q : hQ} (hN : rN I ns nl pl fa fb sl rs) (hw : netW ns nl pl fa fb sl rs) (hQ : ∀ g1 g2 g3, rL (upA (upA (upA I 90 g1) 92 g3) 91 g2) ns nl fa fb sl rs → Q none hSH (upA (upA (upA I 90 g1) 92 g3) 91 g2) J (hRR lt tx)) : HC l mX12_findLevels (dp + 2) 0 0 [.ref 82] hSH I J (hRR lt tx) Q := by
  refine HC.of (by decide +kernel) rfl (Nat.le_of_ble_eq_true rfl) ?_
  obtain ⟨hns, hnl, hpl, hlg⟩ := id hN
  obtain ⟨hn6, hl12, hW, hp99, hr99⟩ := id hw
  have hb := bf_le (fa := fa) (fb := fb) (sl := sl) (nl := nl) 6
  have hb : ∀ s, dist fa fb sl nl s ≤ 1000000 := hb
  have LB : ∀ (m dd : Nat) (g1 g2 g3 : Nat → Int32), 46 - dd < m → 1 ≤ dd → dd ≤ 46 → (∀ s, s < 6 → g1 s = nI (dist fa fb sl nl s)) → (∀ s, s < ns → g2 s = lsI fa fb sl (dist fa fb sl nl) nl s) → (∀ s, s < ns → dist fa fb sl nl s < dd → g3 s = lvl fa fb sl rs nl s) → ∀ z2 z3, HV l mX12_findLevels (dp + 2) 0 0 106 [some (.ref 82), some (.int (nI dd)), z2, z3] [] hSH (upA (upA (upA I 90 g1) 92 g3) 91 g2) J (hRR lt tx) Q := by
    intro m
    induction m with
    | zero => intro dd g1 g2 g3 h1 h2 h3 e1 e2 e3 z2 z3; omega
    | succ m ihr =>
      intro dd g1 g2 g3 h1 h2 h3 e1 e2 e3 z2 z3
      have Li : ∀ (m2 s : Nat) (g3 : Nat → Int32), ns - s < m2 → 1 ≤ s → s ≤ 7 → (∀ t, t < ns → dist fa fb sl nl t < dd → g3 t = lvl fa fb sl rs nl t) → (∀ t, t < s → t < ns → dist fa fb sl nl t = dd → g3 t = lvl fa fb sl rs nl t) → dd ≤ 45 → ∀ z3, HV l mX12_findLevels (dp + 2) 0 0 114 [some (.ref 82), some (.int (nI dd)), some (.int (nI s)), z3] [] hSH (upA (upA (upA I 90 g1) 92 g3) 91 g2) J (hRR lt tx) Q := by
        intro m2
        induction m2 with
        | zero => intro s g3 h4 h5 h7 e3 e4 h6 z3; omega
        | succ m2 ih =>
          intro s g3 h4 h5 h7 e3 e4 h6 z3
          refine h_iload_n dX12_findLevels_114 rfl ?_
          refine h_aload_n dX12_findLevels_115 rfl ?_
          refine h_getI dX12_findLevels_116 f_X12_102_10 rfl hns ?_
          refine h_icmpge (tgt := 210) dX12_findLevels_119 rfl (fun c_119 => ?_) (fun c_119 => ?_)
          · rw [nI_leI (by omega) (by omega)] at c_119
            refine h_iinc (v := nI (dd + 1)) dX12_findLevels_210 rfl (nI_1 _) (Nat.le_of_ble_eq_true rfl) ?_
            refine h_goto (tgt := 106) dX12_findLevels_213 rfl ?_
            refine ihr (dd + 1) g1 g2 g3 (by omega) (by omega) (by omega) e1 e2 (fun t ht he => ?_) _ _
            by_cases e : dist fa fb sl nl t < dd
            · exact e3 t ht e
            · exact e4 t (by omega) ht (by omega)
          · rw [nI_leI (by omega) (by omega)] at c_119
            have hbs := hb s
            refine h_aload_n dX12_findLevels_122 rfl ?_
            refine h_getR dX12_findLevels_123 f_X12_31_10 rfl rfl ?_
            refine h_iload_n dX12_findLevels_126 rfl ?_
            refine h_ialdN (j := s) dX12_findLevels_127 rfl rfl (by omega) rfl (e1 _ (by omega)) ?_
            refine h_iload_n dX12_findLevels_128 rfl ?_
            refine h_icmpne (tgt := 204) dX12_findLevels_129 rfl (fun c_129 => ?_) (fun c_129 => ?_)
            · rw [nI_eq (by omega) (by omega)] at c_129
              refine h_iinc (v := nI (s + 1)) dX12_findLevels_204 rfl (nI_1 _) (Nat.le_of_ble_eq_true rfl) ?_
              refine h_goto (tgt := 114) dX12_findLevels_207 rfl ?_
              exact ih (s + 1) g3 (by omega) (by omega) (by omega) e3 (fun t ht ht2 he => e4 t (by by_cases e : t = s; subst e; exact absurd he c_129; omega) ht2 he) h6 _
            · rw [nI_eq (by omega) (by omega)] at c_129
              obtain ⟨k, hk⟩ := lst_ex hW hn6 (s := s) (by omega) (by omega)
              obtain ⟨-, -, hkl, hkp⟩ := lst_some hk
              obtain ⟨o1, o2, o3, o4, o5⟩ := oth_of hW hkl hkp
              have hWk := hW k hkl
              have hlv := lvl_some (rs := rs) hW hn6 (s := s) (by omega) hk
              refine h_iconst dX12_findLevels_132 ci_4 ?_
              refine h_aload_n dX12_findLevels_133 rfl ?_
              refine h_getR dX12_findLevels_134 f_X12_34_10 rfl rfl ?_
              refine h_iload_n dX12_findLevels_137 rfl ?_
              refine h_ialdN (j := s) dX12_findLevels_138 rfl rfl (by omega) rfl ((e2 s (by omega)).trans (lsI_some hk)) ?_
              refine h_imulN dX12_findLevels_139 ?_
              refine h_istore_n dX12_findLevels_140 (Nat.le_of_ble_eq_true rfl) ?_
              refine h_aload_n dX12_findLevels_141 rfl ?_
              refine h_getR dX12_findLevels_142 f_X12_37_10 rfl rfl ?_
              refine h_iload_n dX12_findLevels_145 rfl ?_
              refine h_aload_n dX12_findLevels_146 rfl ?_
              refine h_getR dX12_findLevels_147 f_X12_13_10 rfl rfl ?_
              refine h_iload_n dX12_findLevels_150 rfl ?_
              refine h_iconst dX12_findLevels_151 ci_1 ?_
              refine h_iaddN dX12_findLevels_152 ?_
              refine h_ialdN (j := (4 * k) + 1) dX12_findLevels_153 rfl rfl (by omega) rfl (hlg k (by omega)).2.1 ?_
              refine h_iload_n dX12_findLevels_154 rfl ?_
              refine h_icmpne (tgt := 181) dX12_findLevels_155 rfl (fun c_155 => ?_) (fun c_155 => ?_)
              · rw [nI_eq (by omega) (by omega)] at c_155
                obtain ⟨p1, p2⟩ := o5 c_155
                rw [p2] at o3
                rw [if_neg c_155] at hlv
                refine h_aload_n dX12_findLevels_181 rfl ?_
                refine h_getR dX12_findLevels_182 f_X12_37_10 rfl rfl ?_
                refine h_aload_n dX12_findLevels_185 rfl ?_
                refine h_getR dX12_findLevels_186 f_X12_13_10 rfl rfl ?_
                refine h_iload_n dX12_findLevels_189 rfl ?_
                refine h_iconst dX12_findLevels_190 ci_1 ?_
                refine h_iaddN dX12_findLevels_191 ?_
                refine h_ialdN (j := (4 * k) + 1) dX12_findLevels_192 rfl rfl (by omega) rfl (hlg k (by omega)).2.1 ?_
                refine h_ialdN (j := fb k) dX12_findLevels_193 rfl rfl (by omega) rfl (e3 _ (by omega) (by omega)) ?_
                refine h_aload_n dX12_findLevels_194 rfl ?_
                refine h_getR dX12_findLevels_195 f_X12_13_10 rfl rfl ?_
                refine h_iload_n dX12_findLevels_198 rfl ?_
                refine h_iconst dX12_findLevels_199 ci_2 ?_
                refine h_iaddN dX12_findLevels_200 ?_
                refine h_ialdN (j := (4 * k) + 2) dX12_findLevels_201 rfl rfl (by omega) rfl (hlg k (by omega)).2.2.1 ?_
                refine h_isub dX12_findLevels_202 ?_
                refine h_iastN (j := s) dX12_findLevels_203 rfl rfl (by omega) rfl ?_
                refine h_iinc (v := nI (s + 1)) dX12_findLevels_204 rfl (nI_1 _) (Nat.le_of_ble_eq_true rfl) ?_
                refine h_goto (tgt := 114) dX12_findLevels_207 rfl ?_
                rw [upI_in _ (by decide), ← hlv]
                refine ih (s + 1) _ (by omega) (by omega) (by omega) (fun t ht he => ?_) (fun t ht ht2 he => ?_) h6 _
                · rw [upd_n _ _ (by intro e; subst e; omega)]; exact e3 t ht he
                · by_cases e : t = s
                  · subst e; rw [upd_s]
                  · rw [upd_n _ _ e]; exact e4 t (by omega) ht2 he
              · rw [nI_eq (by omega) (by omega)] at c_155
                have p2 := o4 c_155
                rw [p2] at o3
                rw [if_pos c_155] at hlv
                refine h_aload_n dX12_findLevels_158 rfl ?_
                refine h_getR dX12_findLevels_159 f_X12_37_10 rfl rfl ?_
                refine h_aload_n dX12_findLevels_162 rfl ?_
                refine h_getR dX12_findLevels_163 f_X12_13_10 rfl rfl ?_
                refine h_iload_n dX12_findLevels_166 rfl ?_
                refine h_ialdN (j := 4 * k) dX12_findLevels_167 rfl rfl (by omega) rfl (hlg k (by omega)).1 ?_
                refine h_ialdN (j := fa k) dX12_findLevels_168 rfl rfl (by omega) rfl (e3 _ (by omega) (by omega)) ?_
                refine h_aload_n dX12_findLevels_169 rfl ?_
                refine h_getR dX12_findLevels_170 f_X12_13_10 rfl rfl ?_
                refine h_iload_n dX12_findLevels_173 rfl ?_
                refine h_iconst dX12_findLevels_174 ci_2 ?_
                refine h_iaddN dX12_findLevels_175 ?_
                refine h_ialdN (j := (4 * k) + 2) dX12_findLevels_176 rfl rfl (by omega) rfl (hlg k (by omega)).2.2.1 ?_
                refine h_iadd dX12_findLevels_177 ?_
                refine h_goto (tgt := 203) dX12_findLevels_178 rfl ?_
                refine h_iastN (j := s) dX12_findLevels_203 rfl rfl (by omega) rfl ?_
                refine h_iinc (v := nI (s + 1)) dX12_findLevels_204 rfl (nI_1 _) (Nat.le_of_ble_eq_true rfl) ?_
                refine h_goto (tgt := 114) dX12_findLevels_207 rfl ?_
                rw [upI_in _ (by decide), ← hlv]
                refine ih (s + 1) _ (by omega) (by omega) (by omega) (fun t ht he => ?_) (fun t ht ht2 he => ?_) h6 _
                · rw [upd_n _ _ (by intro e; subst e; omega)]; exact e3 t ht he
                · by_cases e : t = s
                  · subst e; rw [upd_s]
                  · rw [upd_n _ _ e]; exact e4 t (by omega) ht2 he
      refine h_iload_n dX12_findLevels_106 rfl ?_
      refine h_bipush dX12_findLevels_107 cb_45 ?_
      refine h_icmpgt (tgt := 216) dX12_findLevels_109 rfl (fun c_109 => ?_) (fun c_109 => ?_)
      · rw [nI_ltI (by omega) (by omega)] at c_109
        refine h_return dX12_findLevels_216 rfl ?_
        exact hQ g1 g2 g3 ⟨e1, fun s hs hf => e3 s hs (by have := dist_45 hW hn6 hs hf; omega), e2⟩
      · rw [nI_ltI (by omega) (by omega)] at c_109
        refine h_iconst dX12_findLevels_112 ci_1 ?_
        refine h_istore_n dX12_findLevels_113 (Nat.le_of_ble_eq_true rfl) ?_
        exact Li (ns + 1) 1 g3 (by omega) (by omega) (by omega) e3 (fun t ht ht2 he => by
          have : t = 0 := by omega
          subst this
          rw [dist_0 hW] at he
          omega) (by omega) _
  have LA : ∀ (m s : Nat) (g1 g2 g3 : Nat → Int32), ns - s < m → 1 ≤ s → s ≤ 7 → (∀ s, s < 6 → g1 s = nI (dist fa fb sl nl s)) → g3 0 = nI 0 → (∀ t, t < s → t < ns → g2 t = lsI fa fb sl (dist fa fb sl nl) nl t) → ∀ z2 z3, HV l mX12_findLevels (dp + 2) 0 0 21 [some (.ref 82), some (.int (nI s)), z2, z3] [] hSH (upA (upA (upA I 90 g1) 92 g3) 91 g2) J (hRR lt tx) Q := by
    intro m
    induction m with
    | zero => intro s g1 g2 g3 h1 h2 h7 e1 e3 e2 z2 z3; omega
    | succ m ihr =>
      intro s g1 g2 g3 h1 h2 h7 e1 e3 e2 z2 z3
      have Li : ∀ (q : Nat) (g2 : Nat → Int32), q ≤ nl → s < ns → (∀ t, t < s → t < ns → g2 t = lsI fa fb sl (dist fa fb sl nl) nl t) → ptl fa fb sl (dist fa fb sl nl) nl s q (g2 s) → ∀ z3, HV l mX12_findLevels (dp + 2) 0 0 44 [some (.ref 82), some (.int (nI s)), some (.int (kd q)), z3] [] hSH (upA (upA (upA I 90 g1) 92 g3) 91 g2) J (hRR lt tx) Q := by
        intro q
        induction q with
        | zero =>
          intro g2 h3 h4 e2 hp z3
          refine h_iload_n dX12_findLevels_44 rfl ?_
          refine h_iflt (tgt := 98) dX12_findLevels_45 rfl (fun _ => ?_) (fun c => absurd (by decide) c)
          refine h_iinc (v := nI (s + 1)) dX12_findLevels_98 rfl (nI_1 _) (Nat.le_of_ble_eq_true rfl) ?_
          refine h_goto (tgt := 21) dX12_findLevels_101 rfl ?_
          exact ihr (s + 1) g1 g2 g3 (by omega) (by omega) (by omega) e1 e3 (fun t ht ht2 => by
            by_cases e : t = s
            · subst e; exact ptl_0 (by omega) hp
            · exact e2 t (by omega) ht2) _ _
        | succ p ih =>
          intro g2 h3 h4 e2 hp z3
          have hWp := hW p (by omega)
          show HV l mX12_findLevels (dp + 2) 0 0 44 [some (.ref 82), some (.int (nI s)), some (.int (nI p)), z3] [] hSH (upA (upA (upA I 90 g1) 92 g3) 91 g2) J (hRR lt tx) Q
          refine h_iload_n dX12_findLevels_44 rfl ?_
          refine h_iflt (tgt := 98) dX12_findLevels_45 rfl (fun c_45 => ?_) (fun c_45 => ?_)
          · rw [show (0 : Int32) = nI 0 from rfl, nI_ltI (by omega) (by omega)] at c_45
            omega
          · rw [show (0 : Int32) = nI 0 from rfl, nI_ltI (by omega) (by omega)] at c_45
            refine h_aload_n dX12_findLevels_48 rfl ?_
            refine h_iload_n dX12_findLevels_49 rfl ?_
            refine h_cV1 dX12_findLevels_50 k5_213 oVX12_hasLevel rfl rfl ?_
            refine r_hasLevel (f := dist fa fb sl nl) (by omega) e1 hb (fun b1 => ?_) (fun b1 => ?_)
            · refine h_ifeq (tgt := 98) dX12_findLevels_53 rfl (fun c => absurd c (by decide)) (fun _ => ?_)
              refine h_aload_n dX12_findLevels_56 rfl ?_
              refine h_getR dX12_findLevels_57 f_X12_34_10 rfl rfl ?_
              refine h_iload_n dX12_findLevels_60 rfl ?_
              refine h_aload_n dX12_findLevels_61 rfl ?_
              refine h_iload_n dX12_findLevels_62 rfl ?_
              refine h_iload_n dX12_findLevels_63 rfl ?_
              refine h_iconst dX12_findLevels_64 ci_0 ?_
              refine h_cV3 dX12_findLevels_65 k5_217 oVX12_comes rfl rfl ?_
              refine r_comes0 (f := dist fa fb sl nl) hN hw (by omega) (by omega) e1 hb (fun b2 => ?_) (fun b2 => ?_)
              · refine h_ifne (tgt := 81) dX12_findLevels_68 rfl (fun _ => ?_) (fun c => absurd c (by decide))
                refine h_iload_n dX12_findLevels_81 rfl ?_
                refine h_goto (tgt := 91) dX12_findLevels_82 rfl ?_
                refine h_iastN (j := s) dX12_findLevels_91 rfl rfl (by omega) rfl ?_
                refine h_iinc (v := kd p) dX12_findLevels_92 rfl (kd_dec p) (Nat.le_of_ble_eq_true rfl) ?_
                refine h_goto (tgt := 44) dX12_findLevels_95 rfl ?_
                rw [upA_I]
                refine ih _ (by omega) h4 (fun t ht ht2 => by rw [upd_n _ _ (by omega)]; exact e2 t ht ht2) ?_ _
                rw [upd_s]
                exact ptl_t (lsP_iff.mpr (Or.inl b2)) b1 (by omega)
              · refine h_ifne (tgt := 81) dX12_findLevels_68 rfl (fun c => absurd (by decide) c) (fun _ => ?_)
                refine h_aload_n dX12_findLevels_71 rfl ?_
                refine h_iload_n dX12_findLevels_72 rfl ?_
                refine h_iload_n dX12_findLevels_73 rfl ?_
                refine h_iconst dX12_findLevels_74 ci_1 ?_
                refine h_cV3 dX12_findLevels_75 k5_217 oVX12_comes rfl rfl ?_
                refine r_comes1 (f := dist fa fb sl nl) hN hw (by omega) (by omega) e1 hb (fun b3 => ?_) (fun b3 => ?_)
                · refine h_ifeq (tgt := 85) dX12_findLevels_78 rfl (fun c => absurd c (by decide)) (fun _ => ?_)
                  refine h_iload_n dX12_findLevels_81 rfl ?_
                  refine h_goto (tgt := 91) dX12_findLevels_82 rfl ?_
                  refine h_iastN (j := s) dX12_findLevels_91 rfl rfl (by omega) rfl ?_
                  refine h_iinc (v := kd p) dX12_findLevels_92 rfl (kd_dec p) (Nat.le_of_ble_eq_true rfl) ?_
                  refine h_goto (tgt := 44) dX12_findLevels_95 rfl ?_
                  rw [upA_I]
                  refine ih _ (by omega) h4 (fun t ht ht2 => by rw [upd_n _ _ (by omega)]; exact e2 t ht ht2) ?_ _
                  rw [upd_s]
                  exact ptl_t (lsP_iff.mpr (Or.inr b3)) b1 (by omega)
                · refine h_ifeq (tgt := 85) dX12_findLevels_78 rfl (fun _ => ?_) (fun c => absurd (by decide) c)
                  refine h_aload_n dX12_findLevels_85 rfl ?_
                  refine h_getR dX12_findLevels_86 f_X12_34_10 rfl rfl ?_
                  refine h_iload_n dX12_findLevels_89 rfl ?_
                  refine h_ialdN (j := s) dX12_findLevels_90 rfl rfl (by omega) rfl rfl ?_
                  refine h_iastN (j := s) dX12_findLevels_91 rfl rfl (by omega) rfl ?_
                  refine h_iinc (v := kd p) dX12_findLevels_92 rfl (kd_dec p) (Nat.le_of_ble_eq_true rfl) ?_
                  refine h_goto (tgt := 44) dX12_findLevels_95 rfl ?_
                  rw [upA_I]
                  refine ih _ (by omega) h4 (fun t ht ht2 => by rw [upd_n _ _ (by omega)]; exact e2 t ht ht2) ?_ _
                  rw [upd_s]
                  exact ptl_f (fun z => (lsP_iff.mp z).elim b2 b3) hp
            · refine h_ifeq (tgt := 98) dX12_findLevels_53 rfl (fun _ => ?_) (fun c => absurd (by decide) c)
              refine h_iinc (v := nI (s + 1)) dX12_findLevels_98 rfl (nI_1 _) (Nat.le_of_ble_eq_true rfl) ?_
              refine h_goto (tgt := 21) dX12_findLevels_101 rfl ?_
              exact ihr (s + 1) g1 g2 g3 (by omega) (by omega) (by omega) e1 e3 (fun t ht ht2 => by
                by_cases e : t = s
                · subst e; exact ptl_n b1 hp
                · exact e2 t (by omega) ht2) _ _
      refine h_iload_n dX12_findLevels_21 rfl ?_
      refine h_aload_n dX12_findLevels_22 rfl ?_
      refine h_getI dX12_findLevels_23 f_X12_102_10 rfl hns ?_
      refine h_icmpge (tgt := 104) dX12_findLevels_26 rfl (fun c_26 => ?_) (fun c_26 => ?_)
      · rw [nI_leI (by omega) (by omega)] at c_26
        refine h_iconst dX12_findLevels_104 ci_1 ?_
        refine h_istore_n dX12_findLevels_105 (Nat.le_of_ble_eq_true rfl) ?_
        refine LB 46 1 g1 g2 g3 (by omega) (by omega) (by omega) e1 (fun t ht => e2 t (by omega) ht) (fun t ht he => ?_) _ _
        have h0 : t = 0 := by
          by_cases e : t = 0
          · exact e
          · exfalso
            obtain ⟨k, hk, hq⟩ := dist_sup hW hn6 e (by omega)
            have hWk := hW k hk
            omega
        subst h0
        rw [e3, lvl_none (by unfold lst; rw [if_pos (Or.inl rfl)])]
        rfl
      · rw [nI_leI (by omega) (by omega)] at c_26
        refine h_aload_n dX12_findLevels_29 rfl ?_
        refine h_getR dX12_findLevels_30 f_X12_34_10 rfl rfl ?_
        refine h_iload_n dX12_findLevels_33 rfl ?_
        refine h_bipush dX12_findLevels_34 cb_m9 ?_
        refine h_iastN (j := s) dX12_findLevels_36 rfl rfl (by omega) rfl ?_
        refine h_aload_n dX12_findLevels_37 rfl ?_
        refine h_getI dX12_findLevels_38 f_X12_120_10 rfl hnl ?_
        refine h_iconst dX12_findLevels_41 ci_1 ?_
        refine h_isub dX12_findLevels_42 ?_
        rw [kd_sub]
        refine h_istore_n dX12_findLevels_43 (Nat.le_of_ble_eq_true rfl) ?_
        rw [upA_I]
        exact Li nl _ (Nat.le_refl _) (by omega) (fun t ht ht2 => by rw [upd_n _ _ (by omega)]; exact e2 t ht ht2) (by rw [upd_s]; exact Or.inl ⟨rfl, fun k h1 h2 => by omega⟩) _
  show HV l mX12_findLevels (dp + 2) 0 0 0 [some (.ref 82), none, none, none] [] hSH I J (hRR lt tx) Q
  refine h_aload_n dX12_findLevels_0 rfl ?_
  refine h_cV0 dX12_findLevels_1 k5_204 oVX12_findDoubts rfl rfl ?_
  refine r_findDoubts hN hw (fun g1 e1 => ?_)
  refine h_aload_n dX12_findLevels_4 rfl ?_
  refine h_getR dX12_findLevels_5 f_X12_37_10 rfl rfl ?_
  refine h_iconst dX12_findLevels_8 ci_0 ?_
  refine h_iconst dX12_findLevels_9 ci_0 ?_
  refine h_iastN (j := 0) dX12_findLevels_10 rfl rfl (by omega) rfl ?_
  refine h_aload_n dX12_findLevels_11 rfl ?_
  refine h_getR dX12_findLevels_12 f_X12_34_10 rfl rfl ?_
  refine h_iconst dX12_findLevels_15 ci_0 ?_
  refine h_bipush dX12_findLevels_16 cb_m9 ?_
  refine h_iastN (j := 0) dX12_findLevels_18 rfl rfl (by omega) rfl ?_
  refine h_iconst dX12_findLevels_19 ci_1 ?_
  refine h_istore_n dX12_findLevels_20 (Nat.le_of_ble_eq_true rfl) ?_
  rw [show upI (upI (upA I 90 g1) 92 0 (nI 0)) 91 0 (-9) = upA (upA (upA I 90 g1) 92 (upd (I 92) 0 (nI 0))) 91 (upd (I 91) 0 (-9)) from rfl]
  refine LA (ns + 1) 1 g1 _ _ (by omega) (by omega) (by omega) e1 (upd_s _ _ _) (fun t ht ht2 => ?_) _ _
  have : t = 0 := by omega
  subst this
  rw [upd_s, lsI_0 (Or.inl rfl)]
theorem r_allDoubts {l : Launch} {dp : Nat} {ns nl : Nat} {pl fa fb sl : Nat → Nat} {rs : Nat → Int32} {I : hI} {J : hJ} {lt tx : Option Nat} {Q : hQ} (hN : rN I ns nl pl fa fb sl rs) (hw : netW ns nl pl fa fb sl rs) (hQ : ∀ g, Q (some (.int (nI (dsm (dist fa fb sl nl) ns)))) hSH (upA I 90 g) J (hRR lt tx)) : HC l mX12_allDoubts (dp + 2) 0 0 [.ref 82] hSH I J (hRR lt tx) Q := by
  refine HC.of (by decide +kernel) rfl (Nat.le_of_ble_eq_true rfl) ?_
  obtain ⟨hns, hnl, hpl, hlg⟩ := id hN
  obtain ⟨hn6, hl12, hW, hp99, hr99⟩ := id hw
  have hb : ∀ s, dist fa fb sl nl s ≤ 1000000 := bf_le (fa := fa) (fb := fb) (sl := sl) (nl := nl) 6
  have Lo : ∀ (m s v : Nat) (g : Nat → Int32), ns - s < m → s ≤ ns → (∀ t, t < 6 → g t = nI (dist fa fb sl nl t)) → v = dsm (dist fa fb sl nl) s → HV l mX12_allDoubts (dp + 2) 0 0 8 [some (.ref 82), some (.int (nI v)), some (.int (nI s))] [] hSH (upA I 90 g) J (hRR lt tx) Q := by
    intro m
    induction m with
    | zero => intro s v g h1 h2 e1 hv; omega
    | succ m ih =>
      intro s v g h1 h2 e1 hv
      refine h_iload_n dX12_allDoubts_8 rfl ?_
      refine h_aload_n dX12_allDoubts_9 rfl ?_
      refine h_getI dX12_allDoubts_10 f_X12_102_10 rfl hns ?_
      refine h_icmpge (tgt := 43) dX12_allDoubts_13 rfl (fun c_13 => ?_) (fun c_13 => ?_)
      · rw [nI_leI (by omega) (by omega)] at c_13
        refine h_iload_n dX12_allDoubts_43 rfl ?_
        refine h_ireturn dX12_allDoubts_44 rfl ?_
        have es : s = ns := by omega
        subst es
        rw [hv]
        exact hQ g
      · rw [nI_leI (by omega) (by omega)] at c_13
        refine h_iload_n dX12_allDoubts_16 rfl ?_
        refine h_aload_n dX12_allDoubts_17 rfl ?_
        refine h_iload_n dX12_allDoubts_18 rfl ?_
        refine h_cV1 dX12_allDoubts_19 k5_213 oVX12_hasLevel rfl rfl ?_
        refine r_hasLevel (f := dist fa fb sl nl) (by omega) e1 hb (fun b1 => ?_) (fun b1 => ?_)
        · refine h_ifeq (tgt := 34) dX12_allDoubts_22 rfl (fun c => absurd c (by decide)) (fun _ => ?_)
          refine h_aload_n dX12_allDoubts_25 rfl ?_
          refine h_getR dX12_allDoubts_26 f_X12_31_10 rfl rfl ?_
          refine h_iload_n dX12_allDoubts_29 rfl ?_
          refine h_ialdN (j := s) dX12_allDoubts_30 rfl rfl (by omega) rfl (e1 _ (by omega)) ?_
          refine h_goto (tgt := 35) dX12_allDoubts_31 rfl ?_
          refine h_iaddN dX12_allDoubts_35 ?_
          refine h_istore_n dX12_allDoubts_36 (Nat.le_of_ble_eq_true rfl) ?_
          refine h_iinc (v := nI (s + 1)) dX12_allDoubts_37 rfl (nI_1 _) (Nat.le_of_ble_eq_true rfl) ?_
          refine h_goto (tgt := 8) dX12_allDoubts_40 rfl ?_
          exact ih (s + 1) _ g (by omega) (by omega) e1 (by
            show _ = dsm _ s + (if _ then _ else 0)
            first
              | (rw [if_pos b1, hv]; done)
              | (rw [if_neg b1, hv]; done))
        · refine h_ifeq (tgt := 34) dX12_allDoubts_22 rfl (fun _ => ?_) (fun c => absurd (by decide) c)
          refine h_iconst dX12_allDoubts_34 ci_0 ?_
          refine h_iaddN dX12_allDoubts_35 ?_
          refine h_istore_n dX12_allDoubts_36 (Nat.le_of_ble_eq_true rfl) ?_
          refine h_iinc (v := nI (s + 1)) dX12_allDoubts_37 rfl (nI_1 _) (Nat.le_of_ble_eq_true rfl) ?_
          refine h_goto (tgt := 8) dX12_allDoubts_40 rfl ?_
          exact ih (s + 1) _ g (by omega) (by omega) e1 (by
            show _ = dsm _ s + (if _ then _ else 0)
            first
              | (rw [if_pos b1, hv]; done)
              | (rw [if_neg b1, hv]; done))
  show HV l mX12_allDoubts (dp + 2) 0 0 0 [some (.ref 82), none, none] [] hSH I J (hRR lt tx) Q
  refine h_aload_n dX12_allDoubts_0 rfl ?_
  refine h_cV0 dX12_allDoubts_1 k5_204 oVX12_findDoubts rfl rfl ?_
  refine r_findDoubts hN hw (fun g e1 => ?_)
  refine h_iconst dX12_allDoubts_4 ci_0 ?_
  refine h_istore_n dX12_allDoubts_5 (Nat.le_of_ble_eq_true rfl) ?_
  refine h_iconst dX12_allDoubts_6 ci_0 ?_
  refine h_istore_n dX12_allDoubts_7 (Nat.le_of_ble_eq_true rfl) ?_
  exact Lo (ns + 1) 0 0 g (by omega) (by omega) e1 rfl
