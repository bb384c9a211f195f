def jn (c : Nat) (a b : Int32) : Int32 := if c = 8 then a &&& b else if c = 9 then a ||| b else if c = 15 then (if a < b then nI 1 else nI 0) else if c = 16 then (if a = b then nI 1 else nI 0) else (if b < a then nI 1 else nI 0)
def fct (ki aw wh j : Nat) : Int32 := if j = 0 then nI (wh % 100) else if j = 1 then nI (wh / 100) else if j = 2 then nI aw else nI ki
def isBin (c : Nat) : Prop := c = 8 ∨ c = 9 ∨ c = 15 ∨ c = 16 ∨ c = 17
def rst (ki aw wh : Nat) (c : Nat) (s : List Int32) : Option (List Int32) := if c = 7 then (match s with | a :: r => some ((nI 1 - a) :: r) | [] => none) else if c = 8 ∨ c = 9 ∨ c = 15 ∨ c = 16 ∨ c = 17 then (match s with | b :: a :: r => some (jn c a b :: r) | _ => none) else if 3000 ≤ c then some (nI (c - 3000) :: s) else if 100 ≤ c ∧ c ≤ 103 then some (fct ki aw wh (c - 100) :: s) else none
def rev (cw : Nat → Nat) (ki aw wh : Nat) : Nat → Nat → List Int32 → Option (List Int32)
  | 0, _, s => some s
  | n + 1, i, s => match rst ki aw wh (cw i) s with
    | some s' => rev cw ki aw wh n (i + 1) s'
    | none => none
section RV
variable {cw : Nat → Nat} {ki aw wh n i : Nat} {s z : List Int32}
theorem rev_not (h : rev cw ki aw wh (n + 1) i s = some z) (hc : cw i = 7) : ∃ a r, s = a :: r ∧ rev cw ki aw wh n (i + 1) ((nI 1 - a) :: r) = some z := by
  unfold rev at h
  unfold rst at h
  rw [if_pos hc] at h
  match s, h with
  | [], h => simp at h
  | a :: r, h => exact ⟨a, r, rfl, h⟩
theorem rev_bin (h : rev cw ki aw wh (n + 1) i s = some z) (hc : isBin (cw i)) : ∃ a b r, s = b :: a :: r ∧ rev cw ki aw wh n (i + 1) (jn (cw i) a b :: r) = some z := by
  unfold rev at h
  unfold rst at h
  unfold isBin at hc
  rw [if_neg (by omega), if_pos hc] at h
  match s, h with
  | [], h => simp at h
  | [a], h => simp at h
  | b :: a :: r, h => exact ⟨a, b, r, rfl, h⟩
theorem rev_num (h : rev cw ki aw wh (n + 1) i s = some z) (hc : 3000 ≤ cw i) : rev cw ki aw wh n (i + 1) (nI (cw i - 3000) :: s) = some z := by
  unfold rev at h
  unfold rst at h
  rw [if_neg (by omega), if_neg (by omega), if_pos hc] at h
  exact h
theorem rev_fct (h : rev cw ki aw wh (n + 1) i s = some z) (h7 : ¬ cw i = 7) (hb : ¬ isBin (cw i)) (hn : ¬ 3000 ≤ cw i) : (100 ≤ cw i ∧ cw i ≤ 103) ∧ rev cw ki aw wh n (i + 1) (fct ki aw wh (cw i - 100) :: s) = some z := by
  unfold rev at h
  unfold rst at h
  unfold isBin at hb
  rw [if_neg h7, if_neg hb, if_neg hn] at h
  by_cases hc : 100 ≤ cw i ∧ cw i ≤ 103
  · rw [if_pos hc] at h; exact ⟨hc, h⟩
  · rw [if_neg hc] at h; simp at h
end RV
def rep (g : Nat → Int32) : List Int32 → Prop
  | [] => True
  | a :: r => g r.length = a ∧ rep g r
theorem rep_up {g : Nat → Int32} {k : Nat} {v : Int32} : ∀ {r : List Int32}, rep g r → r.length ≤ k → rep (upd g k v) r
  | [], _, _ => trivial
  | a :: r, h, hk => ⟨by rw [upd_n _ _ (by simp at hk; omega)]; exact h.1, rep_up h.2 (by simp at hk; omega)⟩
theorem nI_dec (n : Nat) : nI (n + 1) + Int32.ofInt (-1) = nI n := by
  rw [show Int32.ofInt (-1) = (-1 : Int32) by decide]
  exact pk_m1 n
/-- the reference's rows of a law -/
def rW (I : hI) (nw : Nat) (bw : Nat → Nat) (qw : Nat → Nat → Nat → Nat → Bool) : Prop := I 82 9 = nI nw ∧ nw ≤ 8 ∧ ∃ en cw : Nat → Nat, (∀ c, c < nw → I 87 c = nI (en c) ∧ en c ≤ 210 ∧ I 88 c = nI (bw c) ∧ bw c ≤ 99) ∧ (∀ c, c < nw → ∀ i, i < en c → I 89 i = nI (cw i) ∧ cw i < 5000) ∧ ∀ c, c < nw → (stl en c = en c ∧ ∀ ki aw wh, qw c ki aw wh = true) ∨ (stl en c < en c ∧ ∀ ki aw wh, ki ≤ 5 → aw ≤ 999 → wh ≤ 2340 → ∃ b, rev cw ki aw wh (en c - stl en c) (stl en c) [] = some [b] ∧ (b = nI 1 ↔ qw c ki aw wh = true))
theorem r_joined {l : Launch} {dp : Nat} {c : Nat} {x y : Int32} {sh : hS} {I : hI} {J : hJ} {R : hR} {Q : hQ} (hc : isBin c) (hQ : Q (some (.int (jn c x y))) sh I J R) : HC l mX12_joined dp 0 0 [.int (nI c), .int x, .int y] sh I J R Q := by
  refine HC.of (by decide +kernel) rfl (Nat.le_of_ble_eq_true rfl) ?_
  rcases hc with rfl | rfl | rfl | rfl | rfl
  · show HV l mX12_joined dp 0 0 0 [some (.int (nI 8)), some (.int x), some (.int y)] [] sh I J R Q
    refine h_iload_n dX12_joined_0 rfl ?_
    refine h_tableIn (off := 51) (tgt := 52) dX12_joined_1 (by decide) (by decide) (by decide) rfl ?_
    refine h_iload_n dX12_joined_52 rfl ?_
    refine h_iload_n dX12_joined_53 rfl ?_
    refine h_iand dX12_joined_54 ?_
    refine h_ireturn dX12_joined_55 rfl ?_
    exact hQ
  · show HV l mX12_joined dp 0 0 0 [some (.int (nI 9)), some (.int x), some (.int y)] [] sh I J R Q
    refine h_iload_n dX12_joined_0 rfl ?_
    refine h_tableIn (off := 55) (tgt := 56) dX12_joined_1 (by decide) (by decide) (by decide) rfl ?_
    refine h_iload_n dX12_joined_56 rfl ?_
    refine h_iload_n dX12_joined_57 rfl ?_
    refine h_ior dX12_joined_58 ?_
    refine h_ireturn dX12_joined_59 rfl ?_
    exact hQ
  · show HV l mX12_joined dp 0 0 0 [some (.int (nI 15)), some (.int x), some (.int y)] [] sh I J R Q
    refine h_iload_n dX12_joined_0 rfl ?_
    refine h_tableIn (off := 59) (tgt := 60) dX12_joined_1 (by decide) (by decide) (by decide) rfl ?_
    refine h_iload_n dX12_joined_60 rfl ?_
    refine h_iload_n dX12_joined_61 rfl ?_
    refine h_icmpge (tgt := 69) dX12_joined_62 rfl (fun c_62 => ?_) (fun c_62 => ?_)
    · refine h_iconst dX12_joined_69 ci_0 ?_
      refine h_ireturn dX12_joined_70 rfl ?_
      rw [show jn 15 x y = nI 0 from if_neg (Int32.not_lt.mpr c_62)] at hQ
      exact hQ
    · refine h_iconst dX12_joined_65 ci_1 ?_
      refine h_goto (tgt := 70) dX12_joined_66 rfl ?_
      refine h_ireturn dX12_joined_70 rfl ?_
      rw [show jn 15 x y = nI 1 from if_pos (Int32.not_le.mp c_62)] at hQ
      exact hQ
  · show HV l mX12_joined dp 0 0 0 [some (.int (nI 16)), some (.int x), some (.int y)] [] sh I J R Q
    refine h_iload_n dX12_joined_0 rfl ?_
    refine h_tableIn (off := 70) (tgt := 71) dX12_joined_1 (by decide) (by decide) (by decide) rfl ?_
    refine h_iload_n dX12_joined_71 rfl ?_
    refine h_iload_n dX12_joined_72 rfl ?_
    refine h_icmpne (tgt := 80) dX12_joined_73 rfl (fun c_73 => ?_) (fun c_73 => ?_)
    · refine h_iconst dX12_joined_80 ci_0 ?_
      refine h_ireturn dX12_joined_81 rfl ?_
      rw [show jn 16 x y = nI 0 from if_neg c_73] at hQ
      exact hQ
    · refine h_iconst dX12_joined_76 ci_1 ?_
      refine h_goto (tgt := 81) dX12_joined_77 rfl ?_
      refine h_ireturn dX12_joined_81 rfl ?_
      rw [show jn 16 x y = nI 1 from if_pos c_73] at hQ
      exact hQ
  · show HV l mX12_joined dp 0 0 0 [some (.int (nI 17)), some (.int x), some (.int y)] [] sh I J R Q
    refine h_iload_n dX12_joined_0 rfl ?_
    refine h_tableOut (tgt := 82) dX12_joined_1 (by decide) rfl ?_
    refine h_iload_n dX12_joined_82 rfl ?_
    refine h_iload_n dX12_joined_83 rfl ?_
    refine h_icmple (tgt := 91) dX12_joined_84 rfl (fun c_84 => ?_) (fun c_84 => ?_)
    · refine h_iconst dX12_joined_91 ci_0 ?_
      refine h_ireturn dX12_joined_92 rfl ?_
      rw [show jn 17 x y = nI 0 from if_neg (Int32.not_lt.mpr c_84)] at hQ
      exact hQ
    · refine h_iconst dX12_joined_87 ci_1 ?_
      refine h_goto (tgt := 92) dX12_joined_88 rfl ?_
      refine h_ireturn dX12_joined_92 rfl ?_
      rw [show jn 17 x y = nI 1 from if_pos (Int32.not_le.mp c_84)] at hQ
      exact hQ
theorem r_holds {l : Launch} {dp : Nat} {nw : Nat} {bw : Nat → Nat} {qw : Nat → Nat → Nat → Nat → Bool} {I : hI} {J : hJ} {lt tx : Option Nat} {c ki aw wh : Nat} {Q : hQ} (hL : rW I nw bw qw) (hc : c < nw) (hki : ki ≤ 5) (haw : aw ≤ 999) (hwh : wh ≤ 2340) (hfc : ∀ j, j < 4 → I 101 j = fct ki aw wh j) (h1 : ∀ g, qw c ki aw wh = true → Q (some (.int (nI 1))) hSH (upA I 102 g) J (hRR lt tx)) (h0 : ∀ g, ¬ qw c ki aw wh = true → Q (some (.int (nI 0))) hSH (upA I 102 g) J (hRR lt tx)) : HC l mX12_holds (dp + 1) 0 0 [.ref 82, .int (nI c)] hSH I J (hRR lt tx) Q := by
  refine HC.of (by decide +kernel) rfl (Nat.le_of_ble_eq_true rfl) ?_
  obtain ⟨hnw, hn8, en, cw, hen, hcw, hev⟩ := id hL
  have hec := hen c hc
  have hst : stl en c ≤ 210 := by
    unfold stl
    by_cases e : c = 0
    · rw [if_pos e]; omega
    · rw [if_neg e]; exact (hen (c - 1) (by omega)).2.1
  have Lo : ∀ (m i : Nat) (s : List Int32) (b : Int32) (g : Nat → Int32), en c - i < m → stl en c ≤ i → s.length + stl en c ≤ i → rep g s → stl en c < en c → i ≤ en c → rev cw ki aw wh (en c - i) i s = some [b] → (b = nI 1 ↔ qw c ki aw wh = true) → ∀ z5, HV l mX12_holds (dp + 1) 0 0 22 [some (.ref 82), some (.int (nI c)), some (.int (nI s.length)), some (.int (nI (stl en c))), some (.int (nI i)), z5] [] hSH (upA I 102 g) J (hRR lt tx) Q := by
    intro m
    induction m with
    | zero => intro i s b g h2 h3 h4 hr h5 h6 hv hb z5; omega
    | succ m ih =>
      intro i s b g h2 h3 h4 hr h5 h6 hv hb z5
      refine h_iload dX12_holds_22 rfl ?_
      refine h_aload_n dX12_holds_24 rfl ?_
      refine h_getR dX12_holds_25 f_X12_22_10 rfl rfl ?_
      refine h_iload_n dX12_holds_28 rfl ?_
      refine h_ialdN (j := c) dX12_holds_29 rfl rfl (by omega) rfl (hen _ (by omega)).1 ?_
      refine h_icmpge (tgt := 171) dX12_holds_30 rfl (fun c_30 => ?_) (fun c_30 => ?_)
      · rw [nI_leI (by omega) (by omega)] at c_30
        rw [show en c - i = 0 by omega] at hv
        have es : s = [b] := Option.some.inj hv
        subst es
        refine h_iload_n dX12_holds_171 rfl ?_
        refine h_aload_n dX12_holds_172 rfl ?_
        refine h_getR dX12_holds_173 f_X12_22_10 rfl rfl ?_
        refine h_iload_n dX12_holds_176 rfl ?_
        refine h_ialdN (j := c) dX12_holds_177 rfl rfl (by omega) rfl (hen _ (by omega)).1 ?_
        refine h_icmpeq (tgt := 191) dX12_holds_178 rfl (fun c_178 => ?_) (fun c_178 => ?_)
        · rw [nI_eq (by omega) (by omega)] at c_178
          omega
        · rw [nI_eq (by omega) (by omega)] at c_178
          refine h_aload_n dX12_holds_181 rfl ?_
          refine h_getR dX12_holds_182 f_X12_68_10 rfl rfl ?_
          refine h_iconst dX12_holds_185 ci_0 ?_
          refine h_ialdN (j := 0) dX12_holds_186 rfl rfl (by omega) rfl hr.1 ?_
          refine h_iconst dX12_holds_187 ci_1 ?_
          refine h_icmpne (tgt := 195) dX12_holds_188 rfl (fun c_188 => ?_) (fun c_188 => ?_)
          · refine h_iconst dX12_holds_195 ci_0 ?_
            refine h_zreturn dX12_holds_196 rfl (by decide) ?_
            exact h0 g (fun z => c_188 (hb.mpr z))
          · refine h_iconst dX12_holds_191 ci_1 ?_
            refine h_goto (tgt := 196) dX12_holds_192 rfl ?_
            refine h_zreturn dX12_holds_196 rfl (by decide) ?_
            exact h1 g (hb.mp c_188)
      · rw [nI_leI (by omega) (by omega)] at c_30
        have hci := (hcw c hc i (by omega)).2
        rw [show en c - i = (en c - (i + 1)) + 1 by omega] at hv
        refine h_aload_n dX12_holds_33 rfl ?_
        refine h_getR dX12_holds_34 f_X12_28_10 rfl rfl ?_
        refine h_iload dX12_holds_37 rfl ?_
        refine h_ialdN (j := i) dX12_holds_39 rfl rfl (by omega) rfl (hcw c hc _ (by omega)).1 ?_
        refine h_istore dX12_holds_40 (Nat.le_of_ble_eq_true rfl) ?_
        refine h_iload dX12_holds_42 rfl ?_
        refine h_bipush dX12_holds_44 cb_7 ?_
        refine h_icmpne (tgt := 70) dX12_holds_46 rfl (fun c_46 => ?_) (fun c_46 => ?_)
        · rw [nI_eq (by omega) (by omega)] at c_46
          refine h_iload dX12_holds_70 rfl ?_
          refine h_bipush dX12_holds_72 cb_8 ?_
          refine h_icmpeq (tgt := 96) dX12_holds_74 rfl (fun c_74 => ?_) (fun c_74 => ?_)
          · rw [nI_eq (by omega) (by omega)] at c_74
            have hbn : isBin (cw i) := Or.inl c_74
            obtain ⟨a, q, r, rfl, hv2⟩ := rev_bin hv hbn
            have hl2 : (q :: a :: r).length = r.length + 2 := rfl
            refine h_iinc (v := nI (r.length + 1)) dX12_holds_96 rfl (nI_dec _) (Nat.le_of_ble_eq_true rfl) ?_
            refine h_aload_n dX12_holds_99 rfl ?_
            refine h_getR dX12_holds_100 f_X12_68_10 rfl rfl ?_
            refine h_iload_n dX12_holds_103 rfl ?_
            refine h_iconst dX12_holds_104 ci_1 ?_
            refine h_isubN dX12_holds_105 (by omega) ?_
            refine h_iload dX12_holds_106 rfl ?_
            refine h_aload_n dX12_holds_108 rfl ?_
            refine h_getR dX12_holds_109 f_X12_68_10 rfl rfl ?_
            refine h_iload_n dX12_holds_112 rfl ?_
            refine h_iconst dX12_holds_113 ci_1 ?_
            refine h_isubN dX12_holds_114 (by omega) ?_
            refine h_ialdN (j := r.length) dX12_holds_115 rfl (by rw [Nat.add_sub_cancel]) (by omega) rfl hr.2.1 ?_
            refine h_aload_n dX12_holds_116 rfl ?_
            refine h_getR dX12_holds_117 f_X12_68_10 rfl rfl ?_
            refine h_iload_n dX12_holds_120 rfl ?_
            refine h_ialdN (j := r.length + 1) dX12_holds_121 rfl rfl (by omega) rfl hr.1 ?_
            refine h_cS3 dX12_holds_122 k6_40 oSX12_joined rfl ?_
            refine r_joined hbn ?_
            refine h_iastN (j := r.length) dX12_holds_125 rfl (by rw [Nat.add_sub_cancel]) (by omega) rfl ?_
            refine h_goto (tgt := 165) dX12_holds_126 rfl ?_
            refine h_iinc (v := nI (i + 1)) dX12_holds_165 rfl (nI_1 _) (Nat.le_of_ble_eq_true rfl) ?_
            refine h_goto (tgt := 22) dX12_holds_168 rfl ?_
            rw [upA_I]
            exact ih (i + 1) (jn (cw i) a q :: r) b _ (by omega) (by omega) (by simp only [List.length_cons] at h4 ⊢; omega) ⟨upd_s _ _ _, rep_up hr.2.2 (Nat.le_refl _)⟩ h5 (by omega) hv2 hb _
          · rw [nI_eq (by omega) (by omega)] at c_74
            refine h_iload dX12_holds_77 rfl ?_
            refine h_bipush dX12_holds_79 cb_9 ?_
            refine h_icmpeq (tgt := 96) dX12_holds_81 rfl (fun c_81 => ?_) (fun c_81 => ?_)
            · rw [nI_eq (by omega) (by omega)] at c_81
              have hbn : isBin (cw i) := Or.inr (Or.inl c_81)
              obtain ⟨a, q, r, rfl, hv2⟩ := rev_bin hv hbn
              have hl2 : (q :: a :: r).length = r.length + 2 := rfl
              refine h_iinc (v := nI (r.length + 1)) dX12_holds_96 rfl (nI_dec _) (Nat.le_of_ble_eq_true rfl) ?_
              refine h_aload_n dX12_holds_99 rfl ?_
              refine h_getR dX12_holds_100 f_X12_68_10 rfl rfl ?_
              refine h_iload_n dX12_holds_103 rfl ?_
              refine h_iconst dX12_holds_104 ci_1 ?_
              refine h_isubN dX12_holds_105 (by omega) ?_
              refine h_iload dX12_holds_106 rfl ?_
              refine h_aload_n dX12_holds_108 rfl ?_
              refine h_getR dX12_holds_109 f_X12_68_10 rfl rfl ?_
              refine h_iload_n dX12_holds_112 rfl ?_
              refine h_iconst dX12_holds_113 ci_1 ?_
              refine h_isubN dX12_holds_114 (by omega) ?_
              refine h_ialdN (j := r.length) dX12_holds_115 rfl (by rw [Nat.add_sub_cancel]) (by omega) rfl hr.2.1 ?_
              refine h_aload_n dX12_holds_116 rfl ?_
              refine h_getR dX12_holds_117 f_X12_68_10 rfl rfl ?_
              refine h_iload_n dX12_holds_120 rfl ?_
              refine h_ialdN (j := r.length + 1) dX12_holds_121 rfl rfl (by omega) rfl hr.1 ?_
              refine h_cS3 dX12_holds_122 k6_40 oSX12_joined rfl ?_
              refine r_joined hbn ?_
              refine h_iastN (j := r.length) dX12_holds_125 rfl (by rw [Nat.add_sub_cancel]) (by omega) rfl ?_
              refine h_goto (tgt := 165) dX12_holds_126 rfl ?_
              refine h_iinc (v := nI (i + 1)) dX12_holds_165 rfl (nI_1 _) (Nat.le_of_ble_eq_true rfl) ?_
              refine h_goto (tgt := 22) dX12_holds_168 rfl ?_
              rw [upA_I]
              exact ih (i + 1) (jn (cw i) a q :: r) b _ (by omega) (by omega) (by simp only [List.length_cons] at h4 ⊢; omega) ⟨upd_s _ _ _, rep_up hr.2.2 (Nat.le_refl _)⟩ h5 (by omega) hv2 hb _
            · rw [nI_eq (by omega) (by omega)] at c_81
              refine h_iload dX12_holds_84 rfl ?_
              refine h_bipush dX12_holds_86 cb_15 ?_
              refine h_bipush dX12_holds_88 cb_17 ?_
              refine h_cS3 dX12_holds_90 k5_172 oSX12_in rfl ?_
              refine c_X12_in (fun b1 => ?_) (fun b1 => ?_)
              · rw [nI_leI (by omega) (by omega), nI_leI (by omega) (by omega)] at b1
                have hbn : isBin (cw i) := by unfold isBin; omega
                obtain ⟨a, q, r, rfl, hv2⟩ := rev_bin hv hbn
                have hl2 : (q :: a :: r).length = r.length + 2 := rfl
                refine h_ifeq (tgt := 129) dX12_holds_93 rfl (fun c => absurd c (by decide)) (fun _ => ?_)
                refine h_iinc (v := nI (r.length + 1)) dX12_holds_96 rfl (nI_dec _) (Nat.le_of_ble_eq_true rfl) ?_
                refine h_aload_n dX12_holds_99 rfl ?_
                refine h_getR dX12_holds_100 f_X12_68_10 rfl rfl ?_
                refine h_iload_n dX12_holds_103 rfl ?_
                refine h_iconst dX12_holds_104 ci_1 ?_
                refine h_isubN dX12_holds_105 (by omega) ?_
                refine h_iload dX12_holds_106 rfl ?_
                refine h_aload_n dX12_holds_108 rfl ?_
                refine h_getR dX12_holds_109 f_X12_68_10 rfl rfl ?_
                refine h_iload_n dX12_holds_112 rfl ?_
                refine h_iconst dX12_holds_113 ci_1 ?_
                refine h_isubN dX12_holds_114 (by omega) ?_
                refine h_ialdN (j := r.length) dX12_holds_115 rfl (by rw [Nat.add_sub_cancel]) (by omega) rfl hr.2.1 ?_
                refine h_aload_n dX12_holds_116 rfl ?_
                refine h_getR dX12_holds_117 f_X12_68_10 rfl rfl ?_
                refine h_iload_n dX12_holds_120 rfl ?_
                refine h_ialdN (j := r.length + 1) dX12_holds_121 rfl rfl (by omega) rfl hr.1 ?_
                refine h_cS3 dX12_holds_122 k6_40 oSX12_joined rfl ?_
                refine r_joined hbn ?_
                refine h_iastN (j := r.length) dX12_holds_125 rfl (by rw [Nat.add_sub_cancel]) (by omega) rfl ?_
                refine h_goto (tgt := 165) dX12_holds_126 rfl ?_
                refine h_iinc (v := nI (i + 1)) dX12_holds_165 rfl (nI_1 _) (Nat.le_of_ble_eq_true rfl) ?_
                refine h_goto (tgt := 22) dX12_holds_168 rfl ?_
                rw [upA_I]
                exact ih (i + 1) (jn (cw i) a q :: r) b _ (by omega) (by omega) (by simp only [List.length_cons] at h4 ⊢; omega) ⟨upd_s _ _ _, rep_up hr.2.2 (Nat.le_refl _)⟩ h5 (by omega) hv2 hb _
              · rw [nI_leI (by omega) (by omega), nI_leI (by omega) (by omega)] at b1
                have hnb : ¬ isBin (cw i) := by unfold isBin; omega
                refine h_ifeq (tgt := 129) dX12_holds_93 rfl (fun _ => ?_) (fun c => absurd (by decide) c)
                refine h_aload_n dX12_holds_129 rfl ?_
                refine h_getR dX12_holds_130 f_X12_68_10 rfl rfl ?_
                refine h_iload_n dX12_holds_133 rfl ?_
                refine h_iload dX12_holds_134 rfl ?_
                refine h_sipush dX12_holds_136 cs_3000 ?_
                refine h_icmplt (tgt := 151) dX12_holds_139 rfl (fun c_139 => ?_) (fun c_139 => ?_)
                · rw [nI_ltI (by omega) (by omega)] at c_139
                  obtain ⟨hf1, hv⟩ := rev_fct hv c_46 hnb (by omega)
                  refine h_aload_n dX12_holds_151 rfl ?_
                  refine h_getR dX12_holds_152 f_X12_65_10 rfl rfl ?_
                  refine h_iload dX12_holds_155 rfl ?_
                  refine h_bipush dX12_holds_157 cb_100 ?_
                  refine h_isubN dX12_holds_159 (by omega) ?_
                  refine h_ialdN (j := cw i - 100) dX12_holds_160 rfl rfl (by omega) rfl (hfc _ (by omega)) ?_
                  refine h_iastN (j := s.length) dX12_holds_161 rfl rfl (by omega) rfl ?_
                  refine h_iinc (v := nI (s.length + 1)) dX12_holds_162 rfl (nI_1 _) (Nat.le_of_ble_eq_true rfl) ?_
                  refine h_iinc (v := nI (i + 1)) dX12_holds_165 rfl (nI_1 _) (Nat.le_of_ble_eq_true rfl) ?_
                  refine h_goto (tgt := 22) dX12_holds_168 rfl ?_
                  rw [upA_I]
                  exact ih (i + 1) (fct ki aw wh (cw i - 100) :: s) b _ (by omega) (by omega) (by simp only [List.length_cons] at h4 ⊢; omega) ⟨upd_s _ _ _, rep_up hr (Nat.le_refl _)⟩ h5 (by omega) hv hb _
                · rw [nI_ltI (by omega) (by omega)] at c_139
                  have hv := rev_num hv (by omega)
                  refine h_iload dX12_holds_142 rfl ?_
                  refine h_sipush dX12_holds_144 cs_3000 ?_
                  refine h_isubN dX12_holds_147 (by omega) ?_
                  refine h_goto (tgt := 161) dX12_holds_148 rfl ?_
                  refine h_iastN (j := s.length) dX12_holds_161 rfl rfl (by omega) rfl ?_
                  refine h_iinc (v := nI (s.length + 1)) dX12_holds_162 rfl (nI_1 _) (Nat.le_of_ble_eq_true rfl) ?_
                  refine h_iinc (v := nI (i + 1)) dX12_holds_165 rfl (nI_1 _) (Nat.le_of_ble_eq_true rfl) ?_
                  refine h_goto (tgt := 22) dX12_holds_168 rfl ?_
                  rw [upA_I]
                  exact ih (i + 1) (nI (cw i - 3000) :: s) b _ (by omega) (by omega) (by simp only [List.length_cons] at h4 ⊢; omega) ⟨upd_s _ _ _, rep_up hr (Nat.le_refl _)⟩ h5 (by omega) hv hb _
        · rw [nI_eq (by omega) (by omega)] at c_46
          obtain ⟨a, r, rfl, hv2⟩ := rev_not hv c_46
          have hl1 : (a :: r).length = r.length + 1 := rfl
          refine h_aload_n dX12_holds_49 rfl ?_
          refine h_getR dX12_holds_50 f_X12_68_10 rfl rfl ?_
          refine h_iload_n dX12_holds_53 rfl ?_
          refine h_iconst dX12_holds_54 ci_1 ?_
          refine h_isubN dX12_holds_55 (by omega) ?_
          refine h_iconst dX12_holds_56 ci_1 ?_
          refine h_aload_n dX12_holds_57 rfl ?_
          refine h_getR dX12_holds_58 f_X12_68_10 rfl rfl ?_
          refine h_iload_n dX12_holds_61 rfl ?_
          refine h_iconst dX12_holds_62 ci_1 ?_
          refine h_isubN dX12_holds_63 (by omega) ?_
          refine h_ialdN (j := r.length) dX12_holds_64 rfl rfl (by omega) rfl hr.1 ?_
          refine h_isub dX12_holds_65 ?_
          refine h_iastN (j := r.length) dX12_holds_66 rfl rfl (by omega) rfl ?_
          refine h_goto (tgt := 165) dX12_holds_67 rfl ?_
          refine h_iinc (v := nI (i + 1)) dX12_holds_165 rfl (nI_1 _) (Nat.le_of_ble_eq_true rfl) ?_
          refine h_goto (tgt := 22) dX12_holds_168 rfl ?_
          rw [upA_I]
          exact ih (i + 1) ((nI 1 - a) :: r) b _ (by omega) (by omega) (by simp only [List.length_cons] at h4 ⊢; omega) ⟨upd_s _ _ _, rep_up hr.2 (Nat.le_refl _)⟩ h5 (by omega) hv2 hb _
  have e0 : c = 0 → stl en c = 0 := fun e => if_pos e
  have e1 : ¬ c = 0 → stl en c = en (c - 1) := fun e => if_neg e
  show HV l mX12_holds (dp + 1) 0 0 0 [some (.ref 82), some (.int (nI c)), none, none, none, none] [] hSH I J (hRR lt tx) Q
  rcases hev c hc with ⟨z1, z2⟩ | ⟨z1, z2⟩
  · refine h_iconst dX12_holds_0 ci_0 ?_
    refine h_istore_n dX12_holds_1 (Nat.le_of_ble_eq_true rfl) ?_
    refine h_iload_n dX12_holds_2 rfl ?_
    refine h_ifne (tgt := 10) dX12_holds_3 rfl (fun c_3 => ?_) (fun c_3 => ?_)
    · rw [show (0 : Int32) = nI 0 from rfl, nI_eq (by omega) (by omega)] at c_3
      have e1 := e1 c_3
      refine h_aload_n dX12_holds_10 rfl ?_
      refine h_getR dX12_holds_11 f_X12_22_10 rfl rfl ?_
      refine h_iload_n dX12_holds_14 rfl ?_
      refine h_iconst dX12_holds_15 ci_1 ?_
      refine h_isubN dX12_holds_16 (by omega) ?_
      refine h_ialdN (j := c - 1) dX12_holds_17 rfl rfl (by omega) rfl (hen _ (by omega)).1 ?_
      refine h_istore_n dX12_holds_18 (Nat.le_of_ble_eq_true rfl) ?_
      refine h_iload_n dX12_holds_19 rfl ?_
      refine h_istore dX12_holds_20 (Nat.le_of_ble_eq_true rfl) ?_
      refine h_iload dX12_holds_22 rfl ?_
      refine h_aload_n dX12_holds_24 rfl ?_
      refine h_getR dX12_holds_25 f_X12_22_10 rfl rfl ?_
      refine h_iload_n dX12_holds_28 rfl ?_
      refine h_ialdN (j := c) dX12_holds_29 rfl rfl (by omega) rfl (hen _ (by omega)).1 ?_
      refine h_icmpge (tgt := 171) dX12_holds_30 rfl (fun c_30 => ?_) (fun c_30 => ?_)
      · rw [nI_leI (by omega) (by omega)] at c_30
        refine h_iload_n dX12_holds_171 rfl ?_
        refine h_aload_n dX12_holds_172 rfl ?_
        refine h_getR dX12_holds_173 f_X12_22_10 rfl rfl ?_
        refine h_iload_n dX12_holds_176 rfl ?_
        refine h_ialdN (j := c) dX12_holds_177 rfl rfl (by omega) rfl (hen _ (by omega)).1 ?_
        refine h_icmpeq (tgt := 191) dX12_holds_178 rfl (fun c_178 => ?_) (fun c_178 => ?_)
        · rw [nI_eq (by omega) (by omega)] at c_178
          refine h_iconst dX12_holds_191 ci_1 ?_
          refine h_goto (tgt := 196) dX12_holds_192 rfl ?_
          refine h_zreturn dX12_holds_196 rfl (by decide) ?_
          have := h1 (I 102) (z2 _ _ _)
          rw [upA_id] at this
          exact this
        · rw [nI_eq (by omega) (by omega)] at c_178
          omega
      · rw [nI_leI (by omega) (by omega)] at c_30
        omega
    · rw [show (0 : Int32) = nI 0 from rfl, nI_eq (by omega) (by omega)] at c_3
      have e0 := e0 c_3
      refine h_iconst dX12_holds_6 ci_0 ?_
      refine h_goto (tgt := 18) dX12_holds_7 rfl ?_
      refine h_istore_n dX12_holds_18 (Nat.le_of_ble_eq_true rfl) ?_
      refine h_iload_n dX12_holds_19 rfl ?_
      refine h_istore dX12_holds_20 (Nat.le_of_ble_eq_true rfl) ?_
      refine h_iload dX12_holds_22 rfl ?_
      refine h_aload_n dX12_holds_24 rfl ?_
      refine h_getR dX12_holds_25 f_X12_22_10 rfl rfl ?_
      refine h_iload_n dX12_holds_28 rfl ?_
      refine h_ialdN (j := c) dX12_holds_29 rfl rfl (by omega) rfl (hen _ (by omega)).1 ?_
      refine h_icmpge (tgt := 171) dX12_holds_30 rfl (fun c_30 => ?_) (fun c_30 => ?_)
      · rw [nI_leI (by omega) (by omega)] at c_30
        refine h_iload_n dX12_holds_171 rfl ?_
        refine h_aload_n dX12_holds_172 rfl ?_
        refine h_getR dX12_holds_173 f_X12_22_10 rfl rfl ?_
        refine h_iload_n dX12_holds_176 rfl ?_
        refine h_ialdN (j := c) dX12_holds_177 rfl rfl (by omega) rfl (hen _ (by omega)).1 ?_
        refine h_icmpeq (tgt := 191) dX12_holds_178 rfl (fun c_178 => ?_) (fun c_178 => ?_)
        · rw [nI_eq (by omega) (by omega)] at c_178
          refine h_iconst dX12_holds_191 ci_1 ?_
          refine h_goto (tgt := 196) dX12_holds_192 rfl ?_
          refine h_zreturn dX12_holds_196 rfl (by decide) ?_
          have := h1 (I 102) (z2 _ _ _)
          rw [upA_id] at this
          exact this
        · rw [nI_eq (by omega) (by omega)] at c_178
          omega
      · rw [nI_leI (by omega) (by omega)] at c_30
        omega
  · refine h_iconst dX12_holds_0 ci_0 ?_
    refine h_istore_n dX12_holds_1 (Nat.le_of_ble_eq_true rfl) ?_
    refine h_iload_n dX12_holds_2 rfl ?_
    refine h_ifne (tgt := 10) dX12_holds_3 rfl (fun c_3 => ?_) (fun c_3 => ?_)
    · rw [show (0 : Int32) = nI 0 from rfl, nI_eq (by omega) (by omega)] at c_3
      have e1 := e1 c_3
      refine h_aload_n dX12_holds_10 rfl ?_
      refine h_getR dX12_holds_11 f_X12_22_10 rfl rfl ?_
      refine h_iload_n dX12_holds_14 rfl ?_
      refine h_iconst dX12_holds_15 ci_1 ?_
      refine h_isubN dX12_holds_16 (by omega) ?_
      refine h_ialdN (j := c - 1) dX12_holds_17 rfl rfl (by omega) rfl (hen _ (by omega)).1 ?_
      refine h_istore_n dX12_holds_18 (Nat.le_of_ble_eq_true rfl) ?_
      refine h_iload_n dX12_holds_19 rfl ?_
      refine h_istore dX12_holds_20 (Nat.le_of_ble_eq_true rfl) ?_
      obtain ⟨b, hb1, hb2⟩ := z2 ki aw wh hki haw hwh
      have h := Lo (en c + 1) (stl en c) [] b (I 102) (by omega) (Nat.le_refl _) (by simp) trivial z1 (by omega) hb1 hb2 none
      rw [upA_id] at h
      rw [e1] at h
      exact h
    · rw [show (0 : Int32) = nI 0 from rfl, nI_eq (by omega) (by omega)] at c_3
      have e0 := e0 c_3
      refine h_iconst dX12_holds_6 ci_0 ?_
      refine h_goto (tgt := 18) dX12_holds_7 rfl ?_
      refine h_istore_n dX12_holds_18 (Nat.le_of_ble_eq_true rfl) ?_
      refine h_iload_n dX12_holds_19 rfl ?_
      refine h_istore dX12_holds_20 (Nat.le_of_ble_eq_true rfl) ?_
      obtain ⟨b, hb1, hb2⟩ := z2 ki aw wh hki haw hwh
      have h := Lo (en c + 1) (stl en c) [] b (I 102) (by omega) (Nat.le_refl _) (by simp) trivial z1 (by omega) hb1 hb2 none
      rw [upA_id] at h
      rw [e0] at h
      exact h
theorem r_toldBy {l : Launch} {dp : Nat} {nw : Nat} {bw : Nat → Nat} {qw : Nat → Nat → Nat → Nat → Bool} {I : hI} {J : hJ} {lt tx : Option Nat} {ki aw hr ht : Nat} {Q : hQ} (hL : rW I nw bw qw) (hki : ki ≤ 5) (haw : aw ≤ 999) (hhr : hr ≤ 23) (hht : ht ≤ 40) (hQ : ∀ g1 g2, Q (some (.int (nI (tol bw qw ki aw (100 * hr + ht) nw)))) hSH (upA (upA I 101 g1) 102 g2) J (hRR lt tx)) : HC l mX12_toldBy (dp + 2) 0 0 [.ref 82, .int (nI ki), .int (nI aw), .int (nI hr), .int (nI ht)] hSH I J (hRR lt tx) Q := by
  refine HC.of (by decide +kernel) rfl (Nat.le_of_ble_eq_true rfl) ?_
  obtain ⟨hnw, hn8, en, cw, hen, hcw, hev⟩ := id hL
  have hw1 : (100 * hr + ht) % 100 = ht := by omega
  have hw2 : (100 * hr + ht) / 100 = hr := by omega
  have Lo : ∀ (q : Nat) (g1 g : Nat → Int32), q ≤ nw → (∀ j, j < 4 → g1 j = fct ki aw (100 * hr + ht) j) → tol bw qw ki aw (100 * hr + ht) nw = tol bw qw ki aw (100 * hr + ht) q → HV l mX12_toldBy (dp + 2) 0 0 37 [some (.ref 82), some (.int (nI ki)), some (.int (nI aw)), some (.int (nI hr)), some (.int (nI ht)), some (.int (kd q))] [] hSH (upA (upA I 101 g1) 102 g) J (hRR lt tx) Q := by
    intro q
    induction q with
    | zero =>
      intro g1 g h1 hf h2
      show HV l mX12_toldBy (dp + 2) 0 0 37 [some (.ref 82), some (.int (nI ki)), some (.int (nI aw)), some (.int (nI hr)), some (.int (nI ht)), some (.int (-1))] [] hSH (upA (upA I 101 g1) 102 g) J (hRR lt tx) Q
      refine h_iload dX12_toldBy_37 rfl ?_
      refine h_iflt (tgt := 65) dX12_toldBy_39 rfl (fun _ => ?_) (fun c => absurd (by decide) c)
      refine h_iconst dX12_toldBy_65 ci_0 ?_
      refine h_ireturn dX12_toldBy_66 rfl ?_
      rw [h2] at hQ
      exact hQ g1 g
    | succ p ih =>
      intro g1 g h1 hf h2
      show HV l mX12_toldBy (dp + 2) 0 0 37 [some (.ref 82), some (.int (nI ki)), some (.int (nI aw)), some (.int (nI hr)), some (.int (nI ht)), some (.int (nI p))] [] hSH (upA (upA I 101 g1) 102 g) J (hRR lt tx) Q
      refine h_iload dX12_toldBy_37 rfl ?_
      refine h_iflt (tgt := 65) dX12_toldBy_39 rfl (fun c_39 => ?_) (fun c_39 => ?_)
      · rw [show (0 : Int32) = nI 0 from rfl, nI_ltI (by omega) (by omega)] at c_39
        omega
      · rw [show (0 : Int32) = nI 0 from rfl, nI_ltI (by omega) (by omega)] at c_39
        refine h_aload_n dX12_toldBy_42 rfl ?_
        refine h_iload dX12_toldBy_43 rfl ?_
        refine h_cV1 dX12_toldBy_45 k6_36 oVX12_holds rfl rfl ?_
        refine r_holds (ki := ki) (aw := aw) (wh := 100 * hr + ht) hL (by omega) hki haw (by omega) hf (fun g2 b1 => ?_) (fun g2 b1 => ?_)
        · rw [upA_A]
          refine h_ifeq (tgt := 59) dX12_toldBy_48 rfl (fun c => absurd c (by decide)) (fun _ => ?_)
          refine h_aload_n dX12_toldBy_51 rfl ?_
          refine h_getR dX12_toldBy_52 f_X12_25_10 rfl rfl ?_
          refine h_iload dX12_toldBy_55 rfl ?_
          refine h_ialdN (j := p) dX12_toldBy_57 rfl rfl (by omega) rfl (hen _ (by omega)).2.2.1 ?_
          refine h_ireturn dX12_toldBy_58 rfl ?_
          rw [h2, show tol bw qw ki aw (100 * hr + ht) (p + 1) = bw p from if_pos b1] at hQ
          exact hQ g1 g2
        · rw [upA_A]
          refine h_ifeq (tgt := 59) dX12_toldBy_48 rfl (fun _ => ?_) (fun c => absurd (by decide) c)
          refine h_iinc (v := kd p) dX12_toldBy_59 rfl (kd_dec p) (Nat.le_of_ble_eq_true rfl) ?_
          refine h_goto (tgt := 37) dX12_toldBy_62 rfl ?_
          exact ih g1 g2 (by omega) hf (h2.trans (if_neg b1))
  show HV l mX12_toldBy (dp + 2) 0 0 0 [some (.ref 82), some (.int (nI ki)), some (.int (nI aw)), some (.int (nI hr)), some (.int (nI ht)), none] [] hSH I J (hRR lt tx) Q
  refine h_aload_n dX12_toldBy_0 rfl ?_
  refine h_getR dX12_toldBy_1 f_X12_65_10 rfl rfl ?_
  refine h_iconst dX12_toldBy_4 ci_0 ?_
  refine h_iload dX12_toldBy_5 rfl ?_
  refine h_iastN (j := 0) dX12_toldBy_7 rfl rfl (by omega) rfl ?_
  refine h_aload_n dX12_toldBy_8 rfl ?_
  refine h_getR dX12_toldBy_9 f_X12_65_10 rfl rfl ?_
  refine h_iconst dX12_toldBy_12 ci_1 ?_
  refine h_iload_n dX12_toldBy_13 rfl ?_
  refine h_iastN (j := 1) dX12_toldBy_14 rfl rfl (by omega) rfl ?_
  refine h_aload_n dX12_toldBy_15 rfl ?_
  refine h_getR dX12_toldBy_16 f_X12_65_10 rfl rfl ?_
  refine h_iconst dX12_toldBy_19 ci_2 ?_
  refine h_iload_n dX12_toldBy_20 rfl ?_
  refine h_iastN (j := 2) dX12_toldBy_21 rfl rfl (by omega) rfl ?_
  refine h_aload_n dX12_toldBy_22 rfl ?_
  refine h_getR dX12_toldBy_23 f_X12_65_10 rfl rfl ?_
  refine h_iconst dX12_toldBy_26 ci_3 ?_
  refine h_iload_n dX12_toldBy_27 rfl ?_
  refine h_iastN (j := 3) dX12_toldBy_28 rfl rfl (by omega) rfl ?_
  refine h_aload_n dX12_toldBy_29 rfl ?_
  refine h_getI dX12_toldBy_30 f_X12_328_10 rfl hnw ?_
  refine h_iconst dX12_toldBy_33 ci_1 ?_
  refine h_isub dX12_toldBy_34 ?_
  rw [kd_sub]
  refine h_istore dX12_toldBy_35 (Nat.le_of_ble_eq_true rfl) ?_
  have h := Lo nw (upd (upd (upd (upd (I 101) 0 (nI ht)) 1 (nI hr)) 2 (nI aw)) 3 (nI ki)) (I 102) (Nat.le_refl _) (fun j hj => by
    rcases (show j = 0 ∨ j = 1 ∨ j = 2 ∨ j = 3 by omega) with rfl | rfl | rfl | rfl
    · show nI ht = nI _; rw [hw1]
    · show nI hr = nI _; rw [hw2]
    · rfl
    · rfl) rfl
  rw [show upI (upI (upI (upI I 101 0 (nI ht)) 101 1 (nI hr)) 101 2 (nI aw)) 101 3 (nI ki) = upA I 101 (upd (upd (upd (upd (I 101) 0 (nI ht)) 1 (nI hr)) 2 (nI aw)) 3 (nI ki)) by rw [upI_A I, upA_I, upA_I, upA_I]]
  rw [show upA (upA I 101 (upd (upd (upd (upd (I 101) 0 (nI ht)) 1 (nI hr)) 2 (nI aw)) 3 (nI ki))) 102 (I 102) = upA I 101 (upd (upd (upd (upd (I 101) 0 (nI ht)) 1 (nI hr)) 2 (nI aw)) 3 (nI ki)) from upA_id (upA I 101 _) 102] at h
  exact h
