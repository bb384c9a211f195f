theorem ti_ne {x : Int32} {n : Nat} (h : ¬ x = nI n) (hn : n < 2147483648) : x.toInt ≠ (n : Int) := by
  intro e
  apply h
  apply Int32.toInt_inj.mp
  rw [e, nI_toInt hn]
def askC (ki aw wh : Nat) (x : Int32) : Int32 := if x = 1635213689 then nI aw else if x = 1751474548 then nI (wh % 100) else if x = 1752135026 then nI (wh / 100) else if x = 1802071652 then nI ki else x
def agrC (l sg r : Int32) : Bool := if sg = 60 then decide (l < r) else if sg = 62 then decide (r < l) else decide (l = r)
def cst1 (ki aw wh : Nat) (sg lf rt v : Int32) : Int32 := if sg = 28530 then (v >>> (nI 1 &&& 31)) ||| (v &&& nI 1) else if sg = 6385252 then (v >>> (nI 1 &&& 31)) &&& ((v &&& nI 1) ||| -2) else if sg = 7237492 then v ^^^ nI 1 else (v <<< (nI 1 &&& 31)) ||| (if agrC (askC ki aw wh lf) sg (askC ki aw wh rt) = true then nI 1 else nI 0)
def cev (sg lf rt : Nat → Int32) (ki aw wh : Nat) : Nat → Nat → Int32 → Int32
  | 0, _, v => v
  | n + 1, i, v => cev sg lf rt ki aw wh n (i + 1) (cst1 ki aw wh (sg i) (lf i) (rt i) v)
def tol (bw : Nat → Nat) (qw : Nat → Nat → Nat → Nat → Bool) (ki aw wh : Nat) : Nat → Nat
  | 0 => 0
  | c + 1 => if qw c ki aw wh = true then bw c else tol bw qw ki aw wh c
def stl (en : Nat → Nat) (c : Nat) : Nat := if c = 0 then 0 else en (c - 1)
/-- the class's rows of a law of nw lines at cell B -/
def cL (I : hI) (B nw : Nat) (bw : Nat → Nat) (qw : Nat → Nat → Nat → Nat → Bool) : Prop := I B 0 = nI nw ∧ nw ≤ 8 ∧ ∃ en : Nat → Nat, (∀ c, c < nw → I (B + 2) c = nI (en c) ∧ en c ≤ 100 ∧ I (B + 1) c = nI (bw c) ∧ bw c ≤ 99) ∧ ∀ c, c < nw → ∀ ki aw wh, ki ≤ 5 → aw ≤ 999 → wh ≤ 2340 → (cev (I (B + 3)) (I (B + 4)) (I (B + 5)) ki aw wh (en c - stl en c) (stl en c) (nI 1) &&& nI 1 = nI 1 ↔ qw c ki aw wh = true)
theorem c_asked {l : Launch} {dp : Nat} {x : Int32} {ki aw wh : Nat} {sh : hS} {I : hI} {J : hJ} {R : hR} {Q : hQ} (hwh : wh ≤ 2340) (hQ : Q (some (.int (askC ki aw wh x))) sh I J R) : HC l mX3_asked dp 0 0 [.int x, .int (nI ki), .int (nI aw), .int (nI wh)] sh I J R Q := by
  refine HC.of (by decide +kernel) rfl (Nat.le_of_ble_eq_true rfl) ?_
  show HV l mX3_asked dp 0 0 0 [some (.int x), some (.int (nI ki)), some (.int (nI aw)), some (.int (nI wh))] [] sh I J R Q
  refine h_iload_n dX3_asked_0 rfl ?_
  by_cases s0 : x = (1635213689 : Int32)
  · refine h_lookup (off := 53) (tgt := 54) dX3_asked_1 rfl (by rw [s0]; decide) rfl ?_
    refine h_iload_n dX3_asked_54 rfl ?_
    refine h_ireturn dX3_asked_55 rfl ?_
    rw [show askC ki aw wh x = _ by unfold askC; rw [if_pos s0]] at hQ
    exact hQ
  by_cases s1 : x = (1751474548 : Int32)
  · refine h_lookup (off := 43) (tgt := 44) dX3_asked_1 rfl (by rw [s1]; decide) rfl ?_
    refine h_iload_n dX3_asked_44 rfl ?_
    refine h_bipush dX3_asked_45 cb_100 ?_
    refine h_iremN dX3_asked_47 (by omega) (by omega) (by omega) ?_
    refine h_ireturn dX3_asked_48 rfl ?_
    rw [show askC ki aw wh x = _ by unfold askC; rw [if_neg s0, if_pos s1]] at hQ
    exact hQ
  by_cases s2 : x = (1752135026 : Int32)
  · refine h_lookup (off := 48) (tgt := 49) dX3_asked_1 rfl (by rw [s2]; decide) rfl ?_
    refine h_iload_n dX3_asked_49 rfl ?_
    refine h_bipush dX3_asked_50 cb_100 ?_
    refine h_idivN dX3_asked_52 (by omega) (by omega) (by omega) ?_
    refine h_ireturn dX3_asked_53 rfl ?_
    rw [show askC ki aw wh x = _ by unfold askC; rw [if_neg s0, if_neg s1, if_pos s2]] at hQ
    exact hQ
  by_cases s3 : x = (1802071652 : Int32)
  · refine h_lookup (off := 55) (tgt := 56) dX3_asked_1 rfl (by rw [s3]; decide) rfl ?_
    refine h_iload_n dX3_asked_56 rfl ?_
    refine h_ireturn dX3_asked_57 rfl ?_
    rw [show askC ki aw wh x = _ by unfold askC; rw [if_neg s0, if_neg s1, if_neg s2, if_pos s3]] at hQ
    exact hQ
  refine h_lookup (off := 57) (tgt := 58) dX3_asked_1 rfl ((lv_osw s0 (by decide)).trans ((lv_osw s1 (by decide)).trans ((lv_osw s2 (by decide)).trans ((lv_osw s3 (by decide)).trans rfl)))) rfl ?_
  refine h_iload_n dX3_asked_58 rfl ?_
  refine h_ireturn dX3_asked_59 rfl ?_
  rw [show askC ki aw wh x = _ by unfold askC; rw [if_neg s0, if_neg s1, if_neg s2, if_neg s3]] at hQ
  exact hQ
theorem c_agree {l : Launch} {dp : Nat} {x sg y : Int32} {sh : hS} {I : hI} {J : hJ} {R : hR} {Q : hQ} (h1 : agrC x sg y = true → Q (some (.int (nI 1))) sh I J R) (h0 : ¬ agrC x sg y = true → Q (some (.int (nI 0))) sh I J R) : HC l mX3_agree dp 0 0 [.int x, .int sg, .int y] sh I J R Q := by
  refine HC.of (by decide +kernel) rfl (Nat.le_of_ble_eq_true rfl) ?_
  show HV l mX3_agree dp 0 0 0 [some (.int x), some (.int sg), some (.int y)] [] sh I J R Q
  refine h_iload_n dX3_agree_0 rfl ?_
  by_cases s0 : sg = (60 : Int32)
  · refine h_lookup (off := 27) (tgt := 28) dX3_agree_1 rfl (by rw [s0]; decide) rfl ?_
    refine h_iload_n dX3_agree_28 rfl ?_
    refine h_iload_n dX3_agree_29 rfl ?_
    refine h_icmpge (tgt := 37) dX3_agree_30 rfl (fun c_30 => ?_) (fun c_30 => ?_)
    · refine h_iconst dX3_agree_37 ci_0 ?_
      refine h_zreturn dX3_agree_38 rfl (by decide) ?_
      exact h0 (by rw [show agrC x sg y = false by unfold agrC; rw [if_pos s0]; exact decide_eq_false (Int32.not_lt.mpr c_30)]; decide)
    · refine h_iconst dX3_agree_33 ci_1 ?_
      refine h_goto (tgt := 38) dX3_agree_34 rfl ?_
      refine h_zreturn dX3_agree_38 rfl (by decide) ?_
      exact h1 (by unfold agrC; rw [if_pos s0]; exact decide_eq_true (Int32.not_le.mp c_30))
  by_cases s1 : sg = (62 : Int32)
  · refine h_lookup (off := 38) (tgt := 39) dX3_agree_1 rfl (by rw [s1]; decide) rfl ?_
    refine h_iload_n dX3_agree_39 rfl ?_
    refine h_iload_n dX3_agree_40 rfl ?_
    refine h_icmple (tgt := 48) dX3_agree_41 rfl (fun c_41 => ?_) (fun c_41 => ?_)
    · refine h_iconst dX3_agree_48 ci_0 ?_
      refine h_zreturn dX3_agree_49 rfl (by decide) ?_
      exact h0 (by rw [show agrC x sg y = false by unfold agrC; rw [if_neg s0, if_pos s1]; exact decide_eq_false (Int32.not_lt.mpr c_41)]; decide)
    · refine h_iconst dX3_agree_44 ci_1 ?_
      refine h_goto (tgt := 49) dX3_agree_45 rfl ?_
      refine h_zreturn dX3_agree_49 rfl (by decide) ?_
      exact h1 (by unfold agrC; rw [if_neg s0, if_pos s1]; exact decide_eq_true (Int32.not_le.mp c_41))
  refine h_lookup (off := 49) (tgt := 50) dX3_agree_1 rfl ((lv_osw s0 (by decide)).trans ((lv_osw s1 (by decide)).trans rfl)) rfl ?_
  refine h_iload_n dX3_agree_50 rfl ?_
  refine h_iload_n dX3_agree_51 rfl ?_
  refine h_icmpne (tgt := 59) dX3_agree_52 rfl (fun c_52 => ?_) (fun c_52 => ?_)
  · refine h_iconst dX3_agree_59 ci_0 ?_
    refine h_zreturn dX3_agree_60 rfl (by decide) ?_
    exact h0 (by rw [show agrC x sg y = false by unfold agrC; rw [if_neg s0, if_neg s1]; exact decide_eq_false c_52]; decide)
  · refine h_iconst dX3_agree_55 ci_1 ?_
    refine h_goto (tgt := 60) dX3_agree_56 rfl ?_
    refine h_zreturn dX3_agree_60 rfl (by decide) ?_
    exact h1 (by unfold agrC; rw [if_neg s0, if_neg s1]; exact decide_eq_true c_52)
theorem c_holds {l : Launch} {dp : Nat} {nw : Nat} {bw : Nat → Nat} {qw : Nat → Nat → Nat → Nat → Bool} {I : hI} {J : hJ} {lt tx : Option Nat} {c ki aw wh : Nat} {Q : hQ} (hL : cL I 12 nw bw qw) (hc : c < nw) (hki : ki ≤ 5) (haw : aw ≤ 999) (hwh : wh ≤ 2340) (h1 : qw c ki aw wh = true → Q (some (.int (nI 1))) hSH I J (hRR lt tx)) (h0 : ¬ qw c ki aw wh = true → Q (some (.int (nI 0))) hSH I J (hRR lt tx)) : HC l mX3_holds (dp + 1) 0 0 [.ref 12, .int (nI c), .int (nI ki), .int (nI aw), .int (nI wh)] hSH I J (hRR lt tx) Q := by
  refine HC.of (by decide +kernel) rfl (Nat.le_of_ble_eq_true rfl) ?_
  obtain ⟨hnw, hn8, en, hen, hev⟩ := id hL
  have hec := hen c hc
  have hq := hev c hc ki aw wh hki haw hwh
  have Lo : ∀ (m i : Nat) (v : Int32), en c - i < m → i ≤ 100 → (cev (I 15) (I 16) (I 17) ki aw wh (en c - i) i v &&& nI 1 = nI 1 ↔ qw c ki aw wh = true) → ∀ z7 z8 z9, HV l mX3_holds (dp + 1) 0 0 21 [some (.ref 12), some (.int (nI c)), some (.int (nI ki)), some (.int (nI aw)), some (.int (nI wh)), some (.int v), some (.int (nI i)), z7, z8, z9] [] hSH I J (hRR lt tx) Q := by
    intro m
    induction m with
    | zero => intro i v h2 h3 hv z7 z8 z9; omega
    | succ m ih =>
      intro i v h2 h3 hv z7 z8 z9
      refine h_iload dX3_holds_21 rfl ?_
      refine h_aload_n dX3_holds_23 rfl ?_
      refine h_getR dX3_holds_24 f_X3_19_3 rfl rfl ?_
      refine h_iload_n dX3_holds_27 rfl ?_
      refine h_ialdN (j := c) dX3_holds_28 rfl rfl (by omega) rfl (hen _ (by omega)).1 ?_
      refine h_icmpge (tgt := 183) dX3_holds_29 rfl (fun c_29 => ?_) (fun c_29 => ?_)
      · rw [nI_leI (by omega) (by omega)] at c_29
        rw [show en c - i = 0 by omega] at hv
        refine h_iload dX3_holds_183 rfl ?_
        refine h_iconst dX3_holds_185 ci_1 ?_
        refine h_iand dX3_holds_186 ?_
        refine h_iconst dX3_holds_187 ci_1 ?_
        refine h_icmpne (tgt := 195) dX3_holds_188 rfl (fun c_188 => ?_) (fun c_188 => ?_)
        · refine h_iconst dX3_holds_195 ci_0 ?_
          refine h_zreturn dX3_holds_196 rfl (by decide) ?_
          exact h0 (fun z => c_188 (hv.mpr z))
        · refine h_iconst dX3_holds_191 ci_1 ?_
          refine h_goto (tgt := 196) dX3_holds_192 rfl ?_
          refine h_zreturn dX3_holds_196 rfl (by decide) ?_
          exact h1 (hv.mp c_188)
      · rw [nI_leI (by omega) (by omega)] at c_29
        refine h_iload dX3_holds_32 rfl ?_
        refine h_iconst dX3_holds_34 ci_1 ?_
        refine h_iand dX3_holds_35 ?_
        refine h_istore dX3_holds_36 (Nat.le_of_ble_eq_true rfl) ?_
        refine h_aload_n dX3_holds_38 rfl ?_
        refine h_getR dX3_holds_39 f_X3_25_3 rfl rfl ?_
        refine h_iload dX3_holds_42 rfl ?_
        refine h_ialdN (j := i) dX3_holds_44 rfl rfl (by omega) rfl rfl ?_
        by_cases s0 : I 15 i = (28530 : Int32)
        · refine h_lookup (off := 59) (tgt := 104) dX3_holds_45 rfl (by rw [s0]; decide) rfl ?_
          refine h_iload dX3_holds_104 rfl ?_
          refine h_iconst dX3_holds_106 ci_1 ?_
          refine h_ishr dX3_holds_107 ?_
          refine h_iload dX3_holds_108 rfl ?_
          refine h_ior dX3_holds_110 ?_
          refine h_istore dX3_holds_111 (Nat.le_of_ble_eq_true rfl) ?_
          refine h_goto (tgt := 177) dX3_holds_113 rfl ?_
          refine h_iinc (v := nI (i + 1)) dX3_holds_177 rfl (nI_1 _) (Nat.le_of_ble_eq_true rfl) ?_
          refine h_goto (tgt := 21) dX3_holds_180 rfl ?_
          refine ih (i + 1) _ (by omega) (by omega) ?_ _ _ _
          rw [show en c - i = (en c - (i + 1)) + 1 by omega] at hv
          rw [show cev (I 15) (I 16) (I 17) ki aw wh (en c - (i + 1) + 1) i v = cev (I 15) (I 16) (I 17) ki aw wh (en c - (i + 1)) (i + 1) (cst1 ki aw wh (I 15 i) (I 16 i) (I 17 i) v) from rfl] at hv
          unfold cst1 at hv
          rw [if_pos s0] at hv
          exact hv
        by_cases s1 : I 15 i = (6385252 : Int32)
        · refine h_lookup (off := 44) (tgt := 89) dX3_holds_45 rfl (by rw [s1]; decide) rfl ?_
          refine h_iload dX3_holds_89 rfl ?_
          refine h_iconst dX3_holds_91 ci_1 ?_
          refine h_ishr dX3_holds_92 ?_
          refine h_iload dX3_holds_93 rfl ?_
          refine h_bipush dX3_holds_95 cb_m2 ?_
          refine h_ior dX3_holds_97 ?_
          refine h_iand dX3_holds_98 ?_
          refine h_istore dX3_holds_99 (Nat.le_of_ble_eq_true rfl) ?_
          refine h_goto (tgt := 177) dX3_holds_101 rfl ?_
          refine h_iinc (v := nI (i + 1)) dX3_holds_177 rfl (nI_1 _) (Nat.le_of_ble_eq_true rfl) ?_
          refine h_goto (tgt := 21) dX3_holds_180 rfl ?_
          refine ih (i + 1) _ (by omega) (by omega) ?_ _ _ _
          rw [show en c - i = (en c - (i + 1)) + 1 by omega] at hv
          rw [show cev (I 15) (I 16) (I 17) ki aw wh (en c - (i + 1) + 1) i v = cev (I 15) (I 16) (I 17) ki aw wh (en c - (i + 1)) (i + 1) (cst1 ki aw wh (I 15 i) (I 16 i) (I 17 i) v) from rfl] at hv
          unfold cst1 at hv
          rw [if_neg s0, if_pos s1] at hv
          exact hv
        by_cases s2 : I 15 i = (7237492 : Int32)
        · refine h_lookup (off := 35) (tgt := 80) dX3_holds_45 rfl (by rw [s2]; decide) rfl ?_
          refine h_iload dX3_holds_80 rfl ?_
          refine h_iconst dX3_holds_82 ci_1 ?_
          refine h_ixor dX3_holds_83 ?_
          refine h_istore dX3_holds_84 (Nat.le_of_ble_eq_true rfl) ?_
          refine h_goto (tgt := 177) dX3_holds_86 rfl ?_
          refine h_iinc (v := nI (i + 1)) dX3_holds_177 rfl (nI_1 _) (Nat.le_of_ble_eq_true rfl) ?_
          refine h_goto (tgt := 21) dX3_holds_180 rfl ?_
          refine ih (i + 1) _ (by omega) (by omega) ?_ _ _ _
          rw [show en c - i = (en c - (i + 1)) + 1 by omega] at hv
          rw [show cev (I 15) (I 16) (I 17) ki aw wh (en c - (i + 1) + 1) i v = cev (I 15) (I 16) (I 17) ki aw wh (en c - (i + 1)) (i + 1) (cst1 ki aw wh (I 15 i) (I 16 i) (I 17 i) v) from rfl] at hv
          unfold cst1 at hv
          rw [if_neg s0, if_neg s1, if_pos s2] at hv
          exact hv
        refine h_lookup (off := 71) (tgt := 116) dX3_holds_45 rfl ((lv_osw s0 (by decide)).trans ((lv_osw s1 (by decide)).trans ((lv_osw s2 (by decide)).trans rfl))) rfl ?_
        refine h_aload_n dX3_holds_116 rfl ?_
        refine h_getR dX3_holds_117 f_X3_28_3 rfl rfl ?_
        refine h_iload dX3_holds_120 rfl ?_
        refine h_ialdN (j := i) dX3_holds_122 rfl rfl (by omega) rfl rfl ?_
        refine h_iload_n dX3_holds_123 rfl ?_
        refine h_iload_n dX3_holds_124 rfl ?_
        refine h_iload dX3_holds_125 rfl ?_
        refine h_cS4 dX3_holds_127 k3_60 oSX3_asked rfl ?_
        refine c_asked (by omega) ?_
        refine h_istore dX3_holds_130 (Nat.le_of_ble_eq_true rfl) ?_
        refine h_aload_n dX3_holds_132 rfl ?_
        refine h_getR dX3_holds_133 f_X3_31_3 rfl rfl ?_
        refine h_iload dX3_holds_136 rfl ?_
        refine h_ialdN (j := i) dX3_holds_138 rfl rfl (by omega) rfl rfl ?_
        refine h_iload_n dX3_holds_139 rfl ?_
        refine h_iload_n dX3_holds_140 rfl ?_
        refine h_iload dX3_holds_141 rfl ?_
        refine h_cS4 dX3_holds_143 k3_60 oSX3_asked rfl ?_
        refine c_asked (by omega) ?_
        refine h_istore dX3_holds_146 (Nat.le_of_ble_eq_true rfl) ?_
        refine h_iload dX3_holds_148 rfl ?_
        refine h_iconst dX3_holds_150 ci_1 ?_
        refine h_ishl dX3_holds_151 ?_
        refine h_iload dX3_holds_152 rfl ?_
        refine h_aload_n dX3_holds_154 rfl ?_
        refine h_getR dX3_holds_155 f_X3_25_3 rfl rfl ?_
        refine h_iload dX3_holds_158 rfl ?_
        refine h_ialdN (j := i) dX3_holds_160 rfl rfl (by omega) rfl rfl ?_
        refine h_iload dX3_holds_161 rfl ?_
        refine h_cS3 dX3_holds_163 k3_63 oSX3_agree rfl ?_
        refine c_agree (fun b1 => ?_) (fun b1 => ?_)
        · refine h_ifeq (tgt := 173) dX3_holds_166 rfl (fun c => absurd c (by decide)) (fun _ => ?_)
          refine h_iconst dX3_holds_169 ci_1 ?_
          refine h_goto (tgt := 174) dX3_holds_170 rfl ?_
          refine h_ior dX3_holds_174 ?_
          refine h_istore dX3_holds_175 (Nat.le_of_ble_eq_true rfl) ?_
          refine h_iinc (v := nI (i + 1)) dX3_holds_177 rfl (nI_1 _) (Nat.le_of_ble_eq_true rfl) ?_
          refine h_goto (tgt := 21) dX3_holds_180 rfl ?_
          refine ih (i + 1) _ (by omega) (by omega) ?_ _ _ _
          rw [show en c - i = (en c - (i + 1)) + 1 by omega] at hv
          rw [show cev (I 15) (I 16) (I 17) ki aw wh (en c - (i + 1) + 1) i v = cev (I 15) (I 16) (I 17) ki aw wh (en c - (i + 1)) (i + 1) (cst1 ki aw wh (I 15 i) (I 16 i) (I 17 i) v) from rfl] at hv
          unfold cst1 at hv
          rw [if_neg s0, if_neg s1, if_neg s2, if_pos b1] at hv
          exact hv
        · refine h_ifeq (tgt := 173) dX3_holds_166 rfl (fun _ => ?_) (fun c => absurd (by decide) c)
          refine h_iconst dX3_holds_173 ci_0 ?_
          refine h_ior dX3_holds_174 ?_
          refine h_istore dX3_holds_175 (Nat.le_of_ble_eq_true rfl) ?_
          refine h_iinc (v := nI (i + 1)) dX3_holds_177 rfl (nI_1 _) (Nat.le_of_ble_eq_true rfl) ?_
          refine h_goto (tgt := 21) dX3_holds_180 rfl ?_
          refine ih (i + 1) _ (by omega) (by omega) ?_ _ _ _
          rw [show en c - i = (en c - (i + 1)) + 1 by omega] at hv
          rw [show cev (I 15) (I 16) (I 17) ki aw wh (en c - (i + 1) + 1) i v = cev (I 15) (I 16) (I 17) ki aw wh (en c - (i + 1)) (i + 1) (cst1 ki aw wh (I 15 i) (I 16 i) (I 17 i) v) from rfl] at hv
          unfold cst1 at hv
          rw [if_neg s0, if_neg s1, if_neg s2, if_neg b1] at hv
          exact hv
  show HV l mX3_holds (dp + 1) 0 0 0 [some (.ref 12), some (.int (nI c)), some (.int (nI ki)), some (.int (nI aw)), some (.int (nI wh)), none, none, none, none, none] [] hSH I J (hRR lt tx) Q
  refine h_iconst dX3_holds_0 ci_1 ?_
  refine h_istore dX3_holds_1 (Nat.le_of_ble_eq_true rfl) ?_
  refine h_iload_n dX3_holds_3 rfl ?_
  refine h_ifne (tgt := 11) dX3_holds_4 rfl (fun c_4 => ?_) (fun c_4 => ?_)
  · rw [show (0 : Int32) = nI 0 from rfl, nI_eq (by omega) (by omega)] at c_4
    refine h_aload_n dX3_holds_11 rfl ?_
    refine h_getR dX3_holds_12 f_X3_19_3 rfl rfl ?_
    refine h_iload_n dX3_holds_15 rfl ?_
    refine h_iconst dX3_holds_16 ci_1 ?_
    refine h_isubN dX3_holds_17 (by omega) ?_
    refine h_ialdN (j := c - 1) dX3_holds_18 rfl rfl (by omega) rfl (hen _ (by omega)).1 ?_
    refine h_istore dX3_holds_19 (Nat.le_of_ble_eq_true rfl) ?_
    have e0 : stl en c = en (c - 1) := if_neg c_4
    rw [e0] at hq
    exact Lo (en c + 1) _ _ (by omega) (by have := (hen (c - 1) (by omega)).2.1; omega) hq _ _ _
  · rw [show (0 : Int32) = nI 0 from rfl, nI_eq (by omega) (by omega)] at c_4
    refine h_iconst dX3_holds_7 ci_0 ?_
    refine h_goto (tgt := 19) dX3_holds_8 rfl ?_
    refine h_istore dX3_holds_19 (Nat.le_of_ble_eq_true rfl) ?_
    have e0 : stl en c = 0 := if_pos c_4
    rw [e0] at hq
    exact Lo (en c + 1) _ _ (by omega) (by omega) hq _ _ _
theorem c_told {l : Launch} {dp : Nat} {nw : Nat} {bw : Nat → Nat} {qw : Nat → Nat → Nat → Nat → Bool} {I : hI} {J : hJ} {lt tx : Option Nat} {ki aw wh : Nat} {Q : hQ} (hL : cL I 12 nw bw qw) (hki : ki ≤ 5) (haw : aw ≤ 999) (hwh : wh ≤ 2340) (hQ : Q (some (.int (nI (tol bw qw ki aw wh nw)))) hSH I J (hRR lt tx)) : HC l mX3_told (dp + 2) 0 0 [.ref 12, .int (nI ki), .int (nI aw), .int (nI wh)] hSH I J (hRR lt tx) Q := by
  refine HC.of (by decide +kernel) rfl (Nat.le_of_ble_eq_true rfl) ?_
  obtain ⟨hnw, hn8, en, hen, hev⟩ := id hL
  have Lo : ∀ (q : Nat), q ≤ nw → tol bw qw ki aw wh nw = tol bw qw ki aw wh q → HV l mX3_told (dp + 2) 0 0 8 [some (.ref 12), some (.int (nI ki)), some (.int (nI aw)), some (.int (nI wh)), some (.int (kd q))] [] hSH I J (hRR lt tx) Q := by
    intro q
    induction q with
    | zero =>
      intro h1 h2
      show HV l mX3_told (dp + 2) 0 0 8 [some (.ref 12), some (.int (nI ki)), some (.int (nI aw)), some (.int (nI wh)), some (.int (-1))] [] hSH I J (hRR lt tx) Q
      refine h_iload dX3_told_8 rfl ?_
      refine h_iflt (tgt := 39) dX3_told_10 rfl (fun _ => ?_) (fun c => absurd (by decide) c)
      refine h_iconst dX3_told_39 ci_0 ?_
      refine h_ireturn dX3_told_40 rfl ?_
      rw [h2] at hQ
      exact hQ
    | succ p ih =>
      intro h1 h2
      show HV l mX3_told (dp + 2) 0 0 8 [some (.ref 12), some (.int (nI ki)), some (.int (nI aw)), some (.int (nI wh)), some (.int (nI p))] [] hSH I J (hRR lt tx) Q
      refine h_iload dX3_told_8 rfl ?_
      refine h_iflt (tgt := 39) dX3_told_10 rfl (fun c_10 => ?_) (fun c_10 => ?_)
      · rw [show (0 : Int32) = nI 0 from rfl, nI_ltI (by omega) (by omega)] at c_10
        omega
      · rw [show (0 : Int32) = nI 0 from rfl, nI_ltI (by omega) (by omega)] at c_10
        refine h_aload_n dX3_told_13 rfl ?_
        refine h_iload dX3_told_14 rfl ?_
        refine h_iload_n dX3_told_16 rfl ?_
        refine h_iload_n dX3_told_17 rfl ?_
        refine h_iload_n dX3_told_18 rfl ?_
        refine h_cV4 dX3_told_19 k3_56 oVX3_holds rfl rfl ?_
        refine c_holds hL (by omega) hki haw hwh (fun b1 => ?_) (fun b1 => ?_)
        · refine h_ifeq (tgt := 33) dX3_told_22 rfl (fun c => absurd c (by decide)) (fun _ => ?_)
          refine h_aload_n dX3_told_25 rfl ?_
          refine h_getR dX3_told_26 f_X3_15_3 rfl rfl ?_
          refine h_iload dX3_told_29 rfl ?_
          refine h_ialdN (j := p) dX3_told_31 rfl rfl (by omega) rfl (hen _ (by omega)).2.2.1 ?_
          refine h_ireturn dX3_told_32 rfl ?_
          rw [h2, show tol bw qw ki aw wh (p + 1) = bw p from if_pos b1] at hQ
          exact hQ
        · refine h_ifeq (tgt := 33) dX3_told_22 rfl (fun _ => ?_) (fun c => absurd (by decide) c)
          refine h_iinc (v := kd p) dX3_told_33 rfl (kd_dec p) (Nat.le_of_ble_eq_true rfl) ?_
          refine h_goto (tgt := 8) dX3_told_36 rfl ?_
          exact ih (by omega) (h2.trans (if_neg b1))
  show HV l mX3_told (dp + 2) 0 0 0 [some (.ref 12), some (.int (nI ki)), some (.int (nI aw)), some (.int (nI wh)), none] [] hSH I J (hRR lt tx) Q
  refine h_aload_n dX3_told_0 rfl ?_
  refine h_getI dX3_told_1 f_X3_9_3 rfl hnw ?_
  refine h_iconst dX3_told_4 ci_1 ?_
  refine h_isub dX3_told_5 ?_
  rw [kd_sub]
  refine h_istore dX3_told_6 (Nat.le_of_ble_eq_true rfl) ?_
  exact Lo nw (Nat.le_refl _) rfl
