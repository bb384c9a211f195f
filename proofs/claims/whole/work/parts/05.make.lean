theorem hz_new {o : Nat} {D : va_G} {aC : Nat → ClassId} {sh : hS} {I : hI} {J : hJ} {R : hR} {H H1 H0 : Heap} {locs : List Loc} {z : Nat × Nat} (X3 : hHR o D aC sh I J R H) (X4 : va_S (hA o) H0 H locs) (hat : va_at D vwCl (o + sh.length, hce o aC (clI I sh.length) (clJ J sh.length) (clR R sh.length) sh.length z) H1) (hz : H1.size = H.size + 1) (oq : ∀ q, q < H.size → H1[q]? = H[q]?) :
    hHR o D aC (sh ++ [z]) (clI I sh.length) (clJ J sh.length) (clR R sh.length) H1 ∧ va_S (hA o) H0 H1 locs := by
  have hne : ∀ i z, i < sh.length → hce o aC (clI I sh.length) (clJ J sh.length) (clR R sh.length) i z = hce o aC I J R i z := fun i z hi => hce_ne (if_neg (by omega)) (if_neg (by omega)) (if_neg (by omega)) z
  refine ⟨⟨by rw [hz, X3.1, List.length_append]; rfl, ?_⟩, Nat.le_trans X4.1 (by omega), fun x h1 h2 => (oq x (Nat.lt_of_lt_of_le h1 X4.1)).trans (X4.2.1 x h1 h2), X4.2.2⟩
  rw [hws_push hne]
  refine va_P.app (X3.2.kept fun k x hx => oq x.1 ((X3.2 k x hx).lt)) (fun k x hx => ?_)
  have hz : k < 1 := (List.getElem?_eq_some_iff.mp hx).1
  rw [show k = 0 by omega] at hx
  cases hx
  exact hat
theorem hcl_fs (o : Nat) (I : hI) (J : hJ) (R : hR) (a : Nat) (t j : Nat) : hvf o (clI I a) (clJ J a) (clR R a) a j t = match t with | 0 => .int 0 | 1 => .int 0 | 2 => .long 0 | _ => .null := by
  match t with
  | 0 => show Value.int (clI I a a j) = _; simp [clI]
  | 1 => show Value.int (clI I a a j) = _; simp [clI]
  | 2 => show Value.long (clJ J a a j) = _; simp [clJ]
  | _ + 3 => show va_rf ((clR R a a j).map _) = _; simp [clR, va_rf]
/-- a class of vwCl that can be made -/
def hCl (own : String) (idx c N : Nat) : Prop := ∃ (C : String) (T : u_T) (ty : Nat → FieldType), vwCl[c]? = some (C, T, N) ∧ (∀ w ∈ u_ws C T N, hW w) ∧ (∀ k, k < N → parseFieldDescriptor (T k).2.2.1 = some (ty k)) ∧ hW (.classLink own idx C) ∧ hW (.instantiable C N) ∧ hW (.initialized C) ∧ ∀ j, j < N → ∃ t, (hFT c)[j]? = some t ∧ defaultValue (ty j) = match t with | 0 => .int 0 | 1 => .int 0 | 2 => .long 0 | _ => .null
section HMAKE
variable {l : Launch} {M : hM} {d k n pc : Nat} {ls : hL} {st : List Value} {sh : hS} {I : hI} {J : hJ} {R : hR} {Q : hQ}
theorem h_new {idx c N : Nat} (hd : decode M.2.1 pc = .ok (.new idx, 3)) (hc : hCl M.1.cls idx c N) (h : HV l M d k n (pc + 3) ls (.ref sh.length :: st) (sh ++ [(c + 5, 0)]) (clI I sh.length) (clJ J sh.length) (clR R sh.length) Q) : HV l M d (k + 1) (n + N) pc ls st sh I J R Q := by
  intro p e Rm s m args below meth cd H locs cells slots Qw D aC o b A kt nt X1 X2 X3 X4 X5 X6
  obtain ⟨C, T, ty, f1, f2, f3, f4, f5, f6, f7⟩ := hc
  obtain ⟨r1, r2, r3, r4, r5, r6⟩ := X2
  have hts : ∀ w ∈ u_ws C T N, w.before args s = true := fun w hw => X1.2.2.2.2.1 w (f2 w hw)
  have hKn := X1.2.2.2.2.2.2.1.1 c _ f1
  refine W.newcK X1.1 X1.2.1 X1.2.2.2.1 (X1.2.2.2.2.1 _ f4) (X1.2.2.2.2.1 _ f5) (X1.2.2.2.2.1 _ f6) rfl hd (by omega) (by omega) hKn.2.1 X3.1 fun H1 kC hkC e1 z1 o1 => ?_
  obtain ⟨y1, y2⟩ := hz_new (z := (c + 5, 0)) X3 X4 (by
    refine ⟨_, f1, (u_born ty hts (fun w hw => hw) hKn hkC e1 f3).to (fun j hj => ?_)⟩
    obtain ⟨t, t1, t2⟩ := f7 j hj
    rw [t2]
    show _ = (hfs o _ _ _ sh.length (hFT c)).getD j .null
    rw [List.getD_eq_getElem?_getD, hfs_get t1, hcl_fs]
    rfl) (z1.trans (by rw [X3.1])) (fun q hq => o1 q (by rw [← X3.1]; exact hq))
  exact h p e Rm s m args below meth cd H1 locs (cells + 1) (slots + N) Qw D aC o b A kt nt X1 ⟨r1, r2, by omega, by omega, r5, r6⟩ y1 y2 X5 X6
theorem h_newa_int {x : Int32} {N : Nat} (hd : decode M.2.1 pc = .ok (.newarray .int, 2)) (hw : hW (.arrayClass .int)) (hx : x = nI N) (hN : Nat.ble N 100000 = true) (h : HV l M d k n (pc + 2) ls (.ref sh.length :: st) (sh ++ [(0, N)]) (clI I sh.length) (clJ J sh.length) (clR R sh.length) Q) : HV l M d (k + 1) (n + N) pc ls (.int x :: st) sh I J R Q := by
  intro p e Rm s m args below meth cd H locs cells slots Qw D aC o b A kt nt X1 X2 X3 X4 X5 X6
  have hN := Nat.le_of_ble_eq_true hN
  subst hx
  obtain ⟨r1, r2, r3, r4, r5, r6⟩ := X2
  refine va_newaK (atype := .int) (N := N) X1.1 X1.2.1 (X1.2.2.2.2.1 _ hw) rfl hd rfl (nI_pos (by omega)) (nI_clamp (by omega)) (by show N * 4 ≤ _; omega) (by omega) (by omega) X3.1 fun H1 cA e1 z1 o1 hAr hNm => ?_
  have hcA : cA = aC 0 := Option.some.inj (hNm.symm.trans (X1.2.2.2.2.2.2.1.2 0 (aC 0, .int) rfl).2)
  subst hcA
  obtain ⟨y1, y2⟩ := hz_new (z := (0, N)) X3 X4 (by
    show H1[o + sh.length]? = some (vp_cell _ _)
    rw [e1, vp_cell_i]
    congr 2
    funext j
    show _ = Value.int (clI _ _ _ _)
    simp [clI]
    rfl) (z1.trans (by rw [X3.1])) (fun q hq => o1 q (by rw [← X3.1]; exact hq))
  exact h p e Rm s m args below meth cd H1 locs (cells + 1) (slots + N) Qw D aC o b A kt nt X1 ⟨r1, r2, by omega, by omega, r5, r6⟩ y1 y2 X5 X6
theorem h_newa_byte {x : Int32} {N : Nat} (hd : decode M.2.1 pc = .ok (.newarray .byte, 2)) (hw : hW (.arrayClass .byte)) (hx : x = nI N) (hN : Nat.ble N 100000 = true) (h : HV l M d k n (pc + 2) ls (.ref sh.length :: st) (sh ++ [(1, N)]) (clI I sh.length) (clJ J sh.length) (clR R sh.length) Q) : HV l M d (k + 1) (n + N) pc ls (.int x :: st) sh I J R Q := by
  intro p e Rm s m args below meth cd H locs cells slots Qw D aC o b A kt nt X1 X2 X3 X4 X5 X6
  have hN := Nat.le_of_ble_eq_true hN
  subst hx
  obtain ⟨r1, r2, r3, r4, r5, r6⟩ := X2
  refine va_newaK (atype := .byte) (N := N) X1.1 X1.2.1 (X1.2.2.2.2.1 _ hw) rfl hd rfl (nI_pos (by omega)) (nI_clamp (by omega)) (by show N * 1 ≤ _; omega) (by omega) (by omega) X3.1 fun H1 cA e1 z1 o1 hAr hNm => ?_
  have hcA : cA = aC 1 := Option.some.inj (hNm.symm.trans (X1.2.2.2.2.2.2.1.2 1 (aC 1, .byte) rfl).2)
  subst hcA
  obtain ⟨y1, y2⟩ := hz_new (z := (1, N)) X3 X4 (by
    show H1[o + sh.length]? = some (vp_cell _ _)
    rw [e1, vp_cell_i]
    congr 2
    funext j
    show _ = Value.int (clI _ _ _ _)
    simp [clI]
    rfl) (z1.trans (by rw [X3.1])) (fun q hq => o1 q (by rw [← X3.1]; exact hq))
  exact h p e Rm s m args below meth cd H1 locs (cells + 1) (slots + N) Qw D aC o b A kt nt X1 ⟨r1, r2, by omega, by omega, r5, r6⟩ y1 y2 X5 X6
theorem h_newa_long {x : Int32} {N : Nat} (hd : decode M.2.1 pc = .ok (.newarray .long, 2)) (hw : hW (.arrayClass .long)) (hx : x = nI N) (hN : Nat.ble N 100000 = true) (h : HV l M d k n (pc + 2) ls (.ref sh.length :: st) (sh ++ [(2, N)]) (clI I sh.length) (clJ J sh.length) (clR R sh.length) Q) : HV l M d (k + 1) (n + N) pc ls (.int x :: st) sh I J R Q := by
  intro p e Rm s m args below meth cd H locs cells slots Qw D aC o b A kt nt X1 X2 X3 X4 X5 X6
  have hN := Nat.le_of_ble_eq_true hN
  subst hx
  obtain ⟨r1, r2, r3, r4, r5, r6⟩ := X2
  refine va_newaK (atype := .long) (N := N) X1.1 X1.2.1 (X1.2.2.2.2.1 _ hw) rfl hd rfl (nI_pos (by omega)) (nI_clamp (by omega)) (by show N * 8 ≤ _; omega) (by omega) (by omega) X3.1 fun H1 cA e1 z1 o1 hAr hNm => ?_
  have hcA : cA = aC 2 := Option.some.inj (hNm.symm.trans (X1.2.2.2.2.2.2.1.2 2 (aC 2, .long) rfl).2)
  subst hcA
  obtain ⟨y1, y2⟩ := hz_new (z := (2, N)) X3 X4 (by
    show H1[o + sh.length]? = some (vp_cell _ _)
    rw [e1, vp_cell_l]
    congr 2
    funext j
    show _ = Value.long (clJ _ _ _ _)
    simp [clJ]
    rfl) (z1.trans (by rw [X3.1])) (fun q hq => o1 q (by rw [← X3.1]; exact hq))
  exact h p e Rm s m args below meth cd H1 locs (cells + 1) (slots + N) Qw D aC o b A kt nt X1 ⟨r1, r2, by omega, by omega, r5, r6⟩ y1 y2 X5 X6
theorem h_newa_bool {x : Int32} {N : Nat} (hd : decode M.2.1 pc = .ok (.newarray .boolean, 2)) (hw : hW (.arrayClass .boolean)) (hx : x = nI N) (hN : Nat.ble N 100000 = true) (h : HV l M d k n (pc + 2) ls (.ref sh.length :: st) (sh ++ [(3, N)]) (clI I sh.length) (clJ J sh.length) (clR R sh.length) Q) : HV l M d (k + 1) (n + N) pc ls (.int x :: st) sh I J R Q := by
  intro p e Rm s m args below meth cd H locs cells slots Qw D aC o b A kt nt X1 X2 X3 X4 X5 X6
  have hN := Nat.le_of_ble_eq_true hN
  subst hx
  obtain ⟨r1, r2, r3, r4, r5, r6⟩ := X2
  refine va_newaK (atype := .boolean) (N := N) X1.1 X1.2.1 (X1.2.2.2.2.1 _ hw) rfl hd rfl (nI_pos (by omega)) (nI_clamp (by omega)) (by show N * 1 ≤ _; omega) (by omega) (by omega) X3.1 fun H1 cA e1 z1 o1 hAr hNm => ?_
  have hcA : cA = aC 3 := Option.some.inj (hNm.symm.trans (X1.2.2.2.2.2.2.1.2 3 (aC 3, .boolean) rfl).2)
  subst hcA
  obtain ⟨y1, y2⟩ := hz_new (z := (3, N)) X3 X4 (by
    show H1[o + sh.length]? = some (vp_cell _ _)
    rw [e1, vp_cell_i]
    congr 2
    funext j
    show _ = Value.int (clI _ _ _ _)
    simp [clI]
    rfl) (z1.trans (by rw [X3.1])) (fun q hq => o1 q (by rw [← X3.1]; exact hq))
  exact h p e Rm s m args below meth cd H1 locs (cells + 1) (slots + N) Qw D aC o b A kt nt X1 ⟨r1, r2, by omega, by omega, r5, r6⟩ y1 y2 X5 X6
theorem h_anewa {x : Int32} {idx N : Nat} (hd : decode M.2.1 pc = .ok (.anewarray idx, 3)) (hw : hW (.classLink M.1.cls idx "FarHeights$Thing")) (hx : x = nI N) (hN : Nat.ble N 100000 = true) (h : HV l M d k n (pc + 3) ls (.ref sh.length :: st) (sh ++ [(4, N)]) (clI I sh.length) (clJ J sh.length) (clR R sh.length) Q) : HV l M d (k + 1) (n + N) pc ls (.int x :: st) sh I J R Q := by
  intro p e Rm s m args below meth cd H locs cells slots Qw D aC o b A kt nt X1 X2 X3 X4 X5 X6
  have hN := Nat.le_of_ble_eq_true hN
  subst hx
  obtain ⟨r1, r2, r3, r4, r5, r6⟩ := X2
  have hcl : (nI N).toNatClampNeg = N := nI_clamp (by omega)
  refine W.anew X1.1 X1.2.1 X1.2.2.2.1 (X1.2.2.2.2.1 _ hw) (va_AO.use X1.2.2.2.2.2.2.2.1) rfl hd rfl (nI_pos (by omega)) (by rw [hcl]; omega) (by omega) (by rw [hcl]; omega) fun cA kA comp f1 f2 f3 f4 => ?_
  rw [hcl]
  obtain ⟨kA', comp', g1, g2, g3, g4⟩ := (X1.2.2.2.2.2.2.1.2 4 (aC 4, .object "FarHeights$Thing") rfl).2
  have hcA : cA = aC 4 := Option.some.inj (f1.symm.trans g4)
  subst hcA
  have hsz : (H.push ({ cls := aC 4, slots := Array.replicate N .null, vm := .none } : Cell)).size = H.size + 1 := by rw [Array.size_push]
  obtain ⟨y1, y2⟩ := hz_new (z := (4, N)) (H1 := H.push ({ cls := aC 4, slots := Array.replicate N .null, vm := .none } : Cell)) X3 X4 (by
    show (H.push _)[o + sh.length]? = some (vp_cell _ _)
    have hq : ∀ f : Nat → Option Nat, (∀ j, f j = none) → vp_cell (aC 4) (N, .inr (.inr (.inr (.inr f)))) = arrV (aC 4) N (fun _ => .null) := fun f hf => by
      rw [vp_cell_q]
      congr 1
      funext j
      rw [hf j]
      rfl
    refine Eq.trans ?_ (congrArg some (hq _ (fun j => by simp [clR])).symm)
    rw [← X3.1, Array.getElem?_push_size, ← arrV_new]) hsz (fun q hq => by rw [Array.getElem?_push, if_neg (Nat.ne_of_lt hq)])
  have := h p e Rm s m args below meth cd _ locs (cells + 1) (slots + N) Qw D aC o b A kt nt X1 ⟨r1, r2, by omega, by omega, r5, r6⟩ y1 y2 X5 X6
  rw [← hcl, X3.1]
  rw [← hcl] at this
  exact this
theorem h_aast {a N y c z : Nat} {i : Int32} {C : String} {T : u_T} {N' : Nat} (hd : decode M.2.1 pc = .ok (.aastore, 1)) (hs : sh[a]? = some (4, N)) (hy : sh[y]? = some (c + 5, z)) (hc : vwCl[c]? = some (C, T, N')) (hw : hW (.castable C "FarHeights$Thing")) (hi : vp_in i N) (h : HV l M d k n (pc + 1) ls st sh I J (upR R a i.toNatClampNeg (some y)) Q) : HV l M d k n pc ls (.ref y :: .int i :: .ref a :: st) sh I J R Q := by
  intro p e Rm s m args below meth cd H locs cells slots Qw D aC o b A kt nt X1 X2 X3 X4 X5 X6
  have hcl : H[o + a]? = some (vp_cell (aC 4) (N, .inr (.inr (.inr (.inr (fun j => (R a j).map (fun x => o + x))))))) := X3.2 a _ (hws_get hs)
  have hlt : i.toNatClampNeg < N := Nat.not_le.mp fun q => hi (Or.inr q)
  have h0 : ¬ i < 0 := fun q => hi (Or.inl q)
  obtain ⟨cellV, g1, g3, ⟨kC, hkC⟩, hasg⟩ := va_rAny (E := "FarHeights$Thing") X1.2.2.2.2.2.2.1 X3.2 (hws_get hy) hc (fun comp c0 q1 q2 => vb_asgC (va_Nw.of rfl (X1.2.2.2.2.1 _ hw)) comp c0 q1 q2)
  obtain ⟨kA, comp, k1, k2, k3, -⟩ := (X1.2.2.2.2.2.2.1.2 4 (aC 4, .object "FarHeights$Thing") rfl).2
  obtain ⟨kE, hkE, -⟩ := Vm.findClass_spec k3
  refine W.aast X1.1 X1.2.1 hcl (fun q h => by cases h) (fun h => by cases h) k1 k2 rfl hkE ⟨h0, by show _ < (arrV _ _ _).slots.size; rw [arrV_size]; exact hlt⟩ g1 (fun q h => by rw [h] at g3; cases g3) hkC (hasg _ k3) rfl rfl hd fun H1 e1 e2 e3 => ?_
  obtain ⟨y1, y2⟩ := hz_fin (i := i.toNatClampNeg) (I' := I) (J' := J) (R' := upR R a i.toNatClampNeg (some y)) X3 X4 hs (by
    show H1[o + a]? = some (vp_cell _ _)
    rw [e1, vp_cell_q, vp_cell_q, arrV_store]
    congr 2
    funext q
    rw [upR_s]
    by_cases hq : q = i.toNatClampNeg
    · subst hq
      simp [updV, va_up, va_rf]
    · simp [updV, va_up, hq]) e2 e3 (fun _ _ => rfl) (fun _ _ => rfl) (fun j hj => upR_n R _ _ hj)
  exact h p e Rm s m args below meth cd H1 _ cells slots Qw D aC o b A kt nt X1 X2 y1 y2 X5 X6
theorem h_blen {a N : Nat} {v : Int32} (hd : decode M.2.1 pc = .ok (.arraylength, 1)) (hs : sh[a]? = some (1, N)) (hv : Int32.ofNat N = v) (h : HV l M d k n (pc + 1) ls (.int v :: st) sh I J R Q) : HV l M d k n pc ls (.ref a :: st) sh I J R Q := by
  intro p e Rm s m args below meth cd H locs cells slots Qw D aC o b A kt nt X1 X2 X3 X4 X5 X6
  exact va_alen (x := (N, .inl (I a))) X1.1 X1.2.1 X1.2.2.2.2.2.2.1 X3.2 a 1 (hws_get hs) rfl hv hd (h p e Rm s m args below meth cd H locs cells slots Qw D aC o b A kt nt X1 X2 X3 X4 X5 X6)
theorem h_slen {x L : Nat} {xs : Nat → Int32} (hd : decode M.2.1 pc = .ok (.arraylength, 1)) (hM : M.2.2.2.2 = some (L, xs)) (h : HV l M d k n (pc + 1) ls (.int (Int32.ofNat L) :: st) sh I J R Q) : HV l M d k n pc ls (.retAddr x :: st) sh I J R Q := by
  intro p e Rm s m args below meth cd H locs cells slots Qw D aC o b A kt nt X1 X2 X3 X4 X5 X6
  obtain ⟨g1, g2⟩ := X1.2.2.2.2.2.2.2.2.2 L xs hM
  exact va_slen (A := hA o) X1.1 X1.2.1 g1 (Nat.lt_of_lt_of_le g2 X1.2.2.2.2.2.2.2.2.1) (Nat.not_le.mpr g2) X4 hd (h p e Rm s m args below meth cd H locs cells slots Qw D aC o b A kt nt X1 X2 X3 X4 X5 X6)
theorem h_sald {x L : Nat} {xs : Nat → Int32} {i : Int32} (hd : decode M.2.1 pc = .ok (.iaload, 1)) (hM : M.2.2.2.2 = some (L, xs)) (hi : vp_in i L) (h : HV l M d k n (pc + 1) ls (.int (xs i.toNatClampNeg) :: st) sh I J R Q) : HV l M d k n pc ls (.int i :: .retAddr x :: st) sh I J R Q := by
  intro p e Rm s m args below meth cd H locs cells slots Qw D aC o b A kt nt X1 X2 X3 X4 X5 X6
  obtain ⟨g1, g2⟩ := X1.2.2.2.2.2.2.2.2.2 L xs hM
  exact va_sld (A := hA o) X1.1 X1.2.1 g1 (Nat.lt_of_lt_of_le g2 X1.2.2.2.2.2.2.2.2.1) (Nat.not_le.mpr g2) X4 hi hd (h p e Rm s m args below meth cd H locs cells slots Qw D aC o b A kt nt X1 X2 X3 X4 X5 X6)
theorem h_mmax {x y : Int32} {idx : Nat} (hd : decode M.2.1 pc = .ok (.invokestatic idx, 3)) (w1 : hW (.methodLink M.1.cls idx Lib.Math.max.name)) (w2 : hW (.static Lib.Math.max.name)) (w3 : hW (.initialized "java/lang/Math")) (w4 : hW (.code Lib.Math.max.name Lib.Math.max.code 2 (some .int))) (hc : (st.map fun v => v.category).sum ≤ 8) (h : HV l M (d + 1) k n (pc + 3) ls (.int (if x < y then y else x) :: st) sh I J R Q) : HV l M (d + 1) k n pc ls (.int y :: .int x :: st) sh I J R Q := by
  intro p e Rm s m args below meth cd H locs cells slots Qw D aC o b A kt nt X1 X2 X3 X4 X5 X6
  obtain ⟨r1, r2, r3, r4, r5, r6⟩ := id X2
  exact va_mmax X1.1 X1.2.1 (X1.2.2.1.trans X5.1.symm) X1.2.2.2.1 (X1.2.2.2.2.1 _ w1) (X1.2.2.2.2.1 _ w2) (X1.2.2.2.2.1 _ w3) (X1.2.2.2.2.1 _ w4) (by omega) (by rw [htv_sum]; omega) (by omega) (by omega) hd (h p e Rm s m args below meth cd H locs cells slots Qw D aC o b A kt nt X1 X2 X3 X4 X5 X6)
theorem h_mmin {x y : Int32} {idx : Nat} (hd : decode M.2.1 pc = .ok (.invokestatic idx, 3)) (w1 : hW (.methodLink M.1.cls idx Lib.Math.min.name)) (w2 : hW (.static Lib.Math.min.name)) (w3 : hW (.initialized "java/lang/Math")) (w4 : hW (.code Lib.Math.min.name Lib.Math.min.code 2 (some .int))) (hc : (st.map fun v => v.category).sum ≤ 8) (h : HV l M (d + 1) k n (pc + 3) ls (.int (if y < x then y else x) :: st) sh I J R Q) : HV l M (d + 1) k n pc ls (.int y :: .int x :: st) sh I J R Q := by
  intro p e Rm s m args below meth cd H locs cells slots Qw D aC o b A kt nt X1 X2 X3 X4 X5 X6
  obtain ⟨r1, r2, r3, r4, r5, r6⟩ := id X2
  exact va_mmin X1.1 X1.2.1 (X1.2.2.1.trans X5.1.symm) X1.2.2.2.1 (X1.2.2.2.2.1 _ w1) (X1.2.2.2.2.1 _ w2) (X1.2.2.2.2.1 _ w3) (X1.2.2.2.2.1 _ w4) (by omega) (by rw [htv_sum]; omega) (by omega) (by omega) hd (h p e Rm s m args below meth cd H locs cells slots Qw D aC o b A kt nt X1 X2 X3 X4 X5 X6)
theorem h_mabs {x : Int32} {idx : Nat} (hd : decode M.2.1 pc = .ok (.invokestatic idx, 3)) (w1 : hW (.methodLink M.1.cls idx Lib.Math.abs.name)) (w2 : hW (.static Lib.Math.abs.name)) (w3 : hW (.initialized "java/lang/Math")) (w4 : hW (.code Lib.Math.abs.name Lib.Math.abs.code 1 (some .int))) (hc : (st.map fun v => v.category).sum ≤ 8) (h : HV l M (d + 1) k n (pc + 3) ls (.int (if 0 ≤ x then x else 0 - x) :: st) sh I J R Q) : HV l M (d + 1) k n pc ls (.int x :: st) sh I J R Q := by
  intro p e Rm s m args below meth cd H locs cells slots Qw D aC o b A kt nt X1 X2 X3 X4 X5 X6
  obtain ⟨r1, r2, r3, r4, r5, r6⟩ := id X2
  exact va_mabs X1.1 X1.2.1 (X1.2.2.1.trans X5.1.symm) X1.2.2.2.1 (X1.2.2.2.2.1 _ w1) (X1.2.2.2.2.1 _ w2) (X1.2.2.2.2.1 _ w3) (X1.2.2.2.2.1 _ w4) (by omega) (by rw [htv_sum]; omega) (by omega) (by omega) hd (h p e Rm s m args below meth cd H locs cells slots Qw D aC o b A kt nt X1 X2 X3 X4 X5 X6)
theorem h_oinit {x idx : Nat} (hd : decode M.2.1 pc = .ok (.invokespecial idx, 3)) (w1 : hW (.methodLink M.1.cls idx Lib.objectInit)) (w2 : hW (.instanceMethod Lib.objectInit)) (w3 : hW (.code Lib.objectInit ⟨#[0xb1]⟩ 1 none)) (hc : (st.map fun v => v.category).sum ≤ 8) (h : HV l M (d + 1) k n (pc + 3) ls st sh I J R Q) : HV l M (d + 1) k n pc ls (.ref x :: st) sh I J R Q := by
  intro p e Rm s m args below meth cd H locs cells slots Qw D aC o b A kt nt X1 X2 X3 X4 X5 X6
  obtain ⟨r1, r2, r3, r4, r5, r6⟩ := id X2
  exact W.objInit X1.1 X1.2.1 X1.2.2.2.1 (X1.2.2.2.2.1 _ w1) (X1.2.2.2.2.1 _ w2) (X1.2.2.2.2.1 _ w3) rfl (X5.1.trans X1.2.2.1.symm) rfl hd (by omega) (by show 2 * 0 + _ + 12 ≤ _; rw [htv_sum]; omega) (h p e Rm s m args below meth cd H locs cells slots Qw D aC o b A kt nt X1 X2 X3 X4 X5 X6)
theorem h_copy {a0 a1 n0 n1 idx N : Nat} {x0 x1 : Int32} {xn : Int32} (hd : decode M.2.1 pc = .ok (.invokestatic idx, 3)) (w1 : hW (.methodLink M.1.cls idx arraycopyName)) (w2 : hW (.native arraycopyName)) (w3 : hW (.static arraycopyName)) (w4 : hW (.initialized "java/lang/System")) (hs0 : sh[a0]? = some (0, n0)) (hs1 : sh[a1]? = some (0, n1)) (e0 : x0 = nI 0) (e1 : x1 = nI 0) (en : xn = nI N) (hN : Nat.ble N 100000 = true) (h4 : N ≤ n0) (h5 : N ≤ n1) (hc : (st.map fun v => v.category).sum ≤ 8) (h : HV l M (d + 1) k n (pc + 3) ls st sh (cpI I a0 a1 0 0 N) J R Q) : HV l M (d + 1) k n pc ls (.int xn :: .int x1 :: .ref a1 :: .int x0 :: .ref a0 :: st) sh I J R Q := by
  intro p e Rm s m args below meth cd H locs cells slots Qw D aC o b A kt nt X1 X2 X3 X4 X5 X6
  have hN := Nat.le_of_ble_eq_true hN
  subst e0; subst e1; subst en
  obtain ⟨r1, r2, r3, r4, r5, r6⟩ := id X2
  have hcN : (nI N).toNatClampNeg = N := nI_clamp (by omega)
  have hc0' : (nI 0).toNatClampNeg = 0 := nI_clamp (by omega)
  have i0 : (nI 0).toInt = 0 := nI_toInt (n := 0) (by omega)
  have iN : (nI N).toInt = (N : Int) := nI_toInt (by omega)
  intro T hT X
  have hc0 : H[o + a0]? = some (vp_cell (aC 0) (n0, .inl (I a0))) := X3.2 a0 _ (hws_get hs0)
  have hc1 : H[o + a1]? = some (vp_cell (aC 0) (n1, .inl (I a1))) := X3.2 a1 _ (hws_get hs1)
  obtain ⟨-, k0, hk0, cm0, hkk0⟩ := (X1.2.2.2.2.2.2.1.2 0 (aC 0, .int) rfl).1 n0 (fun j => .int (I a0 j))
  obtain ⟨-, k1, hk1, cm1, hkk1⟩ := (X1.2.2.2.2.2.2.1.2 0 (aC 0, .int) rfl).1 n1 (fun j => .int (I a1 j))
  obtain ⟨vm', X', step⟩ := X.arraycopy X1.1 X1.2.2.2.1 (X1.2.2.2.2.1 _ w1) (X1.2.2.2.2.1 _ w2) (X1.2.2.2.2.1 _ w3) (X1.2.2.2.2.1 _ w4) (src := o + a0) (dst := o + a1) (cs := vp_cell (aC 0) (n0, .inl (I a0))) (cd := vp_cell (aC 0) (n1, .inl (I a1))) (srcPos := nI 0) (destPos := nI 0) (n := nI N) (by rw [hT]; exact hc0) (by rw [hT]; exact hc1)
    (fun _ h => by cases h) (fun _ h => by cases h) (fun h => by cases h) (fun h => by cases h) hk0 hk1 hkk0 hkk1 (by simp [refKind]) (nI_pos (by omega)) (nI_pos (by omega)) (nI_pos (by omega))
    (by rw [i0, iN]; show ¬ _ > ((arrV (aC 0) n0 (fun j => .int (I a0 j))).slots.size : Int); rw [arrV_size]; omega)
    (by rw [i0, iN]; show ¬ _ > ((arrV (aC 0) n1 (fun j => .int (I a1 j))).slots.size : Int); rw [arrV_size]; omega)
    (fun vm₁ _ i hi => by
      rw [hcN] at hi
      rw [hc0']
      have e : (vp_cell (aC 0) (n0, .inl (I a0))).slots.getD (0 + i) .null = .int (I a0 (0 + i)) := by
        show (arrV (aC 0) n0 (fun j => .int (I a0 j))).slots.getD _ _ = _
        rw [Array.getD_eq_getD_getElem?, arrV_read _ _ (by omega)]
        rfl
      refine ⟨?_, ?_⟩
      · rw [e]; rfl
      · rw [e]; exact trivial)
    (g := F0 m pc A ((.int (nI N) :: .int (nI 0) :: .ref (o + a1) :: .int (nI 0) :: .ref (o + a0) :: st.map (htv o b)))) rfl (by rw [X1.2.2.1]; exact X5.1) (rest := st.map (htv o b)) rfl (by rw [X1.2.1]; exact hd) (by omega) (by show 2 * 0 + _ + (nativeFrameWords _ _ _ + 11) ≤ _; rw [htv_sum]; simp only [nativeFrameWords]; simp; omega)
  have ec : copied (vp_cell (aC 0) (n0, .inl (I a0))) (vp_cell (aC 0) (n1, .inl (I a1))) (nI 0) (nI 0) (nI N) = vp_cell (aC 0) (n1, .inl (va_cpy (I a0) (I a1) 0 0 N)) := by
    have e1 : copied (vp_cell (aC 0) (n0, .inl (I a0))) (vp_cell (aC 0) (n1, .inl (I a1))) (nI 0) (nI 0) (nI N) = vp_cell (aC 0) (n1, .inl (va_cpy (I a0) (I a1) (nI 0).toNatClampNeg (nI 0).toNatClampNeg (nI N).toNatClampNeg)) := va_copied (fun z => .int z) (aC 0) (aC 0) (I a0) (I a1) (by rw [hcN, hc0']; omega)
    rw [hcN, hc0'] at e1
    exact e1
  rw [ec] at X' step
  have hl : o + a1 < H.size := (Array.getElem?_eq_some_iff.mp hc1).1
  have oq : ∀ q : Nat, q ≠ o + a1 → (H.setIfInBounds (o + a1) (vp_cell (aC 0) (n1, .inl (va_cpy (I a0) (I a1) 0 0 N))))[q]? = H[q]? := fun q hq => by simp [Array.getElem?_setIfInBounds, Ne.symm hq]
  obtain ⟨y1, -⟩ := hz_fin (i := 0) (I' := cpI I a0 a1 0 0 N) (J' := J) (R' := R) (H1 := H.setIfInBounds (o + a1) (vp_cell (aC 0) (n1, .inl (va_cpy (I a0) (I a1) 0 0 N)))) X3 X4 hs1 (by
    show (H.setIfInBounds _ _)[o + a1]? = some (vp_cell _ (_, .inl (cpI I a0 a1 0 0 N a1)))
    simp [Array.getElem?_setIfInBounds, hl, cpI]) (by simp) oq (fun i hi => if_neg hi) (fun _ _ => rfl) (fun _ _ => rfl)
  refine (fun z => ⟨z.choose, step _ z.choose_spec.1, z.choose_spec.2⟩) (h p e Rm s m args below meth cd _ _ cells slots Qw D aC o b A kt nt X1 X2 y1 ?_ X5 X6 _ ?_ X')
  · refine ⟨by simp; exact X4.1, fun q g1 g2 => ?_, fun q hq => ?_⟩
    · rw [oq q (fun e => g2 (by rw [e]; exact Nat.le_add_right o a1))]
      exact X4.2.1 q g1 g2
    · rcases List.mem_append.mp hq with h | h
      · exact X4.2.2 q h
      · obtain ⟨z, -, hz⟩ := List.mem_map.mp h
        rw [← hz]
        exact Nat.le_add_right o a1
  · rw [← hT]; rfl
end HMAKE
