def hps : Option Value → List Value → List Value
  | some v, st => v :: st
  | none, st => st
theorem hps_map (o b : Nat) (r : Option Value) (st : List Value) : (r.map (htv o b)).toList ++ st.map (htv o b) = (hps r st).map (htv o b) := by cases r <;> rfl
def hen : List Value → hL
  | [] => []
  | .long v :: r => some (.long v) :: none :: hen r
  | .double v :: r => some (.double v) :: none :: hen r
  | v :: r => some v :: hen r
def hpad : Nat → hL → hL
  | 0, _ => []
  | n + 1, [] => none :: hpad n []
  | n + 1, x :: r => x :: hpad n r
theorem hpad_get : ∀ (n : Nat) (ls : hL) (i : Nat) (v : Value), (hpad n ls)[i]? = some (some v) → ls[i]? = some (some v)
  | 0, _, i, v, h => by simp [hpad] at h
  | n + 1, [], 0, v, h => by simp [hpad] at h
  | n + 1, [], i + 1, v, h => by
    have h1 : (hpad n [])[i]? = some (some v) := by simpa [hpad] using h
    have := hpad_get n [] i v h1
    simp at this
  | n + 1, x :: r, 0, v, h => by simpa [hpad] using h
  | n + 1, x :: r, i + 1, v, h => by
    have h1 : (hpad n r)[i]? = some (some v) := by simpa [hpad] using h
    have := hpad_get n r i v h1
    simpa using this
theorem hen_get (o b : Nat) : ∀ (As : List Value) (q i : Nat) (v : Value), (hen As)[i]? = some (some v) → (q + i, htv o b v) ∈ lv_args q (As.map (htv o b))
  | [], q, i, v, h => by simp [hen] at h
  | .long x :: r, q, 0, v, h => by cases h; exact List.mem_cons_self
  | .long x :: r, q, 1, v, h => by simp [hen] at h
  | .long x :: r, q, i + 2, v, h => by
    have h1 : (hen r)[i]? = some (some v) := by simpa [hen] using h
    have := hen_get o b r (q + 2) i v h1
    rw [show q + (i + 2) = q + 2 + i by omega]
    exact List.mem_cons_of_mem _ this
  | .double x :: r, q, 0, v, h => by cases h; exact List.mem_cons_self
  | .double x :: r, q, 1, v, h => by simp [hen] at h
  | .double x :: r, q, i + 2, v, h => by
    have h1 : (hen r)[i]? = some (some v) := by simpa [hen] using h
    have := hen_get o b r (q + 2) i v h1
    rw [show q + (i + 2) = q + 2 + i by omega]
    exact List.mem_cons_of_mem _ this
  | .int x :: r, q, 0, v, h => by cases h; exact List.mem_cons_self
  | .int x :: r, q, i + 1, v, h => by
    have h1 : (hen r)[i]? = some (some v) := by simpa [hen] using h
    have := hen_get o b r (q + 1) i v h1
    rw [show q + (i + 1) = q + 1 + i by omega]
    exact List.mem_cons_of_mem _ this
  | .float x :: r, q, 0, v, h => by cases h; exact List.mem_cons_self
  | .float x :: r, q, i + 1, v, h => by
    have h1 : (hen r)[i]? = some (some v) := by simpa [hen] using h
    have := hen_get o b r (q + 1) i v h1
    rw [show q + (i + 1) = q + 1 + i by omega]
    exact List.mem_cons_of_mem _ this
  | .null :: r, q, 0, v, h => by cases h; exact List.mem_cons_self
  | .null :: r, q, i + 1, v, h => by
    have h1 : (hen r)[i]? = some (some v) := by simpa [hen] using h
    have := hen_get o b r (q + 1) i v h1
    rw [show q + (i + 1) = q + 1 + i by omega]
    exact List.mem_cons_of_mem _ this
  | .ref x :: r, q, 0, v, h => by cases h; exact List.mem_cons_self
  | .ref x :: r, q, i + 1, v, h => by
    have h1 : (hen r)[i]? = some (some v) := by simpa [hen] using h
    have := hen_get o b r (q + 1) i v h1
    rw [show q + (i + 1) = q + 1 + i by omega]
    exact List.mem_cons_of_mem _ this
  | .retAddr x :: r, q, 0, v, h => by cases h; exact List.mem_cons_self
  | .retAddr x :: r, q, i + 1, v, h => by
    have h1 : (hen r)[i]? = some (some v) := by simpa [hen] using h
    have := hen_get o b r (q + 1) i v h1
    rw [show q + (i + 1) = q + 1 + i by omega]
    exact List.mem_cons_of_mem _ this
def hwid : List Value → Nat
  | [] => 0
  | v :: r => v.category + hwid r
theorem hwid_len (o b : Nat) : ∀ As : List Value, (lg_sl (As.map (htv o b))).length = hwid As
  | [] => rfl
  | v :: r => by
    have h := hwid_len o b r
    unfold lg_sl at h ⊢
    rw [List.map_cons, List.flatMap_cons, List.length_append, h, htv_cat]
    show _ = v.category + hwid r
    rcases lv_cat v with hv | hv <;> simp [hv]
theorem hKeep_warm {w : Cond} {s U : State} (hk : hKeep w = true) (hW : s.WarmedH U.vm) (h : va_Nw w s) : va_Nw w U := by
  cases w with
  | methodLinkNest a i x hst => exact va_Nw.warmM hW h
  | declares x => exact va_Nw.warmD hW h
  | castable a c => exact va_Nw.warmC hW h
  | _ => exact absurd hk (by simp [hKeep])
theorem hKeep_tab {w : Cond} (hk : hKeep w = true) : w.onTables = true := by
  cases w <;> first | rfl | (simp [hKeep] at hk)
theorem hAmb_of {args : Array Value} {s U : State} (h : ∀ w, hW w → w.before args s = true) (ha : va_AO "FarHeights$Thing" s) (hw : s.WarmedH U.vm) : hAmb U :=
  ⟨fun w hm hk => hKeep_warm hk hw (va_Nw.of (hKeep_tab hk) (h w ⟨hm, by rw [hk, Bool.or_true]⟩)), ha.moved hw.alike⟩
theorem hPc_blind (o b : Nat) (D : va_G) (aC : Nat → ClassId) (As : List Value) (sh : hS) (I : hI) (J : hJ) (R : hR) : FrameBlind (hPc o b D aC As sh I J R) := by
  intro a U g mk q
  obtain ⟨q0, q1, q2, q3, q4, q5⟩ := q
  exact ⟨q0, q1, q2, va_K.moved (u := U) (U := U.calling g mk a) (Vm.Alike.refl U.vm) q3, fun w hm hk => va_Nw.same (u := U) (U := U.calling g mk a) (hKeep_tab hk) rfl (q4 w hm hk), va_AO.moved (u := U) (U := U.calling g mk a) (Vm.Alike.refl U.vm) q5⟩
theorem hWs_good {M : hM} (h : hW (.code M.1 M.2.1 M.2.2.1 M.2.2.2.1)) : GoodIn hTb (hWs M) := by
  intro w hw
  rcases List.mem_cons.mp hw with rfl | hw
  · exact ⟨List.mem_filter.mpr ⟨h.1, rfl⟩, good_of_word rfl⟩
  · exact ⟨hw, good_of_word (List.mem_filter.mp hw).2⟩
/-- a method's contract out of a walk of its body -/
theorem HC.of {l : Launch} {M : hM} {d k n : Nat} {As : List Value} {sh : hS} {I : hI} {J : hJ} {R : hR} {Q : hQ} (hy : plainName M.1.cls = true) (hM : M.2.2.2.2 = none) (hwd : hwid As ≤ M.2.2.1) (h : HV l M d k n 0 (hpad M.2.2.1 (hen As)) [] sh I J R Q) : HC l M d k n As sh I J R Q := by
  intro D aC o b
  refine Met.ofW (cc := M.2.1) (maxL := M.2.2.1) (ret := M.2.2.2.1) hy rfl ?_
  intro p e s m args below meth c s₁ B hml hv
  obtain ⟨rfl, hsz, hHR, hK, hAm⟩ := hv
  have hts := atoms_spec (ws := hWs M) B.pre
  rw [lg_entry_eq]
  have hl := lv_entry (As.map (htv o b)) (n := M.2.2.1) (by rw [hwid_len]; exact hwd)
  refine h p e _ s m _ below meth c s.heap [] 0 0 _ D aC o b _ k n ⟨B.exec, B.bytes, hml, findClass_of_methodNamed B.named, fun w hw => ?_, (name_of_methodNamed B.named B.method).1, hK, hAm.2, hsz, fun L xs hx => ?_⟩ ⟨Nat.le_refl _, Nat.le_refl _, by omega, by omega, Nat.le_refl _, Nat.le_refl _⟩ hHR va_S.rf ⟨hl.1, hl.2.1, fun i v hi => ?_⟩ ?_
  · have h2 := hw.2
    rw [Bool.or_eq_true] at h2
    rcases h2 with h2 | h2
    · exact hts w (List.mem_cons_of_mem _ (List.mem_filter.mpr ⟨hw.1, h2⟩))
    · exact va_Nw.use (hKeep_tab h2) (hAm.1 w hw.1 h2)
  · rw [hM] at hx; cases hx
  · have := hen_get o b As 0 i v (hpad_get _ _ _ _ hi)
    rw [Nat.zero_add] at this
    exact hl.2.2 _ this
  · intro r sh' I' J' R' H' locs cells slots pc A ins hQ hH hS hc1 hc2 hd hI
    refine W.widen (k := k) (n := n) hc1 hc2 ?_
    have hq : ∀ t : State, t.heap = H' → s.WarmedH t.vm → hQc o b D aC Q ((As.map (htv o b)).toArray) s (.returned (r.map (htv o b))) t := fun t ht hw => ⟨⟨r, sh', I', J', R', rfl, hQ, by rw [ht]; exact hH⟩, hS.F ht⟩
    match r, hI with
    | none, ⟨e1, e2⟩ => subst e1; exact W.vret B.exec B.bytes (B.returns.trans e2) hq hS.2.2 hd
    | some (.int v), ⟨e1, ty, e2, e3⟩ => subst e1; exact W.zret B.exec B.bytes (B.returns.trans e2) e3 hq hS.2.2 hd
    | some (.long v), ⟨e1, e2⟩ => subst e1; exact W.lret B.exec B.bytes (B.returns.trans e2) hq hS.2.2 hd
    | some (.ref v), ⟨e1, C, e2⟩ => subst e1; exact W.aret B.exec B.bytes (B.returns.trans e2) (Or.inl ⟨C, rfl⟩) (Or.inr ⟨_, rfl⟩) hq hS.2.2 hd
    | some .null, ⟨e1, C, e2⟩ => subst e1; exact W.aret B.exec B.bytes (B.returns.trans e2) (Or.inl ⟨C, rfl⟩) (Or.inl rfl) hq hS.2.2 hd
theorem h_run {p : Program} {l : Launch} {e : Env} {Rm : Room} {s : State} {m : MethodId} {args : Array Value} {below : List Frame} {meth : Method} {c : Code} {H : Heap} {locs : List Loc} {cells slots mc ms pc o b : Nat} {Qw : State → Prop} {D : va_G} {aC : Nat → ClassId} {A : Array Slot} {st0 rest : List Value} {a : Array Value} {Q : hQ}
    (hr : va_Run p l e Rm s m args below meth c H locs cells slots mc ms (F0 m pc A st0) rest (hQc o b D aC Q a) (hA o)) (hSv : va_S (hA o) s.heap H locs)
    (kk : ∀ (r : Option Value) (sh : hS) (I : hI) (J : hJ) (R : hR) (H1 : Heap) (locs1 : List Loc), Q r sh I J R → hHR o D aC sh I J R H1 → va_S (hA o) s.heap H1 locs1 → W p l e Rm s m args below meth c H1 locs1 (cells + mc) (slots + ms) Qw (F0 m (pc + 3) A ((r.map (htv o b)).toList ++ rest))) : W p l e Rm s m args below meth c H locs cells slots Qw (F0 m pc A st0) := by
  intro T hT X
  obtain ⟨v, st₀, t, T', L, h0, X', hL, e1, e2, ⟨⟨r, sh, I, J, R, hv, hQ, hH⟩, hz, hk⟩, st⟩ := hr T hT X
  cases hv
  rw [h0] at hz hk
  obtain ⟨t2, a1, b1⟩ := kk r sh I J R T'.heap (locs ++ L) hQ (by rw [e1]; exact hH)
    ⟨Nat.le_trans hSv.1 (by rw [e1]; exact hz), fun q h1 h2 => by rw [e1, hk q (Nat.lt_of_lt_of_le h1 hSv.1) h2]; exact hSv.2.1 q h1 h2, fun q hq => by
      rcases List.mem_append.mp hq with h | h
      · exact hSv.2.2 q h
      · exact hL q h⟩ T' rfl X'
  exact ⟨t2, st t2 a1, b1⟩
def hOk (M : hM) (na : Nat) : Prop := hW (.code M.1 M.2.1 M.2.2.1 M.2.2.2.1) ∧ hW (.initialized M.1.cls) ∧ (M.1.cls ≠ "java/lang/invoke/MethodHandle" ∧ M.1.cls ≠ "java/lang/invoke/VarHandle" ∧ (parseMethodDescriptor M.1.desc).map (fun d => d.parameters.length) = some na) ∧ M.2.2.1 ≤ 40
def hOkS (M : hM) (na : Nat) : Prop := hOk M na ∧ hW (.static M.1)
def hOkV (M : hM) (na c : Nat) : Prop := hOk M na ∧ hW (.instanceMethod M.1) ∧ hW (.selects M.1.cls M.1 M.1) ∧ ∃ (T : u_T) (N : Nat), vwCl[c]? = some (M.1.cls, T, N)
section HCALLS
variable {l : Launch} {M M' : hM} {d k n k' n' pc idx na : Nat} {ls : hL} {st stk As : List Value} {sh : hS} {I : hI} {J : hJ} {R : hR} {Q : hQ}
theorem h_callS (hd : decode M.2.1 pc = .ok (.invokestatic idx, 3)) (hl : hW (.methodLink M.1.cls idx M'.1)) (hok : hOkS M' na) (hna : As.length = na) (hst : stk = As.reverse ++ st) (hc : (st.map fun v => v.category).sum ≤ 8) (h : HC l M' d k' n' As sh I J R (fun r sh' I' J' R' => HV l M (d + 1) k n (pc + 3) ls (hps r st) sh' I' J' R' Q)) : HV l M (d + 1) (k' + k) (n' + n) pc ls stk sh I J R Q := by
  intro p e Rm s m args below meth cd H locs cells slots Qw D aC o b A kt nt X1 X2 X3 X4 X5 X6
  obtain ⟨r1, r2, r3, r4, r5, r6⟩ := id X2
  have hts : ∀ w ∈ hTb, w.before args s = true := fun w hw => X1.2.2.2.2.1 w ⟨(List.mem_filter.mp hw).1, by rw [(List.mem_filter.mp hw).2]; rfl⟩
  have hR : (hRm d k' n').frames + 1 ≤ Rm.frames ∧ 8 + (M'.2.2.1 + 11) + (hRm d k' n').locals ≤ Rm.locals := ⟨r1, by have := hok.1.2.2.2; show 8 + (_ + 11) + 64 * d ≤ _; omega⟩
  have hpr : ∀ U : State, U.heap = H → s.WarmedH U.vm → hPc o b D aC (As) sh I J R ((As).map (htv o b)).toArray U := fun U hU hw => ⟨rfl, by rw [hU]; exact Nat.le_trans X1.2.2.2.2.2.2.2.2.1 X4.1, by rw [hU]; exact X3, va_K.moved hw.alike X1.2.2.2.2.2.2.1, hAmb_of X1.2.2.2.2.1 X1.2.2.2.2.2.2.2.1 hw⟩
  have hst' : stk.map (htv o b) = (As.map (htv o b)).reverse ++ st.map (htv o b) := by rw [hst]; simp [htv]
  rw [hst']
  exact h_run (va_runS (Ts := hTb) ⟨X1.1, X1.2.1, X1.2.2.1, X1.2.2.2.1, hts⟩ (h D aC o b) ⟨callB_of na hts (hWs_good hok.1.1) rfl rfl rfl (X1.2.2.2.2.1 _ hok.1.2.1) (X1.2.2.2.2.1 _ hl) hok.1.2.2.1 hR, X1.2.2.2.2.1 _ hok.2⟩ ⟨hPc_blind o b D aC _ sh I J R, hpr⟩ rfl (by rw [List.length_map]; exact hna) X5.1 rfl (lv_room (by rw [htv_sum]; exact hc)) hd ⟨by omega, by omega⟩) X4 (fun r sh' I' J' R' H1 locs1 q1 q2 q3 => by
    rw [hps_map]
    exact q1 p e Rm s m args below meth cd H1 locs1 (cells + k') (slots + n') Qw D aC o b A kt nt X1 ⟨r1, r2, by omega, by omega, r5, r6⟩ q2 q3 X5 X6)
theorem h_callSN {host : String} (hd : decode M.2.1 pc = .ok (.invokestatic idx, 3)) (hl : hW (.methodLinkNest M.1.cls idx M'.1 host)) (hok : hOkS M' na) (hna : As.length = na) (hst : stk = As.reverse ++ st) (hc : (st.map fun v => v.category).sum ≤ 8) (h : HC l M' d k' n' As sh I J R (fun r sh' I' J' R' => HV l M (d + 1) k n (pc + 3) ls (hps r st) sh' I' J' R' Q)) : HV l M (d + 1) (k' + k) (n' + n) pc ls stk sh I J R Q := by
  intro p e Rm s m args below meth cd H locs cells slots Qw D aC o b A kt nt X1 X2 X3 X4 X5 X6
  obtain ⟨r1, r2, r3, r4, r5, r6⟩ := id X2
  have hts : ∀ w ∈ hTb, w.before args s = true := fun w hw => X1.2.2.2.2.1 w ⟨(List.mem_filter.mp hw).1, by rw [(List.mem_filter.mp hw).2]; rfl⟩
  have hR : (hRm d k' n').frames + 1 ≤ Rm.frames ∧ 8 + (M'.2.2.1 + 11) + (hRm d k' n').locals ≤ Rm.locals := ⟨r1, by have := hok.1.2.2.2; show 8 + (_ + 11) + 64 * d ≤ _; omega⟩
  have hpr : ∀ U : State, U.heap = H → s.WarmedH U.vm → hPc o b D aC (As) sh I J R ((As).map (htv o b)).toArray U := fun U hU hw => ⟨rfl, by rw [hU]; exact Nat.le_trans X1.2.2.2.2.2.2.2.2.1 X4.1, by rw [hU]; exact X3, va_K.moved hw.alike X1.2.2.2.2.2.2.1, hAmb_of X1.2.2.2.2.1 X1.2.2.2.2.2.2.2.1 hw⟩
  have hst' : stk.map (htv o b) = (As.map (htv o b)).reverse ++ st.map (htv o b) := by rw [hst]; simp [htv]
  rw [hst']
  exact h_run (va_runSN (Ts := hTb) ⟨X1.1, X1.2.1, X1.2.2.1, X1.2.2.2.1, hts⟩ (h D aC o b) ⟨va_cnB na hts (hWs_good hok.1.1) rfl rfl rfl (va_Nw.of rfl (X1.2.2.2.2.1 _ hl)) (X1.2.2.2.2.1 _ hok.1.2.1) hok.1.2.2.1 hR, X1.2.2.2.2.1 _ hok.2, trivial⟩ ⟨hPc_blind o b D aC _ sh I J R, hpr⟩ rfl (by rw [List.length_map]; exact hna) X5.1 rfl (lv_room (by rw [htv_sum]; exact hc)) hd ⟨by omega, by omega⟩) X4 (fun r sh' I' J' R' H1 locs1 q1 q2 q3 => by
    rw [hps_map]
    exact q1 p e Rm s m args below meth cd H1 locs1 (cells + k') (slots + n') Qw D aC o b A kt nt X1 ⟨r1, r2, by omega, by omega, r5, r6⟩ q2 q3 X5 X6)
theorem h_callV {a c z : Nat} (hd : decode M.2.1 pc = .ok (.invokevirtual idx, 3)) (hl : hW (.methodLink M.1.cls idx M'.1)) (hok : hOkV M' na c) (hs : sh[a]? = some (c + 5, z)) (hna : As.length = na) (hst : stk = As.reverse ++ .ref a :: st) (hc : (st.map fun v => v.category).sum ≤ 8) (h : HC l M' d k' n' (.ref a :: As) sh I J R (fun r sh' I' J' R' => HV l M (d + 1) k n (pc + 3) ls (hps r st) sh' I' J' R' Q)) : HV l M (d + 1) (k' + k) (n' + n) pc ls stk sh I J R Q := by
  intro p e Rm s m args below meth cd H locs cells slots Qw D aC o b A kt nt X1 X2 X3 X4 X5 X6
  obtain ⟨r1, r2, r3, r4, r5, r6⟩ := id X2
  have hts : ∀ w ∈ hTb, w.before args s = true := fun w hw => X1.2.2.2.2.1 w ⟨(List.mem_filter.mp hw).1, by rw [(List.mem_filter.mp hw).2]; rfl⟩
  have hR : (hRm d k' n').frames + 1 ≤ Rm.frames ∧ 8 + (M'.2.2.1 + 11) + (hRm d k' n').locals ≤ Rm.locals := ⟨r1, by have := hok.1.2.2.2; show 8 + (_ + 11) + 64 * d ≤ _; omega⟩
  have hpr : ∀ U : State, U.heap = H → s.WarmedH U.vm → hPc o b D aC (.ref a :: As) sh I J R ((.ref a :: As).map (htv o b)).toArray U := fun U hU hw => ⟨rfl, by rw [hU]; exact Nat.le_trans X1.2.2.2.2.2.2.2.2.1 X4.1, by rw [hU]; exact X3, va_K.moved hw.alike X1.2.2.2.2.2.2.1, hAmb_of X1.2.2.2.2.1 X1.2.2.2.2.2.2.2.1 hw⟩
  have hst' : stk.map (htv o b) = (As.map (htv o b)).reverse ++ .ref (o + a) :: st.map (htv o b) := by rw [hst]; simp [htv]
  rw [hst']
  obtain ⟨T, N, hcl⟩ := hok.2.2.2
  exact h_run (va_runV (Ts := hTb) ⟨X1.1, X1.2.1, X1.2.2.1, X1.2.2.2.1, hts⟩ (h D aC o b) ⟨callB_of na hts (hWs_good hok.1.1) rfl rfl rfl (X1.2.2.2.2.1 _ hok.1.2.1) (X1.2.2.2.2.1 _ hl) hok.1.2.2.1 hR, X1.2.2.2.2.1 _ hok.2.1, X1.2.2.2.2.1 _ hok.2.2.1⟩ ⟨hPc_blind o b D aC _ sh I J R, va_recv X1.2.2.2.2.2.2.1 X3.2 hcl (hws_get hs), hpr⟩ rfl (by rw [List.length_map]; exact hna) X5.1 rfl (lv_room (by rw [htv_sum]; exact hc)) hd ⟨by omega, by omega⟩) X4 (fun r sh' I' J' R' H1 locs1 q1 q2 q3 => by
    rw [hps_map]
    exact q1 p e Rm s m args below meth cd H1 locs1 (cells + k') (slots + n') Qw D aC o b A kt nt X1 ⟨r1, r2, by omega, by omega, r5, r6⟩ q2 q3 X5 X6)
end HCALLS
