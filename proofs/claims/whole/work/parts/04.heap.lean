def hTy (t : Nat) (ty : FieldType) : Prop := match t with
  | 0 => ty = .int
  | 1 => ty = .boolean
  | 2 => ty = .long
  | _ => (∃ n, ty = .object n) ∨ ∃ u, ty = .array u
/-- a field's word: read by 'own' at idx, of class number c, its place j there, its type's number t -/
def hFl (own : String) (idx c j t : Nat) : Prop := ∃ (C : String) (T : u_T) (N : Nat) (ref : String), vwCl[c]? = some (C, T, N) ∧ (∀ w ∈ u_ws C T N, hW w) ∧ j < N ∧ (hFT c)[j]? = some t ∧ hW (.fieldLink own idx ref (T j).2.1 (T j).2.2.1) ∧ (ref = (T j).1 ∨ hW (.sameField ref (T j).1 (T j).2.1 (T j).2.2.1))
/-- what a store wants beside -/
def hFp (own : String) (c j t : Nat) (fin : Bool) : Prop := ∃ (C : String) (T : u_T) (N : Nat) (ty0 : Nat → FieldType) (ty : FieldType), vwCl[c]? = some (C, T, N) ∧ (∀ k, k < N → parseFieldDescriptor (T k).2.2.1 = some (ty0 k)) ∧ (∀ a, a < N → ∀ b, b < N → a ≠ b → (T a).2.1 ≠ (T b).2.1) ∧ (T j).2.2.2 = fin ∧ (fin = true → (T j).1 = own) ∧ parseFieldDescriptor (T j).2.2.1 = some ty ∧ hTy t ty
theorem hz_fin {o : Nat} {D : va_G} {aC : Nat → ClassId} {sh : hS} {I I' : hI} {J J' : hJ} {R R' : hR} {H H1 H0 : Heap} {locs : List Loc} {a i : Nat} {z : Nat × Nat} (X3 : hHR o D aC sh I J R H) (X4 : va_S (hA o) H0 H locs) (hs : sh[a]? = some z) (hat : va_at D vwCl (o + a, hce o aC I' J' R' a z) H1) (hz : H1.size = H.size) (oq : ∀ q, q ≠ o + a → H1[q]? = H[q]?)
    (h1 : ∀ i, i ≠ a → I' i = I i) (h2 : ∀ i, i ≠ a → J' i = J i) (h3 : ∀ i, i ≠ a → R' i = R i) : hHR o D aC sh I' J' R' H1 ∧ va_S (hA o) H0 H1 (locs ++ [⟨o + a, i⟩]) := by
  refine ⟨⟨hz.trans X3.1, ?_⟩, X4.put hz oq (Nat.le_add_right o a)⟩
  rw [← hws_set (I := I) (J := J) (R := R) hs (fun i z hi => hce_ne (h1 i hi) (h2 i hi) (h3 i hi) z)]
  exact X3.2.set hws_D (hws_get hs) hat oq
section HHEAP
variable {l : Launch} {M : hM} {d k n pc : Nat} {ls : hL} {st : List Value} {sh : hS} {I : hI} {J : hJ} {R : hR} {Q : hQ}
theorem h_get {idx c j t a z : Nat} {v : Value} (hd : decode M.2.1 pc = .ok (.getfield idx, 3)) (hf : hFl M.1.cls idx c j t) (hs : sh[a]? = some (c + 5, z)) (hv : ∀ o b, htv o b v = hvf o I J R a j t) (h : HV l M d k n (pc + 3) ls (v :: st) sh I J R Q) : HV l M d k n pc ls (.ref a :: st) sh I J R Q := by
  intro p e Rm s m args below meth cd H locs cells slots Qw D aC o b A kt nt X1 X2 X3 X4 X5 X6
  obtain ⟨C, T, N, ref, h1, h2, h3, h4, h5, h6⟩ := hf
  refine va_get (Ts := u_ws C T N) X1.1 X1.2.1 (fun w hw => X1.2.2.2.2.1 w (h2 w hw)) (fun w hw => hw) X1.2.2.2.1 X1.2.2.2.2.2.2.1 X3.2 a (hws_get hs) h1 j h3 (X1.2.2.2.2.1 _ h5) ?_ (hfs_get h4) hd ?_
  · rcases h6 with rfl | h6
    · exact fun x hx => hx
    · exact u_same (X1.2.2.2.2.1 _ h6)
  · rw [← hv o b]
    exact h p e Rm s m args below meth cd H locs cells slots Qw D aC o b A kt nt X1 X2 X3 X4 X5 X6
theorem h_getI {idx c j a z : Nat} {v : Int32} (hd : decode M.2.1 pc = .ok (.getfield idx, 3)) (hf : hFl M.1.cls idx c j 0) (hs : sh[a]? = some (c + 5, z)) (hv : I a j = v) (h : HV l M d k n (pc + 3) ls (.int v :: st) sh I J R Q) : HV l M d k n pc ls (.ref a :: st) sh I J R Q := h_get hd hf hs (fun _ _ => by rw [← hv]; rfl) h
theorem h_getZ {idx c j a z : Nat} {v : Int32} (hd : decode M.2.1 pc = .ok (.getfield idx, 3)) (hf : hFl M.1.cls idx c j 1) (hs : sh[a]? = some (c + 5, z)) (hv : I a j = v) (h : HV l M d k n (pc + 3) ls (.int v :: st) sh I J R Q) : HV l M d k n pc ls (.ref a :: st) sh I J R Q := h_get hd hf hs (fun _ _ => by rw [← hv]; rfl) h
theorem h_getL {idx c j a z : Nat} {v : Int64} (hd : decode M.2.1 pc = .ok (.getfield idx, 3)) (hf : hFl M.1.cls idx c j 2) (hs : sh[a]? = some (c + 5, z)) (hv : J a j = v) (h : HV l M d k n (pc + 3) ls (.long v :: st) sh I J R Q) : HV l M d k n pc ls (.ref a :: st) sh I J R Q := h_get hd hf hs (fun _ _ => by rw [← hv]; rfl) h
theorem h_getR {idx c j a z x : Nat} (hd : decode M.2.1 pc = .ok (.getfield idx, 3)) (hf : hFl M.1.cls idx c j 3) (hs : sh[a]? = some (c + 5, z)) (hv : R a j = some x) (h : HV l M d k n (pc + 3) ls (.ref x :: st) sh I J R Q) : HV l M d k n pc ls (.ref a :: st) sh I J R Q := h_get hd hf hs (fun _ _ => by show _ = va_rf ((R a j).map _); rw [hv]; rfl) h
theorem h_getN {idx c j a z : Nat} (hd : decode M.2.1 pc = .ok (.getfield idx, 3)) (hf : hFl M.1.cls idx c j 3) (hs : sh[a]? = some (c + 5, z)) (hv : R a j = none) (h : HV l M d k n (pc + 3) ls (.null :: st) sh I J R Q) : HV l M d k n pc ls (.ref a :: st) sh I J R Q := h_get hd hf hs (fun _ _ => by show _ = va_rf ((R a j).map _); rw [hv]; rfl) h
theorem h_put {idx c j t a z : Nat} {fin : Bool} {v : Value} {I' : hI} {J' : hJ} {R' : hR} (hd : decode M.2.1 pc = .ok (.putfield idx, 3)) (hf : hFl M.1.cls idx c j t) (hp : hFp M.1.cls c j t fin) (hfin : fin = true → M.1.name = "<init>") (hs : sh[a]? = some (c + 5, z))
    (hn : ∀ ty, hTy t ty → ∀ o b, narrow ty (htv o b v) = htv o b v ∧ fits ty (htv o b v) = true) (hv : ∀ o b, hvf o I' J' R' a j t = htv o b v) (hne : ∀ o i t, i ≠ j → hvf o I' J' R' a i t = hvf o I J R a i t) (h1 : ∀ i, i ≠ a → I' i = I i) (h2 : ∀ i, i ≠ a → J' i = J i) (h3 : ∀ i, i ≠ a → R' i = R i)
    (h : HV l M d k n (pc + 3) ls st sh I' J' R' Q) : HV l M d k n pc ls (v :: .ref a :: st) sh I J R Q := by
  intro p e Rm s m args below meth cd H locs cells slots Qw D aC o b A kt nt X1 X2 X3 X4 X5 X6
  obtain ⟨C, T, N, ref, f1, f2, f3, f4, f5, f6⟩ := hf
  obtain ⟨C', T', N', ty0, ty, g1, g2, g3, g4, g5, g6, g7⟩ := hp
  cases f1.symm.trans g1
  have hts : ∀ w ∈ u_ws C T N, w.before args s = true := fun w hw => X1.2.2.2.2.1 w (f2 w hw)
  have hK := X1.2.2.2.2.2.2.1
  have hsame : ∀ x, s.fieldFound? (T j).1 (T j).2.1 (T j).2.2.1 = some x → s.fieldFound? ref (T j).2.1 (T j).2.2.1 = some x := by
    rcases f6 with rfl | f6
    · exact fun x hx => hx
    · exact u_same (X1.2.2.2.2.1 _ f6)
  have hap := va_apart (own := M.1.cls) hts (fun w hw => hw) ty0 g2 g3 hK f1
  have hl : j < (hfs o I J R a (hFT c)).length := (List.getElem?_eq_some_iff.mp (hfs_get f4)).1
  obtain ⟨r, e1, cell, q1, q2, q3, q4⟩ := X3.2 a _ (hws_get hs)
  have hr : r = (C, T, N) := Option.some.inj (e1.symm.trans f1)
  subst hr
  obtain ⟨hS, hfc, kC, hkC, hkind⟩ := hK.1 c _ f1
  obtain ⟨cf, kf, fi, f, hi, hsl⟩ := hS j f3
  have hlay := hts _ (u_in_lay f3)
  unfold u_lay at hlay
  have hst := (u_facts hfc hkC (u_lays hts (fun w hw => hw) f3) hi).1
  obtain ⟨n1, n2⟩ := hn ty g7 o b
  have kk : ∀ (H1 : Heap), H1[o + a]? = some (cell.setSlot f.slot (htv o b v)) → H1.size = H.size → (∀ q, q ≠ o + a → H1[q]? = H[q]?) → W p l e Rm s m args below meth cd H1 (locs ++ [⟨o + a, f.slot⟩]) cells slots Qw (F0 m (pc + 3) A (st.map (htv o b))) := by
    intro H1 x1 x2 x3
    rw [hsl] at x1
    have hat : va_at D vwCl (o + a, hce o aC I' J' R' a (c + 5, z)) H1 := by
      refine ⟨_, f1, t_OB.to (V := updV (vp_V (hfs o I J R a (hFT c))) j (htv o b v)) ⟨_, x1, q2, q3, t_set q4 hap f3 _⟩ (fun i _ => ?_)⟩
      rw [vp_updV_set hl]
      rw [hfs_set f4 (hv o b) (hne o)]
    obtain ⟨y1, y2⟩ := hz_fin (i := f.slot) X3 X4 hs hat x2 x3 h1 h2 h3
    exact h p e Rm s m args below meth cd H1 _ cells slots Qw D aC o b A kt nt X1 X2 y1 y2 X5 X6
  cases fin with
  | false =>
    rw [if_neg (by rw [g4]; decide)] at hlay
    have h6 := u_store hfc hkC hkind hlay hi g6 n1 n2
    exact W.putK X1.1 X1.2.1 (f := f) ⟨X1.2.2.2.1, X1.2.2.2.2.1 _ f5, ⟨_, _, _, hsame _ hi⟩, hst⟩ (by rw [q2]; exact h6) q1 q3 (by rw [hsl]; exact k2_hasslot (q4 j f3)) rfl rfl hd kk
  | true =>
    rw [if_pos g4] at hlay
    have hcf : m.cls = cf := by
      obtain ⟨_, _, c', _, _, _, -, -, hf', -, -, -, hown2, -⟩ := Cond.laysFinal_spec hlay
      have e1 : c' = cf := by have := hi.symm.trans hf'; simp at this; exact this.1.symm
      rw [g5 rfl] at hown2
      rw [← e1]; exact Option.some.inj (X1.2.2.2.1.symm.trans hown2)
    have h6 := u_fits hfc hkC hkind (Or.inr hlay) hi g6 n1 n2
    exact W.putFinK X1.1 X1.2.1 X1.2.2.2.1 (X1.2.2.2.2.1 _ f5) (hsame _ hi) hst hcf (X1.2.2.2.2.2.1.trans (hfin rfl)) (by rw [q2]; exact h6) q1 q3 (by rw [hsl]; exact k2_hasslot (q4 j f3)) rfl rfl hd kk
theorem h_putI {idx c j a z : Nat} {fin : Bool} {x : Int32} (hd : decode M.2.1 pc = .ok (.putfield idx, 3)) (hf : hFl M.1.cls idx c j 0) (hp : hFp M.1.cls c j 0 fin) (hfin : fin = true → M.1.name = "<init>") (hs : sh[a]? = some (c + 5, z)) (h : HV l M d k n (pc + 3) ls st sh (upI I a j x) J R Q) : HV l M d k n pc ls (.int x :: .ref a :: st) sh I J R Q := by
  refine h_put (fin := fin) (t := 0) hd hf hp hfin hs (fun ty hty o b => ?_) (fun o b => ?_) (fun o i t hi => by match t with | 0 => show Value.int (upI I a j x a i) = _; rw [upI_s]; simp [upd, hi, hvf] | 1 => show Value.int (upI I a j x a i) = _; rw [upI_s]; simp [upd, hi, hvf] | 2 => rfl | _ + 3 => rfl) (fun i hi => upI_n I j x hi) (fun _ _ => rfl) (fun _ _ => rfl) h
  · have e : ty = .int := hty
    subst e
    exact ⟨rfl, rfl⟩
  · show Value.int (upI I a j x a j) = _
    rw [upI_s]; simp [upd, htv]
theorem h_putZ {idx c j a z : Nat} {fin : Bool} {x : Int32} (hd : decode M.2.1 pc = .ok (.putfield idx, 3)) (hf : hFl M.1.cls idx c j 1) (hp : hFp M.1.cls c j 1 fin) (hfin : fin = true → M.1.name = "<init>") (hs : sh[a]? = some (c + 5, z)) (hx : x = 0 ∨ x = 1) (h : HV l M d k n (pc + 3) ls st sh (upI I a j x) J R Q) : HV l M d k n pc ls (.int x :: .ref a :: st) sh I J R Q := by
  refine h_put (fin := fin) (t := 1) hd hf hp hfin hs (fun ty hty o b => ?_) (fun o b => ?_) (fun o i t hi => by match t with | 0 => show Value.int (upI I a j x a i) = _; rw [upI_s]; simp [upd, hi, hvf] | 1 => show Value.int (upI I a j x a i) = _; rw [upI_s]; simp [upd, hi, hvf] | 2 => rfl | _ + 3 => rfl) (fun i hi => upI_n I j x hi) (fun _ _ => rfl) (fun _ _ => rfl) h
  · have e : ty = .boolean := hty
    subst e
    rcases hx with rfl | rfl <;> exact ⟨rfl, rfl⟩
  · show Value.int (upI I a j x a j) = _
    rw [upI_s]; simp [upd, htv]
theorem h_putL {idx c j a z : Nat} {fin : Bool} {x : Int64} (hd : decode M.2.1 pc = .ok (.putfield idx, 3)) (hf : hFl M.1.cls idx c j 2) (hp : hFp M.1.cls c j 2 fin) (hfin : fin = true → M.1.name = "<init>") (hs : sh[a]? = some (c + 5, z)) (h : HV l M d k n (pc + 3) ls st sh I (upJ J a j x) R Q) : HV l M d k n pc ls (.long x :: .ref a :: st) sh I J R Q := by
  refine h_put (fin := fin) (t := 2) hd hf hp hfin hs (fun ty hty o b => ?_) (fun o b => ?_) (fun o i t hi => by match t with | 0 => rfl | 1 => rfl | 2 => show Value.long (upJ J a j x a i) = _; rw [upJ_s]; simp [vp_updL, hi, hvf] | _ + 3 => rfl) (fun _ _ => rfl) (fun i hi => upJ_n J j x hi) (fun _ _ => rfl) h
  · have e : ty = .long := hty
    subst e
    exact ⟨rfl, rfl⟩
  · show Value.long (upJ J a j x a j) = _
    rw [upJ_s]; simp [vp_updL, htv]
theorem h_putR {idx c j a z : Nat} {fin : Bool} {x : Nat} (hd : decode M.2.1 pc = .ok (.putfield idx, 3)) (hf : hFl M.1.cls idx c j 3) (hp : hFp M.1.cls c j 3 fin) (hfin : fin = true → M.1.name = "<init>") (hs : sh[a]? = some (c + 5, z)) (h : HV l M d k n (pc + 3) ls st sh I J (upR R a j (some x)) Q) : HV l M d k n pc ls (.ref x :: .ref a :: st) sh I J R Q := by
  refine h_put (fin := fin) (t := 3) hd hf hp hfin hs (fun ty hty o b => ?_) (fun o b => ?_) (fun o i t hi => by match t with | 0 => rfl | 1 => rfl | 2 => rfl | _ + 3 => show va_rf ((upR R a j (some x) a i).map _) = _; rw [upR_s]; simp [va_up, hi, hvf]) (fun _ _ => rfl) (fun _ _ => rfl) (fun i hi => upR_n R j (some x) hi) h
  · rcases hty with ⟨n, rfl⟩ | ⟨u, rfl⟩ <;> exact ⟨rfl, rfl⟩
  · show va_rf ((upR R a j (some x) a j).map _) = _
    rw [upR_s]; simp [va_up, htv, va_rf]
theorem h_putN {idx c j a z : Nat} {fin : Bool} (hd : decode M.2.1 pc = .ok (.putfield idx, 3)) (hf : hFl M.1.cls idx c j 3) (hp : hFp M.1.cls c j 3 fin) (hfin : fin = true → M.1.name = "<init>") (hs : sh[a]? = some (c + 5, z)) (h : HV l M d k n (pc + 3) ls st sh I J (upR R a j none) Q) : HV l M d k n pc ls (.null :: .ref a :: st) sh I J R Q := by
  refine h_put (fin := fin) (t := 3) hd hf hp hfin hs (fun ty hty o b => ?_) (fun o b => ?_) (fun o i t hi => by match t with | 0 => rfl | 1 => rfl | 2 => rfl | _ + 3 => show va_rf ((upR R a j none a i).map _) = _; rw [upR_s]; simp [va_up, hi, hvf]) (fun _ _ => rfl) (fun _ _ => rfl) (fun i hi => upR_n R j none hi) h
  · rcases hty with ⟨n, rfl⟩ | ⟨u, rfl⟩ <;> exact ⟨rfl, rfl⟩
  · show va_rf ((upR R a j none a j).map _) = _
    rw [upR_s]; simp [va_up, htv, va_rf]
theorem h_iald {a N : Nat} {i : Int32} (hd : decode M.2.1 pc = .ok (.iaload, 1)) (hs : sh[a]? = some (0, N)) (hi : vp_in i N) (h : HV l M d k n (pc + 1) ls (.int (I a i.toNatClampNeg) :: st) sh I J R Q) : HV l M d k n pc ls (.int i :: .ref a :: st) sh I J R Q := by
  intro p e Rm s m args below meth cd H locs cells slots Qw D aC o b A kt nt X1 X2 X3 X4 X5 X6
  exact va_iald X1.1 X1.2.1 X1.2.2.2.2.2.2.1 X3.2 a 0 (hws_get hs) rfl hi hd (h p e Rm s m args below meth cd H locs cells slots Qw D aC o b A kt nt X1 X2 X3 X4 X5 X6)
theorem h_ialdN {a N j : Nat} {i : Int32} {v : Int32} (hd : decode M.2.1 pc = .ok (.iaload, 1)) (hs : sh[a]? = some (0, N)) (hi : i = nI j) (hj : j < N) (hN : Nat.ble N 2147483647 = true) (hv : I a j = v) (h : HV l M d k n (pc + 1) ls (.int v :: st) sh I J R Q) : HV l M d k n pc ls (.int i :: .ref a :: st) sh I J R Q := by
  have hN := Nat.le_of_ble_eq_true hN
  subst hi
  refine h_iald hd hs (vp_in_nI hj (by omega)) ?_
  rw [nI_clamp (by omega), hv]
  exact h
theorem h_bald {a N : Nat} {i : Int32} (hd : decode M.2.1 pc = .ok (.baload, 1)) (hs : sh[a]? = some (1, N)) (hi : vp_in i N) (h : HV l M d k n (pc + 1) ls (.int (I a i.toNatClampNeg) :: st) sh I J R Q) : HV l M d k n pc ls (.int i :: .ref a :: st) sh I J R Q := by
  intro p e Rm s m args below meth cd H locs cells slots Qw D aC o b A kt nt X1 X2 X3 X4 X5 X6
  exact va_bald X1.1 X1.2.1 X1.2.2.2.2.2.2.1 X3.2 a 1 (hws_get hs) rfl hi hd (h p e Rm s m args below meth cd H locs cells slots Qw D aC o b A kt nt X1 X2 X3 X4 X5 X6)
theorem h_baldN {a N j : Nat} {i : Int32} {v : Int32} (hd : decode M.2.1 pc = .ok (.baload, 1)) (hs : sh[a]? = some (1, N)) (hi : i = nI j) (hj : j < N) (hN : Nat.ble N 2147483647 = true) (hv : I a j = v) (h : HV l M d k n (pc + 1) ls (.int v :: st) sh I J R Q) : HV l M d k n pc ls (.int i :: .ref a :: st) sh I J R Q := by
  have hN := Nat.le_of_ble_eq_true hN
  subst hi
  refine h_bald hd hs (vp_in_nI hj (by omega)) ?_
  rw [nI_clamp (by omega), hv]
  exact h
theorem h_zald {a N : Nat} {i : Int32} (hd : decode M.2.1 pc = .ok (.baload, 1)) (hs : sh[a]? = some (3, N)) (hi : vp_in i N) (h : HV l M d k n (pc + 1) ls (.int (I a i.toNatClampNeg) :: st) sh I J R Q) : HV l M d k n pc ls (.int i :: .ref a :: st) sh I J R Q := by
  intro p e Rm s m args below meth cd H locs cells slots Qw D aC o b A kt nt X1 X2 X3 X4 X5 X6
  exact va_zald X1.1 X1.2.1 X1.2.2.2.2.2.2.1 X3.2 a 3 (hws_get hs) rfl hi hd (h p e Rm s m args below meth cd H locs cells slots Qw D aC o b A kt nt X1 X2 X3 X4 X5 X6)
theorem h_zaldN {a N j : Nat} {i : Int32} {v : Int32} (hd : decode M.2.1 pc = .ok (.baload, 1)) (hs : sh[a]? = some (3, N)) (hi : i = nI j) (hj : j < N) (hN : Nat.ble N 2147483647 = true) (hv : I a j = v) (h : HV l M d k n (pc + 1) ls (.int v :: st) sh I J R Q) : HV l M d k n pc ls (.int i :: .ref a :: st) sh I J R Q := by
  have hN := Nat.le_of_ble_eq_true hN
  subst hi
  refine h_zald hd hs (vp_in_nI hj (by omega)) ?_
  rw [nI_clamp (by omega), hv]
  exact h
theorem h_lald {a N : Nat} {i : Int32} (hd : decode M.2.1 pc = .ok (.laload, 1)) (hs : sh[a]? = some (2, N)) (hi : vp_in i N) (h : HV l M d k n (pc + 1) ls (.long (J a i.toNatClampNeg) :: st) sh I J R Q) : HV l M d k n pc ls (.int i :: .ref a :: st) sh I J R Q := by
  intro p e Rm s m args below meth cd H locs cells slots Qw D aC o b A kt nt X1 X2 X3 X4 X5 X6
  exact va_lald X1.1 X1.2.1 X1.2.2.2.2.2.2.1 X3.2 a 2 (hws_get hs) rfl hi hd (h p e Rm s m args below meth cd H locs cells slots Qw D aC o b A kt nt X1 X2 X3 X4 X5 X6)
theorem h_laldN {a N j : Nat} {i : Int32} {v : Int64} (hd : decode M.2.1 pc = .ok (.laload, 1)) (hs : sh[a]? = some (2, N)) (hi : i = nI j) (hj : j < N) (hN : Nat.ble N 2147483647 = true) (hv : J a j = v) (h : HV l M d k n (pc + 1) ls (.long v :: st) sh I J R Q) : HV l M d k n pc ls (.int i :: .ref a :: st) sh I J R Q := by
  have hN := Nat.le_of_ble_eq_true hN
  subst hi
  refine h_lald hd hs (vp_in_nI hj (by omega)) ?_
  rw [nI_clamp (by omega), hv]
  exact h
theorem h_aald {a N : Nat} {i : Int32} {v : Value} (hd : decode M.2.1 pc = .ok (.aaload, 1)) (hs : sh[a]? = some (4, N)) (hi : vp_in i N) (hv : hrv (R a i.toNatClampNeg) = v) (h : HV l M d k n (pc + 1) ls (v :: st) sh I J R Q) : HV l M d k n pc ls (.int i :: .ref a :: st) sh I J R Q := by
  intro p e Rm s m args below meth cd H locs cells slots Qw D aC o b A kt nt X1 X2 X3 X4 X5 X6
  refine va_aldq X1.1 X1.2.1 X1.2.2.2.2.2.2.1 X3.2 a 4 (hws_get hs) rfl hi hd ?_
  have ee : va_rf ((R a i.toNatClampNeg).map fun x => o + x) = htv o b v := by rw [← hv, htv_rv]
  rw [ee]
  exact h p e Rm s m args below meth cd H locs cells slots Qw D aC o b A kt nt X1 X2 X3 X4 X5 X6
theorem h_iast {a N : Nat} {i : Int32} {x : Int32} (hd : decode M.2.1 pc = .ok (.iastore, 1)) (hs : sh[a]? = some (0, N)) (hi : vp_in i N) (h : HV l M d k n (pc + 1) ls st sh (upI I a i.toNatClampNeg x) J R Q) : HV l M d k n pc ls (.int x :: .int i :: .ref a :: st) sh I J R Q := by
  intro p e Rm s m args below meth cd H locs cells slots Qw D aC o b A kt nt X1 X2 X3 X4 X5 X6
  have hcl : H[o + a]? = some (vp_cell (aC 0) (N, .inl (I a))) := X3.2 a _ (hws_get hs)
  refine W.iast X1.1 X1.2.1 hcl ((X1.2.2.2.2.2.2.1.2 0 (aC 0, .int) rfl).1 N (fun j => .int (I a j))) (fun q => by cases q) (by show ¬ (i < 0 ∨ (arrV _ _ _).slots.size ≤ _); rw [arrV_size]; exact hi) rfl rfl hd fun H1 e1 e2 e3 => ?_
  obtain ⟨y1, y2⟩ := hz_fin (i := i.toNatClampNeg) (I' := (upI I a i.toNatClampNeg x)) (J' := J) (R' := R) X3 X4 hs (by
    show H1[o + a]? = some (vp_cell _ _)
    rw [e1, vp_cell_i, vp_cell_i, arrV_store]
    congr 2
    funext q
    rw [upI_s]
    by_cases hq : q = i.toNatClampNeg
    · subst hq
      simp [updV, upd]
    · simp [updV, upd, hq]) e2 e3 (fun j hj => upI_n I _ _ hj) (fun _ _ => rfl) (fun _ _ => rfl)
  exact h p e Rm s m args below meth cd H1 _ cells slots Qw D aC o b A kt nt X1 X2 y1 y2 X5 X6
theorem h_iastN {a N j : Nat} {i : Int32} {x : Int32} (hd : decode M.2.1 pc = .ok (.iastore, 1)) (hs : sh[a]? = some (0, N)) (hi : i = nI j) (hj : j < N) (hN : Nat.ble N 2147483647 = true) (h : HV l M d k n (pc + 1) ls st sh (upI I a j x) J R Q) : HV l M d k n pc ls (.int x :: .int i :: .ref a :: st) sh I J R Q := by
  have hN := Nat.le_of_ble_eq_true hN
  subst hi
  refine h_iast hd hs (vp_in_nI hj (by omega)) ?_
  rw [nI_clamp (by omega)]
  exact h
theorem h_bast {a N : Nat} {i : Int32} {x : Int32} (hd : decode M.2.1 pc = .ok (.bastore, 1)) (hs : sh[a]? = some (1, N)) (hi : vp_in i N) (h : HV l M d k n (pc + 1) ls st sh (upI I a i.toNatClampNeg x.toInt8.toInt32) J R Q) : HV l M d k n pc ls (.int x :: .int i :: .ref a :: st) sh I J R Q := by
  intro p e Rm s m args below meth cd H locs cells slots Qw D aC o b A kt nt X1 X2 X3 X4 X5 X6
  have hcl : H[o + a]? = some (vp_cell (aC 1) (N, .inl (I a))) := X3.2 a _ (hws_get hs)
  refine W.bast X1.1 X1.2.1 hcl ((X1.2.2.2.2.2.2.1.2 1 (aC 1, .byte) rfl).1 N (fun j => .int (I a j))) (fun q => by cases q) (by show ¬ (i < 0 ∨ (arrV _ _ _).slots.size ≤ _); rw [arrV_size]; exact hi) rfl rfl hd fun H1 e1 e2 e3 => ?_
  obtain ⟨y1, y2⟩ := hz_fin (i := i.toNatClampNeg) (I' := (upI I a i.toNatClampNeg x.toInt8.toInt32)) (J' := J) (R' := R) X3 X4 hs (by
    show H1[o + a]? = some (vp_cell _ _)
    rw [e1, vp_cell_i, vp_cell_i, arrV_store]
    congr 2
    funext q
    rw [upI_s]
    by_cases hq : q = i.toNatClampNeg
    · subst hq
      simp [updV, upd, narrow]
    · simp [updV, upd, narrow, hq]) e2 e3 (fun j hj => upI_n I _ _ hj) (fun _ _ => rfl) (fun _ _ => rfl)
  exact h p e Rm s m args below meth cd H1 _ cells slots Qw D aC o b A kt nt X1 X2 y1 y2 X5 X6
theorem h_bastN {a N j : Nat} {i : Int32} {x : Int32} (hd : decode M.2.1 pc = .ok (.bastore, 1)) (hs : sh[a]? = some (1, N)) (hi : i = nI j) (hj : j < N) (hN : Nat.ble N 2147483647 = true) (h : HV l M d k n (pc + 1) ls st sh (upI I a j x.toInt8.toInt32) J R Q) : HV l M d k n pc ls (.int x :: .int i :: .ref a :: st) sh I J R Q := by
  have hN := Nat.le_of_ble_eq_true hN
  subst hi
  refine h_bast hd hs (vp_in_nI hj (by omega)) ?_
  rw [nI_clamp (by omega)]
  exact h
theorem h_zast {a N : Nat} {i : Int32} {x : Int32} (hd : decode M.2.1 pc = .ok (.bastore, 1)) (hs : sh[a]? = some (3, N)) (hi : vp_in i N) (h : HV l M d k n (pc + 1) ls st sh (upI I a i.toNatClampNeg (vp_nar .boolean x)) J R Q) : HV l M d k n pc ls (.int x :: .int i :: .ref a :: st) sh I J R Q := by
  intro p e Rm s m args below meth cd H locs cells slots Qw D aC o b A kt nt X1 X2 X3 X4 X5 X6
  have hcl : H[o + a]? = some (vp_cell (aC 3) (N, .inl (I a))) := X3.2 a _ (hws_get hs)
  refine W.zast X1.1 X1.2.1 hcl ((X1.2.2.2.2.2.2.1.2 3 (aC 3, .boolean) rfl).1 N (fun j => .int (I a j))) (fun q => by cases q) (by show ¬ (i < 0 ∨ (arrV _ _ _).slots.size ≤ _); rw [arrV_size]; exact hi) rfl rfl hd fun H1 e1 e2 e3 => ?_
  obtain ⟨y1, y2⟩ := hz_fin (i := i.toNatClampNeg) (I' := (upI I a i.toNatClampNeg (vp_nar .boolean x))) (J' := J) (R' := R) X3 X4 hs (by
    show H1[o + a]? = some (vp_cell _ _)
    rw [e1, vp_cell_i, vp_cell_i, arrV_store]
    congr 2
    funext q
    rw [upI_s]
    by_cases hq : q = i.toNatClampNeg
    · subst hq
      simp [updV, upd, vp_nar, narrow]
    · simp [updV, upd, vp_nar, narrow, hq]) e2 e3 (fun j hj => upI_n I _ _ hj) (fun _ _ => rfl) (fun _ _ => rfl)
  exact h p e Rm s m args below meth cd H1 _ cells slots Qw D aC o b A kt nt X1 X2 y1 y2 X5 X6
theorem h_zastN {a N j : Nat} {i : Int32} {x : Int32} (hd : decode M.2.1 pc = .ok (.bastore, 1)) (hs : sh[a]? = some (3, N)) (hi : i = nI j) (hj : j < N) (hN : Nat.ble N 2147483647 = true) (h : HV l M d k n (pc + 1) ls st sh (upI I a j (vp_nar .boolean x)) J R Q) : HV l M d k n pc ls (.int x :: .int i :: .ref a :: st) sh I J R Q := by
  have hN := Nat.le_of_ble_eq_true hN
  subst hi
  refine h_zast hd hs (vp_in_nI hj (by omega)) ?_
  rw [nI_clamp (by omega)]
  exact h
theorem h_last {a N : Nat} {i : Int32} {x : Int64} (hd : decode M.2.1 pc = .ok (.lastore, 1)) (hs : sh[a]? = some (2, N)) (hi : vp_in i N) (h : HV l M d k n (pc + 1) ls st sh I (upJ J a i.toNatClampNeg x) R Q) : HV l M d k n pc ls (.long x :: .int i :: .ref a :: st) sh I J R Q := by
  intro p e Rm s m args below meth cd H locs cells slots Qw D aC o b A kt nt X1 X2 X3 X4 X5 X6
  have hcl : H[o + a]? = some (vp_cell (aC 2) (N, .inr (.inl (J a)))) := X3.2 a _ (hws_get hs)
  refine W.last X1.1 X1.2.1 hcl ((X1.2.2.2.2.2.2.1.2 2 (aC 2, .long) rfl).1 N (fun j => .long (J a j))) (fun q => by cases q) (by show ¬ (i < 0 ∨ (arrV _ _ _).slots.size ≤ _); rw [arrV_size]; exact hi) rfl rfl hd fun H1 e1 e2 e3 => ?_
  obtain ⟨y1, y2⟩ := hz_fin (i := i.toNatClampNeg) (I' := I) (J' := (upJ J a i.toNatClampNeg x)) (R' := R) X3 X4 hs (by
    show H1[o + a]? = some (vp_cell _ _)
    rw [e1, vp_cell_l, vp_cell_l, arrV_store]
    congr 2
    funext q
    rw [upJ_s]
    by_cases hq : q = i.toNatClampNeg
    · subst hq
      simp [updV, vp_updL]
    · simp [updV, vp_updL, hq]) e2 e3 (fun _ _ => rfl) (fun j hj => upJ_n J _ _ hj) (fun _ _ => rfl)
  exact h p e Rm s m args below meth cd H1 _ cells slots Qw D aC o b A kt nt X1 X2 y1 y2 X5 X6
theorem h_lastN {a N j : Nat} {i : Int32} {x : Int64} (hd : decode M.2.1 pc = .ok (.lastore, 1)) (hs : sh[a]? = some (2, N)) (hi : i = nI j) (hj : j < N) (hN : Nat.ble N 2147483647 = true) (h : HV l M d k n (pc + 1) ls st sh I (upJ J a j x) R Q) : HV l M d k n pc ls (.long x :: .int i :: .ref a :: st) sh I J R Q := by
  have hN := Nat.le_of_ble_eq_true hN
  subst hi
  refine h_last hd hs (vp_in_nI hj (by omega)) ?_
  rw [nI_clamp (by omega)]
  exact h
end HHEAP
