abbrev hI : Type := Nat → Nat → Int32
abbrev hJ : Type := Nat → Nat → Int64
abbrev hR : Type := Nat → Nat → Option Nat
abbrev hS : Type := List (Nat × Nat)
abbrev hL : Type := List (Option Value)
abbrev hM : Type := MethodName × ByteArray × Nat × Option FieldType × Option (Nat × (Nat → Int32))
abbrev hQ : Type := Option Value → hS → hI → hJ → hR → Prop
def hFT : Nat → List Nat
  | 0 => [0, 0, 0, 1, 3]
  | 1 => [0, 0, 0, 1, 3]
  | 2 => [0, 0, 0, 1, 3]
  | 3 => [0, 3, 3, 0, 3, 3, 3, 3, 0, 0, 0, 0, 0, 0]
  | 4 => [0, 0, 0, 1, 3]
  | 5 => [0, 3, 0, 3, 3, 3, 3, 3, 3, 3, 3]
  | 6 => [0, 0, 0, 1, 3]
  | 7 => [0, 0, 0, 1, 3]
  | 8 => [3, 3, 0, 3, 3, 0, 0, 3, 3, 3, 3, 3, 0, 3, 3, 3]
  | 9 => [3, 3, 3, 3, 1, 3, 3, 0, 3, 0, 3, 3, 3, 3, 3, 3, 3, 3]
  | 10 => [0, 3, 0, 3, 0, 3, 0, 0, 3, 0, 3, 3, 3, 3, 3, 3, 0, 0, 3, 3, 3, 3, 0, 0, 0, 0, 2, 0, 3, 3, 3, 3, 0, 0, 3, 3, 3, 0, 3, 3, 3, 3, 3, 3, 0, 0, 0, 3, 0, 1, 1, 3, 0, 3]
  | _ => []
def hvf (o : Nat) (I : hI) (J : hJ) (R : hR) (a j : Nat) : Nat → Value
  | 0 => .int (I a j)
  | 1 => .int (I a j)
  | 2 => .long (J a j)
  | _ => va_rf ((R a j).map (fun x => o + x))
def hfs (o : Nat) (I : hI) (J : hJ) (R : hR) (a : Nat) (ts : List Nat) : List Value := ts.mapIdx (fun j t => hvf o I J R a j t)
def hce (o : Nat) (aC : Nat → ClassId) (I : hI) (J : hJ) (R : hR) (a : Nat) (z : Nat × Nat) : va_E := match z.1 with
  | 0 => .inl (aC 0, z.2, .inl (I a))
  | 1 => .inl (aC 1, z.2, .inl (I a))
  | 2 => .inl (aC 2, z.2, .inr (.inl (J a)))
  | 3 => .inl (aC 3, z.2, .inl (I a))
  | 4 => .inl (aC 4, z.2, .inr (.inr (.inr (.inr (fun j => (R a j).map (fun x => o + x))))))
  | c + 5 => .inr (c, hfs o I J R a (hFT c))
def hws (o : Nat) (aC : Nat → ClassId) (sh : hS) (I : hI) (J : hJ) (R : hR) : va_W := sh.mapIdx (fun i z => (o + i, hce o aC I J R i z))
def hty (aC : Nat → ClassId) : List (ClassId × FieldType) := [(aC 0, .int), (aC 1, .byte), (aC 2, .long), (aC 3, .boolean), (aC 4, .object "FarHeights$Thing")]
def upI (I : hI) (a j : Nat) (v : Int32) : hI := fun x => if x = a then upd (I a) j v else I x
def upJ (J : hJ) (a j : Nat) (v : Int64) : hJ := fun x => if x = a then vp_updL (J a) j v else J x
def upR (R : hR) (a j : Nat) (v : Option Nat) : hR := fun x => if x = a then va_up (R a) j v else R x
def clI (I : hI) (a : Nat) : hI := fun x => if x = a then fun _ => 0 else I x
def clJ (J : hJ) (a : Nat) : hJ := fun x => if x = a then fun _ => 0 else J x
def clR (R : hR) (a : Nat) : hR := fun x => if x = a then fun _ => none else R x
def cpI (I : hI) (a0 a1 sp dp n : Nat) : hI := fun x => if x = a1 then va_cpy (I a0) (I a1) sp dp n else I x
def htv (o b : Nat) : Value → Value
  | .ref i => .ref (o + i)
  | .retAddr _ => .ref b
  | v => v
def hrv : Option Nat → Value
  | some x => .ref x
  | none => .null
def hHR (o : Nat) (D : va_G) (aC : Nat → ClassId) (sh : hS) (I : hI) (J : hJ) (R : hR) (H : Heap) : Prop := H.size = o + sh.length ∧ va_P D vwCl (hws o aC sh I J R) H
def hKeep : Cond → Bool
  | .methodLinkNest .. => true
  | .declares _ => true
  | .castable .. => true
  | _ => false
def hW (w : Cond) : Prop := w ∈ lw_tbl ∧ (goodWord w || hKeep w) = true
def hTb : List Cond := lw_tbl.filter goodWord
def hWs (M : hM) : List Cond := .code M.1 M.2.1 M.2.2.1 M.2.2.2.1 :: hTb
def hAmb (U : State) : Prop := (∀ w, w ∈ lw_tbl → hKeep w = true → va_Nw w U) ∧ va_AO "FarHeights$Thing" U
def hRm (d k n : Nat) : Room := { frames := d, cells := k, slots := n, locals := 64 * d }
def hlR (o b nL : Nat) (ls : hL) (A : Array Slot) : Prop := A.size = nL ∧ lv_wf A ∧ ∀ (i : Nat) (v : Value), ls[i]? = some (some v) → A[i]? = some (.val (htv o b v))
def hIns (ret : Option FieldType) (ins : Instr) : Option Value → Prop
  | none => ins = .return_ ∧ ret = none
  | some (.int v) => ins = .ireturn ∧ ∃ ty, ret = some ty ∧ narrow ty (.int v) = .int v
  | some (.long _) => ins = .lreturn ∧ ret = some .long
  | some (.ref _) => ins = .areturn ∧ ∃ n, ret = some (.object n)
  | some .null => ins = .areturn ∧ ∃ n, ret = some (.object n)
  | _ => False
def hA (o : Nat) : Nat → Prop := fun q => o ≤ q
def hCx (M : hM) (p : Program) (s : State) (m : MethodId) (args : Array Value) (meth : Method) (c : Code) (D : va_G) (aC : Nat → ClassId) (o b : Nat) : Prop :=
  p.tables.exec = Jvm.exec ∧ c.code = M.2.1 ∧ c.maxLocals = M.2.2.1 ∧ s.vm.findClass M.1.cls = some m.cls ∧ (∀ w, hW w → w.before args s = true) ∧ meth.name = M.1.name ∧ va_K D vwCl (hty aC) s ∧ va_AO "FarHeights$Thing" s ∧ o ≤ s.heap.size ∧ ∀ (L : Nat) (xs : Nat → Int32), M.2.2.2.2 = some (L, xs) → va_X b L xs s s.heap ∧ b < o
def hRo (Rm : Room) (d k n cells slots kt nt : Nat) : Prop := d ≤ Rm.frames ∧ 64 * d ≤ Rm.locals ∧ cells + k ≤ kt ∧ slots + n ≤ nt ∧ kt ≤ Rm.cells ∧ nt ≤ Rm.slots
def hRet (l : Launch) (M : hM) (Q : hQ) (p : Program) (e : Env) (Rm : Room) (s : State) (m : MethodId) (args : Array Value) (below : List Frame) (meth : Method) (c : Code) (Qw : State → Prop) (D : va_G) (aC : Nat → ClassId) (o b kt nt : Nat) : Prop :=
  ∀ (r : Option Value) (sh : hS) (I : hI) (J : hJ) (R : hR) (H : Heap) (locs : List Loc) (cells slots pc : Nat) (A : Array Slot) (ins : Instr), Q r sh I J R → hHR o D aC sh I J R H → va_S (hA o) s.heap H locs → cells ≤ kt → slots ≤ nt → decode M.2.1 pc = .ok (ins, 1) → hIns M.2.2.2.1 ins r → W p l e Rm s m args below meth c H locs cells slots Qw (F0 m pc A (r.toList.map (htv o b)))
/-- a point in a method: from here the machine comes to the method's end with Q -/
def HV (l : Launch) (M : hM) (d k n pc : Nat) (ls : hL) (st : List Value) (sh : hS) (I : hI) (J : hJ) (R : hR) (Q : hQ) : Prop :=
  ∀ (p : Program) (e : Env) (Rm : Room) (s : State) (m : MethodId) (args : Array Value) (below : List Frame) (meth : Method) (c : Code) (H : Heap) (locs : List Loc) (cells slots : Nat) (Qw : State → Prop) (D : va_G) (aC : Nat → ClassId) (o b : Nat) (A : Array Slot) (kt nt : Nat),
    hCx M p s m args meth c D aC o b → hRo Rm d k n cells slots kt nt → hHR o D aC sh I J R H → va_S (hA o) s.heap H locs → hlR o b M.2.2.1 ls A → hRet l M Q p e Rm s m args below meth c Qw D aC o b kt nt →
    W p l e Rm s m args below meth c H locs cells slots Qw (F0 m pc A (st.map (htv o b)))
def hQc (o b : Nat) (D : va_G) (aC : Nat → ClassId) (Q : hQ) : Array Value → State → Outcome → State → Prop := fun _ st oc t =>
  (∃ (r : Option Value) (sh : hS) (I : hI) (J : hJ) (R : hR), oc = .returned (r.map (htv o b)) ∧ Q r sh I J R ∧ hHR o D aC sh I J R t.heap) ∧ va_F (hA o) st t
def hPc (o b : Nat) (D : va_G) (aC : Nat → ClassId) (As : List Value) (sh : hS) (I : hI) (J : hJ) (R : hR) : Array Value → State → Prop := va_Pc (As.map (htv o b)) (fun U => o ≤ U.heap.size ∧ hHR o D aC sh I J R U.heap ∧ va_K D vwCl (hty aC) U ∧ hAmb U)
/-- a method's contract: called with As over the memory it returns, with Q -/
def HC (l : Launch) (M : hM) (d k n : Nat) (As : List Value) (sh : hS) (I : hI) (J : hJ) (R : hR) (Q : hQ) : Prop :=
  ∀ (D : va_G) (aC : Nat → ClassId) (o b : Nat), Met l M.1 (hWs M) (hRm d k n) (hPc o b D aC As sh I J R) (hQc o b D aC Q) k n (hA o)
theorem hws_get {o : Nat} {aC : Nat → ClassId} {sh : hS} {I : hI} {J : hJ} {R : hR} {a : Nat} {z : Nat × Nat} (h : sh[a]? = some z) : (hws o aC sh I J R)[a]? = some (o + a, hce o aC I J R a z) := by
  unfold hws
  rw [List.getElem?_mapIdx, h]
  rfl
theorem hws_inv {o : Nat} {aC : Nat → ClassId} {sh : hS} {I : hI} {J : hJ} {R : hR} {a : Nat} {q : Nat × va_E} (h : (hws o aC sh I J R)[a]? = some q) : q.1 = o + a := by
  unfold hws at h
  rw [List.getElem?_mapIdx] at h
  cases hz : sh[a]? with
  | none => rw [hz] at h; cases h
  | some z => rw [hz] at h; cases h; rfl
theorem hws_set {o : Nat} {aC : Nat → ClassId} {sh : hS} {I I' : hI} {J J' : hJ} {R R' : hR} {a : Nat} {z : Nat × Nat} (h : sh[a]? = some z) (hne : ∀ i z, i ≠ a → hce o aC I' J' R' i z = hce o aC I J R i z) : (hws o aC sh I J R).set a (o + a, hce o aC I' J' R' a z) = hws o aC sh I' J' R' := by
  apply List.ext_getElem?
  intro i
  have hlt : a < (hws o aC sh I J R).length := (List.getElem?_eq_some_iff.mp (hws_get h)).1
  by_cases hi : a = i
  · subst hi
    rw [List.getElem?_set_self hlt, hws_get h]
  · rw [List.getElem?_set_ne hi]
    unfold hws
    rw [List.getElem?_mapIdx, List.getElem?_mapIdx]
    cases sh[i]? with
    | none => rfl
    | some w => exact congrArg (fun x => some (o + i, x)) (hne i w (fun q => hi q.symm)).symm
theorem hws_push {o : Nat} {aC : Nat → ClassId} {sh : hS} {I I' : hI} {J J' : hJ} {R R' : hR} {z : Nat × Nat} (hne : ∀ i z, i < sh.length → hce o aC I' J' R' i z = hce o aC I J R i z) : hws o aC (sh ++ [z]) I' J' R' = hws o aC sh I J R ++ [(o + sh.length, hce o aC I' J' R' sh.length z)] := by
  apply List.ext_getElem?
  intro i
  have hlen : (hws o aC sh I J R).length = sh.length := by simp [hws]
  unfold hws at hlen ⊢
  rw [List.getElem?_mapIdx]
  by_cases hi : i < sh.length
  · rw [List.getElem?_append_left hi, List.getElem?_append_left (by rw [hlen]; exact hi), List.getElem?_mapIdx]
    cases sh[i]? with
    | none => rfl
    | some w => exact congrArg (fun x => some (o + i, x)) (hne i w hi)
  · rw [List.getElem?_append_right (by omega), List.getElem?_append_right (by rw [hlen]; omega), hlen]
    by_cases he : i = sh.length
    · subst he; simp
    · have : ¬ i - sh.length = 0 := by omega
      obtain ⟨r, hr⟩ : ∃ r, i - sh.length = r + 1 := ⟨i - sh.length - 1, by omega⟩
      rw [hr]; rfl
theorem hws_D {o : Nat} {aC : Nat → ClassId} {sh : hS} {I : hI} {J : hJ} {R : hR} : va_D (hA o) (hws o aC sh I J R) := by
  refine ⟨fun i j p q hp hq h => ?_, fun k q hq => ?_⟩
  · have h1 := hws_inv hp
    have h2 := hws_inv hq
    omega
  · have h1 := hws_inv hq
    show o ≤ q.1
    omega
theorem hfs_get {o : Nat} {I : hI} {J : hJ} {R : hR} {a j t : Nat} {ts : List Nat} (h : ts[j]? = some t) : (hfs o I J R a ts)[j]? = some (hvf o I J R a j t) := by
  unfold hfs
  rw [List.getElem?_mapIdx, h]
  rfl
theorem hfs_set {o : Nat} {I I' : hI} {J J' : hJ} {R R' : hR} {a j t : Nat} {ts : List Nat} {v : Value} (h : ts[j]? = some t) (hv : hvf o I' J' R' a j t = v) (hne : ∀ i t, i ≠ j → hvf o I' J' R' a i t = hvf o I J R a i t) : (hfs o I J R a ts).set j v = hfs o I' J' R' a ts := by
  apply List.ext_getElem?
  intro i
  have hlt : j < (hfs o I J R a ts).length := (List.getElem?_eq_some_iff.mp (hfs_get h)).1
  by_cases hi : j = i
  · subst hi
    rw [List.getElem?_set_self hlt, hfs_get h, hv]
  · rw [List.getElem?_set_ne hi]
    unfold hfs
    rw [List.getElem?_mapIdx, List.getElem?_mapIdx]
    cases ts[i]? with
    | none => rfl
    | some w => exact congrArg some (hne i w (fun q => hi q.symm)).symm
theorem upI_s (I : hI) (a j : Nat) (v : Int32) : upI I a j v a = upd (I a) j v := if_pos rfl
theorem upI_n (I : hI) {a x : Nat} (j : Nat) (v : Int32) (h : x ≠ a) : upI I a j v x = I x := if_neg h
theorem upJ_s (J : hJ) (a j : Nat) (v : Int64) : upJ J a j v a = vp_updL (J a) j v := if_pos rfl
theorem upJ_n (J : hJ) {a x : Nat} (j : Nat) (v : Int64) (h : x ≠ a) : upJ J a j v x = J x := if_neg h
theorem upR_s (R : hR) (a j : Nat) (v : Option Nat) : upR R a j v a = va_up (R a) j v := if_pos rfl
theorem upR_n (R : hR) {a x : Nat} (j : Nat) (v : Option Nat) (h : x ≠ a) : upR R a j v x = R x := if_neg h
theorem hvf_I {o : Nat} {I I' : hI} {J : hJ} {R : hR} {a : Nat} (h : ∀ j, I' a j = I a j) (j t : Nat) : hvf o I' J R a j t = hvf o I J R a j t := by
  match t with
  | 0 => show Value.int _ = _; rw [h]; rfl
  | 1 => show Value.int _ = _; rw [h]; rfl
  | 2 => rfl
  | _ + 3 => rfl
theorem hce_ne {o : Nat} {aC : Nat → ClassId} {I I' : hI} {J J' : hJ} {R R' : hR} {i : Nat} (h1 : I' i = I i) (h2 : J' i = J i) (h3 : R' i = R i) (z : Nat × Nat) : hce o aC I' J' R' i z = hce o aC I J R i z := by
  have hf : ∀ j t, hvf o I' J' R' i j t = hvf o I J R i j t := fun j t => by
    match t with
    | 0 => show Value.int (I' i j) = _; rw [h1]; rfl
    | 1 => show Value.int (I' i j) = _; rw [h1]; rfl
    | 2 => show Value.long (J' i j) = _; rw [h2]; rfl
    | _ + 3 => show va_rf ((R' i j).map _) = _; rw [h3]; rfl
  obtain ⟨z1, z2⟩ := z
  unfold hce
  match z1 with
  | 0 => simp only [h1]
  | 1 => simp only [h1]
  | 2 => simp only [h2]
  | 3 => simp only [h1]
  | 4 => simp only [h3]
  | c + 5 =>
    simp only [hfs]
    rw [show (fun j t => hvf o I' J' R' i j t) = (fun j t => hvf o I J R i j t) from funext fun j => funext fun t => hf j t]
theorem htv_rv (o b : Nat) (r : Option Nat) : htv o b (hrv r) = va_rf (r.map (fun x => o + x)) := by cases r <;> rfl
theorem htv_cat (o b : Nat) (v : Value) : (htv o b v).category = v.category := by cases v <;> rfl
theorem htv_sum (o b : Nat) (st : List Value) : ((st.map (htv o b)).map fun v => v.category).sum = (st.map fun v => v.category).sum := by
  induction st with
  | nil => rfl
  | cons v r ih => simp only [List.map_cons, List.sum_cons, ih, htv_cat]
