def hkil : Option Value → Option Value
  | some (.long _) => none
  | some (.double _) => none
  | x => x
def hst1 : hL → Nat → Value → hL
  | [], _, _ => []
  | _ :: r, 0, v => some v :: r
  | x :: r, 1, v => hkil x :: hst1 r 0 v
  | x :: r, i + 2, v => x :: hst1 r (i + 1) v
def hst2 : hL → Nat → Value → hL
  | [], _, _ => []
  | [_], 0, v => [some v]
  | _ :: _ :: r, 0, v => some v :: none :: r
  | x :: r, 1, v => hkil x :: hst2 r 0 v
  | x :: r, i + 2, v => x :: hst2 r (i + 1) v
theorem hkil_get {x : Option Value} {w : Value} (h : hkil x = some w) : x = some w ∧ ¬ w.category = 2 := by
  match x, h with
  | some (.int _), h => cases h; exact ⟨rfl, by show ¬ (1 = 2); decide⟩
  | some (.float _), h => cases h; exact ⟨rfl, by show ¬ (1 = 2); decide⟩
  | some .null, h => cases h; exact ⟨rfl, by show ¬ (1 = 2); decide⟩
  | some (.ref _), h => cases h; exact ⟨rfl, by show ¬ (1 = 2); decide⟩
  | some (.retAddr _), h => cases h; exact ⟨rfl, by show ¬ (1 = 2); decide⟩
theorem hst1_get : ∀ (ls : hL) (i j : Nat) (v w : Value), (hst1 ls i v)[j]? = some (some w) → (j = i ∧ w = v) ∨ (j ≠ i ∧ ls[j]? = some (some w) ∧ ¬ (j + 1 = i ∧ w.category = 2))
  | [], i, j, v, w, h => by simp [hst1] at h
  | x :: r, 0, 0, v, w, h => by left; simp [hst1] at h; exact ⟨rfl, h.symm⟩
  | x :: r, 0, j + 1, v, w, h => by right; simp [hst1] at h; exact ⟨by omega, by simpa using h, by omega⟩
  | x :: r, 1, 0, v, w, h => by
    right
    have h1 : hkil x = some w := by simpa [hst1] using h
    exact ⟨by omega, by simp [(hkil_get h1).1], fun q => (hkil_get h1).2 q.2⟩
  | x :: r, 1, j + 1, v, w, h => by
    have h1 : (hst1 r 0 v)[j]? = some (some w) := by simpa [hst1] using h
    rcases hst1_get r 0 j v w h1 with ⟨q1, q2⟩ | ⟨q1, q2, q3⟩
    · left; exact ⟨by omega, q2⟩
    · right; exact ⟨by omega, by simpa using q2, fun q => by omega⟩
  | x :: r, i + 2, 0, v, w, h => by right; simp [hst1] at h; exact ⟨by omega, by simpa using h, by omega⟩
  | x :: r, i + 2, j + 1, v, w, h => by
    have h1 : (hst1 r (i + 1) v)[j]? = some (some w) := by simpa [hst1] using h
    rcases hst1_get r (i + 1) j v w h1 with ⟨q1, q2⟩ | ⟨q1, q2, q3⟩
    · left; exact ⟨by omega, q2⟩
    · right; exact ⟨by omega, by simpa using q2, fun q => q3 ⟨by omega, q.2⟩⟩
theorem hst2_get : ∀ (ls : hL) (i j : Nat) (v w : Value), (hst2 ls i v)[j]? = some (some w) → (j = i ∧ w = v) ∨ (j ≠ i ∧ j ≠ i + 1 ∧ ls[j]? = some (some w) ∧ ¬ (j + 1 = i ∧ w.category = 2))
  | [], i, j, v, w, h => by simp [hst2] at h
  | [x], 0, 0, v, w, h => by left; simp [hst2] at h; exact ⟨rfl, h.symm⟩
  | [x], 0, j + 1, v, w, h => by simp [hst2] at h
  | x :: y :: r, 0, 0, v, w, h => by left; simp [hst2] at h; exact ⟨rfl, h.symm⟩
  | x :: y :: r, 0, 1, v, w, h => by simp [hst2] at h
  | x :: y :: r, 0, j + 2, v, w, h => by right; simp [hst2] at h; exact ⟨by omega, by omega, by simpa using h, by omega⟩
  | x :: r, 1, 0, v, w, h => by
    right
    have h1 : hkil x = some w := by simpa [hst2] using h
    exact ⟨by omega, by omega, by simp [(hkil_get h1).1], fun q => (hkil_get h1).2 q.2⟩
  | x :: r, 1, j + 1, v, w, h => by
    have h1 : (hst2 r 0 v)[j]? = some (some w) := by simpa [hst2] using h
    rcases hst2_get r 0 j v w h1 with ⟨q1, q2⟩ | ⟨q1, q2, q3, q4⟩
    · left; exact ⟨by omega, q2⟩
    · right; exact ⟨by omega, by omega, by simpa using q3, fun q => by omega⟩
  | x :: r, i + 2, 0, v, w, h => by right; simp [hst2] at h; exact ⟨by omega, by omega, by simpa using h, by omega⟩
  | x :: r, i + 2, j + 1, v, w, h => by
    have h1 : (hst2 r (i + 1) v)[j]? = some (some w) := by simpa [hst2] using h
    rcases hst2_get r (i + 1) j v w h1 with ⟨q1, q2⟩ | ⟨q1, q2, q3, q4⟩
    · left; exact ⟨by omega, q2⟩
    · right; exact ⟨by omega, by omega, by simpa using q3, fun q => q4 ⟨by omega, q.2⟩⟩
def hpr (o b : Nat) (ls : hL) : List (Nat × Value) := (List.range ls.length).filterMap (fun j => match ls[j]? with | some (some v) => some (j, htv o b v) | _ => none)
theorem hpr_in {o b : Nat} {ls : hL} {j : Nat} {v : Value} (h : ls[j]? = some (some v)) : (j, htv o b v) ∈ hpr o b ls := by
  unfold hpr
  refine List.mem_filterMap.mpr ⟨j, List.mem_range.mpr (List.getElem?_eq_some_iff.mp h).1, ?_⟩
  rw [h]
theorem hpr_out {o b : Nat} {ls : hL} {q : Nat × Value} (h : q ∈ hpr o b ls) : ∃ v, ls[q.1]? = some (some v) ∧ q.2 = htv o b v := by
  unfold hpr at h
  obtain ⟨j, -, hj⟩ := List.mem_filterMap.mp h
  match hq : ls[j]?, hj with
  | some (some v), hj => cases hj; exact ⟨v, hq, rfl⟩
  | some none, hj => cases hj
  | none, hj => cases hj
theorem hlR_has {o b nL : Nat} {ls : hL} {A : Array Slot} (h : hlR o b nL ls A) : lv_has A nL (hpr o b ls) := ⟨h.1, h.2.1, fun q hq => by obtain ⟨v, h1, h2⟩ := hpr_out hq; rw [h2]; exact h.2.2 _ _ h1⟩
theorem hlR_st1 {o b nL i : Nat} {ls : hL} {A : Array Slot} {v : Value} (h : lv_has A nL ((i, htv o b v) :: (hpr o b ls).filter (fun q => !(q.1 == i) && !(q.1 + 1 == i && q.2.category == 2)))) : hlR o b nL (hst1 ls i v) A := by
  refine ⟨h.1, h.2.1, fun j w hj => ?_⟩
  rcases hst1_get ls i j v w hj with ⟨q1, q2⟩ | ⟨q1, q2, q3⟩
  · subst q1; subst q2; exact h.2.2 (j, htv o b w) List.mem_cons_self
  · refine h.2.2 (j, htv o b w) (List.mem_cons_of_mem _ (List.mem_filter.mpr ⟨hpr_in q2, ?_⟩))
    have : ¬ (j + 1 = i ∧ (htv o b w).category = 2) := by rw [htv_cat]; exact q3
    simp only [Bool.and_eq_true, Bool.not_eq_true', beq_eq_false_iff_ne, ne_eq, Bool.and_eq_false_iff]
    refine ⟨q1, ?_⟩
    by_cases e : j + 1 = i
    · right; exact fun z => this ⟨e, z⟩
    · left; exact e
theorem hlR_st2 {o b nL i : Nat} {ls : hL} {A : Array Slot} {v : Value} (h : lv_has A nL ((i, htv o b v) :: (hpr o b ls).filter (fun q => !(q.1 == i) && (!(q.1 == i + 1) && !(q.1 + 1 == i && q.2.category == 2))))) : hlR o b nL (hst2 ls i v) A := by
  refine ⟨h.1, h.2.1, fun j w hj => ?_⟩
  rcases hst2_get ls i j v w hj with ⟨q1, q2⟩ | ⟨q1, q2, q3, q4⟩
  · subst q1; subst q2; exact h.2.2 (j, htv o b w) List.mem_cons_self
  · refine h.2.2 (j, htv o b w) (List.mem_cons_of_mem _ (List.mem_filter.mpr ⟨hpr_in q3, ?_⟩))
    have : ¬ (j + 1 = i ∧ (htv o b w).category = 2) := by rw [htv_cat]; exact q4
    simp only [Bool.and_eq_true, Bool.not_eq_true', beq_eq_false_iff_ne, ne_eq, Bool.and_eq_false_iff]
    refine ⟨q1, q2, ?_⟩
    by_cases e : j + 1 = i
    · right; exact fun z => this ⟨e, z⟩
    · left; exact e
section HROWS
variable {l : Launch} {M : hM} {d k n pc : Nat} {ls : hL} {st : List Value} {sh : hS} {I : hI} {J : hJ} {R : hR} {Q : hQ}
theorem h_iconst {q : Int} {v : Int32} (hd : decode M.2.1 pc = .ok (.iconst q, 1)) (hv : Int32.ofInt q = v) (h : HV l M d k n (pc + 1) ls (.int v :: st) sh I J R Q) : HV l M d k n pc ls st sh I J R Q := by
  intro p e Rm s m args below meth c H locs cells slots Qw D aC o b A kt nt X1 X2 X3 X4 X5 X6
  exact lv_iconst X1.1 X1.2.1 hd hv (h p e Rm s m args below meth c H locs cells slots Qw D aC o b A kt nt X1 X2 X3 X4 X5 X6)
theorem h_bipush {q : Int} {v : Int32} (hd : decode M.2.1 pc = .ok (.bipush q, 2)) (hv : (Int8.ofInt q).toInt32 = v) (h : HV l M d k n (pc + 2) ls (.int v :: st) sh I J R Q) : HV l M d k n pc ls st sh I J R Q := by
  intro p e Rm s m args below meth c H locs cells slots Qw D aC o b A kt nt X1 X2 X3 X4 X5 X6
  exact lv_bipush X1.1 X1.2.1 hd hv (h p e Rm s m args below meth c H locs cells slots Qw D aC o b A kt nt X1 X2 X3 X4 X5 X6)
theorem h_sipush {q : Int} {v : Int32} (hd : decode M.2.1 pc = .ok (.sipush q, 3)) (hv : (Int16.ofInt q).toInt32 = v) (h : HV l M d k n (pc + 3) ls (.int v :: st) sh I J R Q) : HV l M d k n pc ls st sh I J R Q := by
  intro p e Rm s m args below meth c H locs cells slots Qw D aC o b A kt nt X1 X2 X3 X4 X5 X6
  exact lv_sipush X1.1 X1.2.1 hd hv (h p e Rm s m args below meth c H locs cells slots Qw D aC o b A kt nt X1 X2 X3 X4 X5 X6)
theorem h_lconst {q : Fin 2} {v : Int64} (hd : decode M.2.1 pc = .ok (.lconst q, 1)) (hv : Int64.ofNat (q : Nat) = v) (h : HV l M d k n (pc + 1) ls (.long v :: st) sh I J R Q) : HV l M d k n pc ls st sh I J R Q := by
  intro p e Rm s m args below meth c H locs cells slots Qw D aC o b A kt nt X1 X2 X3 X4 X5 X6
  exact lv_lconst X1.1 X1.2.1 hd hv (h p e Rm s m args below meth c H locs cells slots Qw D aC o b A kt nt X1 X2 X3 X4 X5 X6)
theorem h_null (hd : decode M.2.1 pc = .ok (.aconst_null, 1)) (h : HV l M d k n (pc + 1) ls (.null :: st) sh I J R Q) : HV l M d k n pc ls st sh I J R Q := by
  intro p e Rm s m args below meth c H locs cells slots Qw D aC o b A kt nt X1 X2 X3 X4 X5 X6
  exact lv_null X1.1 X1.2.1 hd (h p e Rm s m args below meth c H locs cells slots Qw D aC o b A kt nt X1 X2 X3 X4 X5 X6)
theorem h_ldc {idx : Nat} {v : Int32} (hd : decode M.2.1 pc = .ok (.ldc idx, 2)) (hw : hW (.constant M.1.cls idx v)) (h : HV l M d k n (pc + 2) ls (.int v :: st) sh I J R Q) : HV l M d k n pc ls st sh I J R Q := by
  intro p e Rm s m args below meth c H locs cells slots Qw D aC o b A kt nt X1 X2 X3 X4 X5 X6
  exact lv_ldc X1.1 X1.2.1 X1.2.2.2.1 (X1.2.2.2.2.1 _ hw) hd (h p e Rm s m args below meth c H locs cells slots Qw D aC o b A kt nt X1 X2 X3 X4 X5 X6)
theorem h_ldc2 {idx : Nat} {v : Int64} (hd : decode M.2.1 pc = .ok (.ldc2_w idx, 3)) (hw : hW (.constantLong M.1.cls idx v)) (h : HV l M d k n (pc + 3) ls (.long v :: st) sh I J R Q) : HV l M d k n pc ls st sh I J R Q := by
  intro p e Rm s m args below meth c H locs cells slots Qw D aC o b A kt nt X1 X2 X3 X4 X5 X6
  exact lv_ldc2 X1.1 X1.2.1 X1.2.2.2.1 (X1.2.2.2.2.1 _ hw) hd (h p e Rm s m args below meth c H locs cells slots Qw D aC o b A kt nt X1 X2 X3 X4 X5 X6)
theorem h_iload_n {q : Fin 4} {x : Int32} (hd : decode M.2.1 pc = .ok (.iload_n q, 1)) (hl : ls[(q : Nat)]? = some (some (.int x))) (h : HV l M d k n (pc + 1) ls (.int x :: st) sh I J R Q) : HV l M d k n pc ls st sh I J R Q := by
  intro p e Rm s m args below meth c H locs cells slots Qw D aC o b A kt nt X1 X2 X3 X4 X5 X6
  exact lv_iload_n X1.1 X1.2.1 hd rfl (X5.2.2 _ _ hl) (h p e Rm s m args below meth c H locs cells slots Qw D aC o b A kt nt X1 X2 X3 X4 X5 X6)
theorem h_iload {q : Nat} {x : Int32} (hd : decode M.2.1 pc = .ok (.iload q, 2)) (hl : ls[q]? = some (some (.int x))) (h : HV l M d k n (pc + 2) ls (.int x :: st) sh I J R Q) : HV l M d k n pc ls st sh I J R Q := by
  intro p e Rm s m args below meth c H locs cells slots Qw D aC o b A kt nt X1 X2 X3 X4 X5 X6
  exact lv_iload X1.1 X1.2.1 hd (X5.2.2 _ _ hl) (h p e Rm s m args below meth c H locs cells slots Qw D aC o b A kt nt X1 X2 X3 X4 X5 X6)
theorem h_lload_n {q : Fin 4} {x : Int64} (hd : decode M.2.1 pc = .ok (.lload_n q, 1)) (hl : ls[(q : Nat)]? = some (some (.long x))) (h : HV l M d k n (pc + 1) ls (.long x :: st) sh I J R Q) : HV l M d k n pc ls st sh I J R Q := by
  intro p e Rm s m args below meth c H locs cells slots Qw D aC o b A kt nt X1 X2 X3 X4 X5 X6
  exact lv_lload_n X1.1 X1.2.1 hd rfl (X5.2.2 _ _ hl) (h p e Rm s m args below meth c H locs cells slots Qw D aC o b A kt nt X1 X2 X3 X4 X5 X6)
theorem h_lload {q : Nat} {x : Int64} (hd : decode M.2.1 pc = .ok (.lload q, 2)) (hl : ls[q]? = some (some (.long x))) (h : HV l M d k n (pc + 2) ls (.long x :: st) sh I J R Q) : HV l M d k n pc ls st sh I J R Q := by
  intro p e Rm s m args below meth c H locs cells slots Qw D aC o b A kt nt X1 X2 X3 X4 X5 X6
  exact lv_lload X1.1 X1.2.1 hd (X5.2.2 _ _ hl) (h p e Rm s m args below meth c H locs cells slots Qw D aC o b A kt nt X1 X2 X3 X4 X5 X6)
theorem h_aload_n {q : Fin 4} {x : Nat} (hd : decode M.2.1 pc = .ok (.aload_n q, 1)) (hl : ls[(q : Nat)]? = some (some (.ref x))) (h : HV l M d k n (pc + 1) ls (.ref x :: st) sh I J R Q) : HV l M d k n pc ls st sh I J R Q := by
  intro p e Rm s m args below meth c H locs cells slots Qw D aC o b A kt nt X1 X2 X3 X4 X5 X6
  exact lv_aload_n X1.1 X1.2.1 hd rfl (X5.2.2 _ _ hl) (h p e Rm s m args below meth c H locs cells slots Qw D aC o b A kt nt X1 X2 X3 X4 X5 X6)
theorem h_aload {q : Nat} {x : Nat} (hd : decode M.2.1 pc = .ok (.aload q, 2)) (hl : ls[q]? = some (some (.ref x))) (h : HV l M d k n (pc + 2) ls (.ref x :: st) sh I J R Q) : HV l M d k n pc ls st sh I J R Q := by
  intro p e Rm s m args below meth c H locs cells slots Qw D aC o b A kt nt X1 X2 X3 X4 X5 X6
  exact lv_aload X1.1 X1.2.1 hd (X5.2.2 _ _ hl) (h p e Rm s m args below meth c H locs cells slots Qw D aC o b A kt nt X1 X2 X3 X4 X5 X6)
theorem h_aload_nN {q : Fin 4} (hd : decode M.2.1 pc = .ok (.aload_n q, 1)) (hl : ls[(q : Nat)]? = some (some .null)) (h : HV l M d k n (pc + 1) ls (.null :: st) sh I J R Q) : HV l M d k n pc ls st sh I J R Q := by
  intro p e Rm s m args below meth c H locs cells slots Qw D aC o b A kt nt X1 X2 X3 X4 X5 X6
  exact lv_aload_nN X1.1 X1.2.1 hd rfl (X5.2.2 _ _ hl) (h p e Rm s m args below meth c H locs cells slots Qw D aC o b A kt nt X1 X2 X3 X4 X5 X6)
theorem h_aloadN {q : Nat} (hd : decode M.2.1 pc = .ok (.aload q, 2)) (hl : ls[q]? = some (some .null)) (h : HV l M d k n (pc + 2) ls (.null :: st) sh I J R Q) : HV l M d k n pc ls st sh I J R Q := by
  intro p e Rm s m args below meth c H locs cells slots Qw D aC o b A kt nt X1 X2 X3 X4 X5 X6
  exact lv_aloadN X1.1 X1.2.1 hd (X5.2.2 _ _ hl) (h p e Rm s m args below meth c H locs cells slots Qw D aC o b A kt nt X1 X2 X3 X4 X5 X6)
theorem h_aload_nS {q : Fin 4} {x : Nat} (hd : decode M.2.1 pc = .ok (.aload_n q, 1)) (hl : ls[(q : Nat)]? = some (some (.retAddr x))) (h : HV l M d k n (pc + 1) ls (.retAddr x :: st) sh I J R Q) : HV l M d k n pc ls st sh I J R Q := by
  intro p e Rm s m args below meth c H locs cells slots Qw D aC o b A kt nt X1 X2 X3 X4 X5 X6
  exact lv_aload_n X1.1 X1.2.1 hd rfl (X5.2.2 _ _ hl) (h p e Rm s m args below meth c H locs cells slots Qw D aC o b A kt nt X1 X2 X3 X4 X5 X6)
theorem h_istore_n {q : Fin 4} {x : Int32} (hd : decode M.2.1 pc = .ok (.istore_n q, 1)) (hn : (q : Nat) < M.2.2.1) (h : HV l M d k n (pc + 1) (hst1 ls (q : Nat) (.int x)) st sh I J R Q) : HV l M d k n pc ls (.int x :: st) sh I J R Q := by
  intro p e Rm s m args below meth c H locs cells slots Qw D aC o b A kt nt X1 X2 X3 X4 X5 X6
  exact lv_istore_n X1.1 X1.2.1 hd rfl (hlR_has X5) hn rfl (fun A2 hA2 => h p e Rm s m args below meth c H locs cells slots Qw D aC o b A2 kt nt X1 X2 X3 X4 (hlR_st1 (v := .int x) hA2) X6)
theorem h_istore {q : Nat} {x : Int32} (hd : decode M.2.1 pc = .ok (.istore q, 2)) (hn : q < M.2.2.1) (h : HV l M d k n (pc + 2) (hst1 ls q (.int x)) st sh I J R Q) : HV l M d k n pc ls (.int x :: st) sh I J R Q := by
  intro p e Rm s m args below meth c H locs cells slots Qw D aC o b A kt nt X1 X2 X3 X4 X5 X6
  exact lv_istore X1.1 X1.2.1 hd (hlR_has X5) hn rfl (fun A2 hA2 => h p e Rm s m args below meth c H locs cells slots Qw D aC o b A2 kt nt X1 X2 X3 X4 (hlR_st1 (v := .int x) hA2) X6)
theorem h_lstore_n {q : Fin 4} {x : Int64} (hd : decode M.2.1 pc = .ok (.lstore_n q, 1)) (hn : (q : Nat) + 1 < M.2.2.1) (h : HV l M d k n (pc + 1) (hst2 ls (q : Nat) (.long x)) st sh I J R Q) : HV l M d k n pc ls (.long x :: st) sh I J R Q := by
  intro p e Rm s m args below meth c H locs cells slots Qw D aC o b A kt nt X1 X2 X3 X4 X5 X6
  exact lv_lstore_n X1.1 X1.2.1 hd rfl (hlR_has X5) hn rfl (fun A2 hA2 => h p e Rm s m args below meth c H locs cells slots Qw D aC o b A2 kt nt X1 X2 X3 X4 (hlR_st2 (v := .long x) hA2) X6)
theorem h_lstore {q : Nat} {x : Int64} (hd : decode M.2.1 pc = .ok (.lstore q, 2)) (hn : q + 1 < M.2.2.1) (h : HV l M d k n (pc + 2) (hst2 ls q (.long x)) st sh I J R Q) : HV l M d k n pc ls (.long x :: st) sh I J R Q := by
  intro p e Rm s m args below meth c H locs cells slots Qw D aC o b A kt nt X1 X2 X3 X4 X5 X6
  exact lv_lstore X1.1 X1.2.1 hd (hlR_has X5) hn rfl (fun A2 hA2 => h p e Rm s m args below meth c H locs cells slots Qw D aC o b A2 kt nt X1 X2 X3 X4 (hlR_st2 (v := .long x) hA2) X6)
theorem h_astore_n {q : Fin 4} {x : Nat} (hd : decode M.2.1 pc = .ok (.astore_n q, 1)) (hn : (q : Nat) < M.2.2.1) (h : HV l M d k n (pc + 1) (hst1 ls (q : Nat) (.ref x)) st sh I J R Q) : HV l M d k n pc ls (.ref x :: st) sh I J R Q := by
  intro p e Rm s m args below meth c H locs cells slots Qw D aC o b A kt nt X1 X2 X3 X4 X5 X6
  exact lv_astore_n X1.1 X1.2.1 hd rfl (hlR_has X5) hn rfl (fun A2 hA2 => h p e Rm s m args below meth c H locs cells slots Qw D aC o b A2 kt nt X1 X2 X3 X4 (hlR_st1 (v := .ref x) hA2) X6)
theorem h_astore {q : Nat} {x : Nat} (hd : decode M.2.1 pc = .ok (.astore q, 2)) (hn : q < M.2.2.1) (h : HV l M d k n (pc + 2) (hst1 ls q (.ref x)) st sh I J R Q) : HV l M d k n pc ls (.ref x :: st) sh I J R Q := by
  intro p e Rm s m args below meth c H locs cells slots Qw D aC o b A kt nt X1 X2 X3 X4 X5 X6
  exact lv_astore X1.1 X1.2.1 hd (hlR_has X5) hn rfl (fun A2 hA2 => h p e Rm s m args below meth c H locs cells slots Qw D aC o b A2 kt nt X1 X2 X3 X4 (hlR_st1 (v := .ref x) hA2) X6)
theorem h_astore_nN {q : Fin 4} (hd : decode M.2.1 pc = .ok (.astore_n q, 1)) (hn : (q : Nat) < M.2.2.1) (h : HV l M d k n (pc + 1) (hst1 ls (q : Nat) (.null)) st sh I J R Q) : HV l M d k n pc ls (.null :: st) sh I J R Q := by
  intro p e Rm s m args below meth c H locs cells slots Qw D aC o b A kt nt X1 X2 X3 X4 X5 X6
  exact lv_astore_nN X1.1 X1.2.1 hd rfl (hlR_has X5) hn rfl (fun A2 hA2 => h p e Rm s m args below meth c H locs cells slots Qw D aC o b A2 kt nt X1 X2 X3 X4 (hlR_st1 (v := .null) hA2) X6)
theorem h_astoreN {q : Nat} (hd : decode M.2.1 pc = .ok (.astore q, 2)) (hn : q < M.2.2.1) (h : HV l M d k n (pc + 2) (hst1 ls q (.null)) st sh I J R Q) : HV l M d k n pc ls (.null :: st) sh I J R Q := by
  intro p e Rm s m args below meth c H locs cells slots Qw D aC o b A kt nt X1 X2 X3 X4 X5 X6
  exact lv_astoreN X1.1 X1.2.1 hd (hlR_has X5) hn rfl (fun A2 hA2 => h p e Rm s m args below meth c H locs cells slots Qw D aC o b A2 kt nt X1 X2 X3 X4 (hlR_st1 (v := .null) hA2) X6)
theorem h_iinc {q : Nat} {z : Int} {x v : Int32} (hd : decode M.2.1 pc = .ok (.iinc q z, 3)) (hl : ls[q]? = some (some (.int x))) (hv : x + Int32.ofInt z = v) (hn : q < M.2.2.1) (h : HV l M d k n (pc + 3) (hst1 ls q (.int v)) st sh I J R Q) : HV l M d k n pc ls st sh I J R Q := by
  intro p e Rm s m args below meth c H locs cells slots Qw D aC o b A kt nt X1 X2 X3 X4 X5 X6
  obtain ⟨kk, hk⟩ := List.getElem?_of_mem (hpr_in (o := o) (b := b) hl)
  exact lv_iinc (k := kk) X1.1 X1.2.1 hd (hlR_has X5) hk hv hn rfl (fun A2 hA2 => h p e Rm s m args below meth c H locs cells slots Qw D aC o b A2 kt nt X1 X2 X3 X4 (hlR_st1 (v := .int v) hA2) X6)
theorem h_iadd {x y : Int32} (hd : decode M.2.1 pc = .ok (.iadd, 1)) (h : HV l M d k n (pc + 1) ls (.int (x + y) :: st) sh I J R Q) : HV l M d k n pc ls (.int y :: .int x :: st) sh I J R Q := by
  intro p e Rm s m args below meth c H locs cells slots Qw D aC o b A kt nt X1 X2 X3 X4 X5 X6
  exact lv_iadd X1.1 X1.2.1 hd (h p e Rm s m args below meth c H locs cells slots Qw D aC o b A kt nt X1 X2 X3 X4 X5 X6)
theorem h_isub {x y : Int32} (hd : decode M.2.1 pc = .ok (.isub, 1)) (h : HV l M d k n (pc + 1) ls (.int (x - y) :: st) sh I J R Q) : HV l M d k n pc ls (.int y :: .int x :: st) sh I J R Q := by
  intro p e Rm s m args below meth c H locs cells slots Qw D aC o b A kt nt X1 X2 X3 X4 X5 X6
  exact lv_isub X1.1 X1.2.1 hd (h p e Rm s m args below meth c H locs cells slots Qw D aC o b A kt nt X1 X2 X3 X4 X5 X6)
theorem h_imul {x y : Int32} (hd : decode M.2.1 pc = .ok (.imul, 1)) (h : HV l M d k n (pc + 1) ls (.int (x * y) :: st) sh I J R Q) : HV l M d k n pc ls (.int y :: .int x :: st) sh I J R Q := by
  intro p e Rm s m args below meth c H locs cells slots Qw D aC o b A kt nt X1 X2 X3 X4 X5 X6
  exact lv_imul X1.1 X1.2.1 hd (h p e Rm s m args below meth c H locs cells slots Qw D aC o b A kt nt X1 X2 X3 X4 X5 X6)
theorem h_iand {x y : Int32} (hd : decode M.2.1 pc = .ok (.iand, 1)) (h : HV l M d k n (pc + 1) ls (.int (x &&& y) :: st) sh I J R Q) : HV l M d k n pc ls (.int y :: .int x :: st) sh I J R Q := by
  intro p e Rm s m args below meth c H locs cells slots Qw D aC o b A kt nt X1 X2 X3 X4 X5 X6
  exact lv_iand X1.1 X1.2.1 hd (h p e Rm s m args below meth c H locs cells slots Qw D aC o b A kt nt X1 X2 X3 X4 X5 X6)
theorem h_ior {x y : Int32} (hd : decode M.2.1 pc = .ok (.ior, 1)) (h : HV l M d k n (pc + 1) ls (.int (x ||| y) :: st) sh I J R Q) : HV l M d k n pc ls (.int y :: .int x :: st) sh I J R Q := by
  intro p e Rm s m args below meth c H locs cells slots Qw D aC o b A kt nt X1 X2 X3 X4 X5 X6
  exact lv_ior X1.1 X1.2.1 hd (h p e Rm s m args below meth c H locs cells slots Qw D aC o b A kt nt X1 X2 X3 X4 X5 X6)
theorem h_ixor {x y : Int32} (hd : decode M.2.1 pc = .ok (.ixor, 1)) (h : HV l M d k n (pc + 1) ls (.int (x ^^^ y) :: st) sh I J R Q) : HV l M d k n pc ls (.int y :: .int x :: st) sh I J R Q := by
  intro p e Rm s m args below meth c H locs cells slots Qw D aC o b A kt nt X1 X2 X3 X4 X5 X6
  exact lv_ixor X1.1 X1.2.1 hd (h p e Rm s m args below meth c H locs cells slots Qw D aC o b A kt nt X1 X2 X3 X4 X5 X6)
theorem h_ishl {x y : Int32} (hd : decode M.2.1 pc = .ok (.ishl, 1)) (h : HV l M d k n (pc + 1) ls (.int (x <<< (y &&& 31)) :: st) sh I J R Q) : HV l M d k n pc ls (.int y :: .int x :: st) sh I J R Q := by
  intro p e Rm s m args below meth c H locs cells slots Qw D aC o b A kt nt X1 X2 X3 X4 X5 X6
  exact lv_ishl X1.1 X1.2.1 hd (h p e Rm s m args below meth c H locs cells slots Qw D aC o b A kt nt X1 X2 X3 X4 X5 X6)
theorem h_ishr {x y : Int32} (hd : decode M.2.1 pc = .ok (.ishr, 1)) (h : HV l M d k n (pc + 1) ls (.int (x >>> (y &&& 31)) :: st) sh I J R Q) : HV l M d k n pc ls (.int y :: .int x :: st) sh I J R Q := by
  intro p e Rm s m args below meth c H locs cells slots Qw D aC o b A kt nt X1 X2 X3 X4 X5 X6
  exact lv_ishr X1.1 X1.2.1 hd (h p e Rm s m args below meth c H locs cells slots Qw D aC o b A kt nt X1 X2 X3 X4 X5 X6)
theorem h_idiv {x y : Int32} (hd : decode M.2.1 pc = .ok (.idiv, 1)) (hy : ¬ y = 0) (h : HV l M d k n (pc + 1) ls (.int (x / y) :: st) sh I J R Q) : HV l M d k n pc ls (.int y :: .int x :: st) sh I J R Q := by
  intro p e Rm s m args below meth c H locs cells slots Qw D aC o b A kt nt X1 X2 X3 X4 X5 X6
  exact lv_idiv X1.1 X1.2.1 hd hy (h p e Rm s m args below meth c H locs cells slots Qw D aC o b A kt nt X1 X2 X3 X4 X5 X6)
theorem h_irem {x y : Int32} (hd : decode M.2.1 pc = .ok (.irem, 1)) (hy : ¬ y = 0) (h : HV l M d k n (pc + 1) ls (.int (x - x / y * y) :: st) sh I J R Q) : HV l M d k n pc ls (.int y :: .int x :: st) sh I J R Q := by
  intro p e Rm s m args below meth c H locs cells slots Qw D aC o b A kt nt X1 X2 X3 X4 X5 X6
  exact lv_irem X1.1 X1.2.1 hd hy (h p e Rm s m args below meth c H locs cells slots Qw D aC o b A kt nt X1 X2 X3 X4 X5 X6)
theorem h_ineg {x : Int32} (hd : decode M.2.1 pc = .ok (.ineg, 1)) (h : HV l M d k n (pc + 1) ls (.int (-x) :: st) sh I J R Q) : HV l M d k n pc ls (.int x :: st) sh I J R Q := by
  intro p e Rm s m args below meth c H locs cells slots Qw D aC o b A kt nt X1 X2 X3 X4 X5 X6
  exact lv_ineg X1.1 X1.2.1 hd (h p e Rm s m args below meth c H locs cells slots Qw D aC o b A kt nt X1 X2 X3 X4 X5 X6)
theorem h_ladd {x y : Int64} (hd : decode M.2.1 pc = .ok (.ladd, 1)) (h : HV l M d k n (pc + 1) ls (.long (x + y) :: st) sh I J R Q) : HV l M d k n pc ls (.long y :: .long x :: st) sh I J R Q := by
  intro p e Rm s m args below meth c H locs cells slots Qw D aC o b A kt nt X1 X2 X3 X4 X5 X6
  exact lv_ladd X1.1 X1.2.1 hd (h p e Rm s m args below meth c H locs cells slots Qw D aC o b A kt nt X1 X2 X3 X4 X5 X6)
theorem h_lsub {x y : Int64} (hd : decode M.2.1 pc = .ok (.lsub, 1)) (h : HV l M d k n (pc + 1) ls (.long (x - y) :: st) sh I J R Q) : HV l M d k n pc ls (.long y :: .long x :: st) sh I J R Q := by
  intro p e Rm s m args below meth c H locs cells slots Qw D aC o b A kt nt X1 X2 X3 X4 X5 X6
  exact lv_lsub X1.1 X1.2.1 hd (h p e Rm s m args below meth c H locs cells slots Qw D aC o b A kt nt X1 X2 X3 X4 X5 X6)
theorem h_lmul {x y : Int64} (hd : decode M.2.1 pc = .ok (.lmul, 1)) (h : HV l M d k n (pc + 1) ls (.long (x * y) :: st) sh I J R Q) : HV l M d k n pc ls (.long y :: .long x :: st) sh I J R Q := by
  intro p e Rm s m args below meth c H locs cells slots Qw D aC o b A kt nt X1 X2 X3 X4 X5 X6
  exact lv_lmul X1.1 X1.2.1 hd (h p e Rm s m args below meth c H locs cells slots Qw D aC o b A kt nt X1 X2 X3 X4 X5 X6)
theorem h_land {x y : Int64} (hd : decode M.2.1 pc = .ok (.land, 1)) (h : HV l M d k n (pc + 1) ls (.long (x &&& y) :: st) sh I J R Q) : HV l M d k n pc ls (.long y :: .long x :: st) sh I J R Q := by
  intro p e Rm s m args below meth c H locs cells slots Qw D aC o b A kt nt X1 X2 X3 X4 X5 X6
  exact lv_land X1.1 X1.2.1 hd (h p e Rm s m args below meth c H locs cells slots Qw D aC o b A kt nt X1 X2 X3 X4 X5 X6)
theorem h_lor {x y : Int64} (hd : decode M.2.1 pc = .ok (.lor, 1)) (h : HV l M d k n (pc + 1) ls (.long (x ||| y) :: st) sh I J R Q) : HV l M d k n pc ls (.long y :: .long x :: st) sh I J R Q := by
  intro p e Rm s m args below meth c H locs cells slots Qw D aC o b A kt nt X1 X2 X3 X4 X5 X6
  exact lv_lor X1.1 X1.2.1 hd (h p e Rm s m args below meth c H locs cells slots Qw D aC o b A kt nt X1 X2 X3 X4 X5 X6)
theorem h_ldiv {x y : Int64} (hd : decode M.2.1 pc = .ok (.ldiv, 1)) (hy : ¬ y = 0) (h : HV l M d k n (pc + 1) ls (.long (x / y) :: st) sh I J R Q) : HV l M d k n pc ls (.long y :: .long x :: st) sh I J R Q := by
  intro p e Rm s m args below meth c H locs cells slots Qw D aC o b A kt nt X1 X2 X3 X4 X5 X6
  exact lv_ldiv X1.1 X1.2.1 hd hy (h p e Rm s m args below meth c H locs cells slots Qw D aC o b A kt nt X1 X2 X3 X4 X5 X6)
theorem h_lrem {x y : Int64} (hd : decode M.2.1 pc = .ok (.lrem, 1)) (hy : ¬ y = 0) (h : HV l M d k n (pc + 1) ls (.long (x - x / y * y) :: st) sh I J R Q) : HV l M d k n pc ls (.long y :: .long x :: st) sh I J R Q := by
  intro p e Rm s m args below meth c H locs cells slots Qw D aC o b A kt nt X1 X2 X3 X4 X5 X6
  exact lv_lrem X1.1 X1.2.1 hd hy (h p e Rm s m args below meth c H locs cells slots Qw D aC o b A kt nt X1 X2 X3 X4 X5 X6)
theorem h_lcmp {x y : Int64} (hd : decode M.2.1 pc = .ok (.lcmp, 1)) (h : HV l M d k n (pc + 1) ls (.int (lg_cmp x y) :: st) sh I J R Q) : HV l M d k n pc ls (.long y :: .long x :: st) sh I J R Q := by
  intro p e Rm s m args below meth c H locs cells slots Qw D aC o b A kt nt X1 X2 X3 X4 X5 X6
  exact W.lcmp X1.1 X1.2.1 hd (h p e Rm s m args below meth c H locs cells slots Qw D aC o b A kt nt X1 X2 X3 X4 X5 X6)
theorem h_i2l {x : Int32} (hd : decode M.2.1 pc = .ok (.i2l, 1)) (h : HV l M d k n (pc + 1) ls (.long x.toInt64 :: st) sh I J R Q) : HV l M d k n pc ls (.int x :: st) sh I J R Q := by
  intro p e Rm s m args below meth c H locs cells slots Qw D aC o b A kt nt X1 X2 X3 X4 X5 X6
  exact lv_i2l X1.1 X1.2.1 hd rfl (h p e Rm s m args below meth c H locs cells slots Qw D aC o b A kt nt X1 X2 X3 X4 X5 X6)
theorem h_l2i {x : Int64} (hd : decode M.2.1 pc = .ok (.l2i, 1)) (h : HV l M d k n (pc + 1) ls (.int x.toInt32 :: st) sh I J R Q) : HV l M d k n pc ls (.long x :: st) sh I J R Q := by
  intro p e Rm s m args below meth c H locs cells slots Qw D aC o b A kt nt X1 X2 X3 X4 X5 X6
  exact lv_l2i X1.1 X1.2.1 hd rfl (h p e Rm s m args below meth c H locs cells slots Qw D aC o b A kt nt X1 X2 X3 X4 X5 X6)
theorem h_i2b {x : Int32} (hd : decode M.2.1 pc = .ok (.i2b, 1)) (h : HV l M d k n (pc + 1) ls (.int x.toInt8.toInt32 :: st) sh I J R Q) : HV l M d k n pc ls (.int x :: st) sh I J R Q := by
  intro p e Rm s m args below meth c H locs cells slots Qw D aC o b A kt nt X1 X2 X3 X4 X5 X6
  exact lv_i2b X1.1 X1.2.1 hd rfl (h p e Rm s m args below meth c H locs cells slots Qw D aC o b A kt nt X1 X2 X3 X4 X5 X6)
theorem h_i2s {x : Int32} (hd : decode M.2.1 pc = .ok (.i2s, 1)) (h : HV l M d k n (pc + 1) ls (.int x.toInt16.toInt32 :: st) sh I J R Q) : HV l M d k n pc ls (.int x :: st) sh I J R Q := by
  intro p e Rm s m args below meth c H locs cells slots Qw D aC o b A kt nt X1 X2 X3 X4 X5 X6
  exact lv_i2s X1.1 X1.2.1 hd rfl (h p e Rm s m args below meth c H locs cells slots Qw D aC o b A kt nt X1 X2 X3 X4 X5 X6)
theorem h_lshl {x : Int64} {y : Int32} (hd : decode M.2.1 pc = .ok (.lshl, 1)) (h : HV l M d k n (pc + 1) ls (.long (x <<< (y.toInt64 &&& 63)) :: st) sh I J R Q) : HV l M d k n pc ls (.int y :: .long x :: st) sh I J R Q := by
  intro p e Rm s m args below meth c H locs cells slots Qw D aC o b A kt nt X1 X2 X3 X4 X5 X6
  exact lv_lshl X1.1 X1.2.1 hd rfl (h p e Rm s m args below meth c H locs cells slots Qw D aC o b A kt nt X1 X2 X3 X4 X5 X6)
theorem h_lushr {x : Int64} {y : Int32} (hd : decode M.2.1 pc = .ok (.lushr, 1)) (h : HV l M d k n (pc + 1) ls (.long ((x.toUInt64 >>> (y.toInt64.toUInt64 &&& Int64.toUInt64 63)).toInt64) :: st) sh I J R Q) : HV l M d k n pc ls (.int y :: .long x :: st) sh I J R Q := by
  intro p e Rm s m args below meth c H locs cells slots Qw D aC o b A kt nt X1 X2 X3 X4 X5 X6
  exact lv_lushr X1.1 X1.2.1 hd rfl (h p e Rm s m args below meth c H locs cells slots Qw D aC o b A kt nt X1 X2 X3 X4 X5 X6)
theorem h_dup {v : Value} (hd : decode M.2.1 pc = .ok (.dup, 1)) (hc : v.category = 1) (h : HV l M d k n (pc + 1) ls (v :: v :: st) sh I J R Q) : HV l M d k n pc ls (v :: st) sh I J R Q := by
  intro p e Rm s m args below meth c H locs cells slots Qw D aC o b A kt nt X1 X2 X3 X4 X5 X6
  exact lv_dup X1.1 X1.2.1 hd (by rw [htv_cat]; exact hc) (h p e Rm s m args below meth c H locs cells slots Qw D aC o b A kt nt X1 X2 X3 X4 X5 X6)
theorem h_pop {v : Value} (hd : decode M.2.1 pc = .ok (.pop, 1)) (hc : v.category = 1) (h : HV l M d k n (pc + 1) ls st sh I J R Q) : HV l M d k n pc ls (v :: st) sh I J R Q := by
  intro p e Rm s m args below meth c H locs cells slots Qw D aC o b A kt nt X1 X2 X3 X4 X5 X6
  exact lv_pop X1.1 X1.2.1 hd (by rw [htv_cat]; exact hc) (h p e Rm s m args below meth c H locs cells slots Qw D aC o b A kt nt X1 X2 X3 X4 X5 X6)
theorem h_ifeq {x : Int32} {off : Int} {tgt : Nat} (hd : decode M.2.1 pc = .ok (.ifCond .eq off, 3)) (ht : (pc : Int) + off = (tgt : Int)) (h1 : x = 0 → HV l M d k n tgt ls st sh I J R Q) (h2 : ¬ x = 0 → HV l M d k n (pc + 3) ls st sh I J R Q) : HV l M d k n pc ls (.int x :: st) sh I J R Q := by
  intro p e Rm s m args below meth c H locs cells slots Qw D aC o b A kt nt X1 X2 X3 X4 X5 X6
  exact lv_if_eq X1.1 X1.2.1 hd ht (fun z => h1 z p e Rm s m args below meth c H locs cells slots Qw D aC o b A kt nt X1 X2 X3 X4 X5 X6) (fun z => h2 z p e Rm s m args below meth c H locs cells slots Qw D aC o b A kt nt X1 X2 X3 X4 X5 X6)
theorem h_icmpeq {x y : Int32} {off : Int} {tgt : Nat} (hd : decode M.2.1 pc = .ok (.if_icmp .eq off, 3)) (ht : (pc : Int) + off = (tgt : Int)) (h1 : x = y → HV l M d k n tgt ls st sh I J R Q) (h2 : ¬ x = y → HV l M d k n (pc + 3) ls st sh I J R Q) : HV l M d k n pc ls (.int y :: .int x :: st) sh I J R Q := by
  intro p e Rm s m args below meth c H locs cells slots Qw D aC o b A kt nt X1 X2 X3 X4 X5 X6
  exact lv_icmp_eq X1.1 X1.2.1 hd ht (fun z => h1 z p e Rm s m args below meth c H locs cells slots Qw D aC o b A kt nt X1 X2 X3 X4 X5 X6) (fun z => h2 z p e Rm s m args below meth c H locs cells slots Qw D aC o b A kt nt X1 X2 X3 X4 X5 X6)
theorem h_ifne {x : Int32} {off : Int} {tgt : Nat} (hd : decode M.2.1 pc = .ok (.ifCond .ne off, 3)) (ht : (pc : Int) + off = (tgt : Int)) (h1 : ¬ x = 0 → HV l M d k n tgt ls st sh I J R Q) (h2 : x = 0 → HV l M d k n (pc + 3) ls st sh I J R Q) : HV l M d k n pc ls (.int x :: st) sh I J R Q := by
  intro p e Rm s m args below meth c H locs cells slots Qw D aC o b A kt nt X1 X2 X3 X4 X5 X6
  exact lv_if_ne X1.1 X1.2.1 hd ht (fun z => h1 z p e Rm s m args below meth c H locs cells slots Qw D aC o b A kt nt X1 X2 X3 X4 X5 X6) (fun z => h2 z p e Rm s m args below meth c H locs cells slots Qw D aC o b A kt nt X1 X2 X3 X4 X5 X6)
theorem h_icmpne {x y : Int32} {off : Int} {tgt : Nat} (hd : decode M.2.1 pc = .ok (.if_icmp .ne off, 3)) (ht : (pc : Int) + off = (tgt : Int)) (h1 : ¬ x = y → HV l M d k n tgt ls st sh I J R Q) (h2 : x = y → HV l M d k n (pc + 3) ls st sh I J R Q) : HV l M d k n pc ls (.int y :: .int x :: st) sh I J R Q := by
  intro p e Rm s m args below meth c H locs cells slots Qw D aC o b A kt nt X1 X2 X3 X4 X5 X6
  exact lv_icmp_ne X1.1 X1.2.1 hd ht (fun z => h1 z p e Rm s m args below meth c H locs cells slots Qw D aC o b A kt nt X1 X2 X3 X4 X5 X6) (fun z => h2 z p e Rm s m args below meth c H locs cells slots Qw D aC o b A kt nt X1 X2 X3 X4 X5 X6)
theorem h_iflt {x : Int32} {off : Int} {tgt : Nat} (hd : decode M.2.1 pc = .ok (.ifCond .lt off, 3)) (ht : (pc : Int) + off = (tgt : Int)) (h1 : x < 0 → HV l M d k n tgt ls st sh I J R Q) (h2 : ¬ x < 0 → HV l M d k n (pc + 3) ls st sh I J R Q) : HV l M d k n pc ls (.int x :: st) sh I J R Q := by
  intro p e Rm s m args below meth c H locs cells slots Qw D aC o b A kt nt X1 X2 X3 X4 X5 X6
  exact lv_if_lt X1.1 X1.2.1 hd ht (fun z => h1 z p e Rm s m args below meth c H locs cells slots Qw D aC o b A kt nt X1 X2 X3 X4 X5 X6) (fun z => h2 z p e Rm s m args below meth c H locs cells slots Qw D aC o b A kt nt X1 X2 X3 X4 X5 X6)
theorem h_icmplt {x y : Int32} {off : Int} {tgt : Nat} (hd : decode M.2.1 pc = .ok (.if_icmp .lt off, 3)) (ht : (pc : Int) + off = (tgt : Int)) (h1 : x < y → HV l M d k n tgt ls st sh I J R Q) (h2 : ¬ x < y → HV l M d k n (pc + 3) ls st sh I J R Q) : HV l M d k n pc ls (.int y :: .int x :: st) sh I J R Q := by
  intro p e Rm s m args below meth c H locs cells slots Qw D aC o b A kt nt X1 X2 X3 X4 X5 X6
  exact lv_icmp_lt X1.1 X1.2.1 hd ht (fun z => h1 z p e Rm s m args below meth c H locs cells slots Qw D aC o b A kt nt X1 X2 X3 X4 X5 X6) (fun z => h2 z p e Rm s m args below meth c H locs cells slots Qw D aC o b A kt nt X1 X2 X3 X4 X5 X6)
theorem h_ifge {x : Int32} {off : Int} {tgt : Nat} (hd : decode M.2.1 pc = .ok (.ifCond .ge off, 3)) (ht : (pc : Int) + off = (tgt : Int)) (h1 : 0 ≤ x → HV l M d k n tgt ls st sh I J R Q) (h2 : ¬ 0 ≤ x → HV l M d k n (pc + 3) ls st sh I J R Q) : HV l M d k n pc ls (.int x :: st) sh I J R Q := by
  intro p e Rm s m args below meth c H locs cells slots Qw D aC o b A kt nt X1 X2 X3 X4 X5 X6
  exact lv_if_ge X1.1 X1.2.1 hd ht (fun z => h1 z p e Rm s m args below meth c H locs cells slots Qw D aC o b A kt nt X1 X2 X3 X4 X5 X6) (fun z => h2 z p e Rm s m args below meth c H locs cells slots Qw D aC o b A kt nt X1 X2 X3 X4 X5 X6)
theorem h_icmpge {x y : Int32} {off : Int} {tgt : Nat} (hd : decode M.2.1 pc = .ok (.if_icmp .ge off, 3)) (ht : (pc : Int) + off = (tgt : Int)) (h1 : y ≤ x → HV l M d k n tgt ls st sh I J R Q) (h2 : ¬ y ≤ x → HV l M d k n (pc + 3) ls st sh I J R Q) : HV l M d k n pc ls (.int y :: .int x :: st) sh I J R Q := by
  intro p e Rm s m args below meth c H locs cells slots Qw D aC o b A kt nt X1 X2 X3 X4 X5 X6
  exact lv_icmp_ge X1.1 X1.2.1 hd ht (fun z => h1 z p e Rm s m args below meth c H locs cells slots Qw D aC o b A kt nt X1 X2 X3 X4 X5 X6) (fun z => h2 z p e Rm s m args below meth c H locs cells slots Qw D aC o b A kt nt X1 X2 X3 X4 X5 X6)
theorem h_ifgt {x : Int32} {off : Int} {tgt : Nat} (hd : decode M.2.1 pc = .ok (.ifCond .gt off, 3)) (ht : (pc : Int) + off = (tgt : Int)) (h1 : 0 < x → HV l M d k n tgt ls st sh I J R Q) (h2 : ¬ 0 < x → HV l M d k n (pc + 3) ls st sh I J R Q) : HV l M d k n pc ls (.int x :: st) sh I J R Q := by
  intro p e Rm s m args below meth c H locs cells slots Qw D aC o b A kt nt X1 X2 X3 X4 X5 X6
  exact lv_if_gt X1.1 X1.2.1 hd ht (fun z => h1 z p e Rm s m args below meth c H locs cells slots Qw D aC o b A kt nt X1 X2 X3 X4 X5 X6) (fun z => h2 z p e Rm s m args below meth c H locs cells slots Qw D aC o b A kt nt X1 X2 X3 X4 X5 X6)
theorem h_icmpgt {x y : Int32} {off : Int} {tgt : Nat} (hd : decode M.2.1 pc = .ok (.if_icmp .gt off, 3)) (ht : (pc : Int) + off = (tgt : Int)) (h1 : y < x → HV l M d k n tgt ls st sh I J R Q) (h2 : ¬ y < x → HV l M d k n (pc + 3) ls st sh I J R Q) : HV l M d k n pc ls (.int y :: .int x :: st) sh I J R Q := by
  intro p e Rm s m args below meth c H locs cells slots Qw D aC o b A kt nt X1 X2 X3 X4 X5 X6
  exact lv_icmp_gt X1.1 X1.2.1 hd ht (fun z => h1 z p e Rm s m args below meth c H locs cells slots Qw D aC o b A kt nt X1 X2 X3 X4 X5 X6) (fun z => h2 z p e Rm s m args below meth c H locs cells slots Qw D aC o b A kt nt X1 X2 X3 X4 X5 X6)
theorem h_ifle {x : Int32} {off : Int} {tgt : Nat} (hd : decode M.2.1 pc = .ok (.ifCond .le off, 3)) (ht : (pc : Int) + off = (tgt : Int)) (h1 : x ≤ 0 → HV l M d k n tgt ls st sh I J R Q) (h2 : ¬ x ≤ 0 → HV l M d k n (pc + 3) ls st sh I J R Q) : HV l M d k n pc ls (.int x :: st) sh I J R Q := by
  intro p e Rm s m args below meth c H locs cells slots Qw D aC o b A kt nt X1 X2 X3 X4 X5 X6
  exact lv_if_le X1.1 X1.2.1 hd ht (fun z => h1 z p e Rm s m args below meth c H locs cells slots Qw D aC o b A kt nt X1 X2 X3 X4 X5 X6) (fun z => h2 z p e Rm s m args below meth c H locs cells slots Qw D aC o b A kt nt X1 X2 X3 X4 X5 X6)
theorem h_icmple {x y : Int32} {off : Int} {tgt : Nat} (hd : decode M.2.1 pc = .ok (.if_icmp .le off, 3)) (ht : (pc : Int) + off = (tgt : Int)) (h1 : x ≤ y → HV l M d k n tgt ls st sh I J R Q) (h2 : ¬ x ≤ y → HV l M d k n (pc + 3) ls st sh I J R Q) : HV l M d k n pc ls (.int y :: .int x :: st) sh I J R Q := by
  intro p e Rm s m args below meth c H locs cells slots Qw D aC o b A kt nt X1 X2 X3 X4 X5 X6
  exact lv_icmp_le X1.1 X1.2.1 hd ht (fun z => h1 z p e Rm s m args below meth c H locs cells slots Qw D aC o b A kt nt X1 X2 X3 X4 X5 X6) (fun z => h2 z p e Rm s m args below meth c H locs cells slots Qw D aC o b A kt nt X1 X2 X3 X4 X5 X6)
theorem h_goto {off : Int} {tgt : Nat} (hd : decode M.2.1 pc = .ok (.goto off, 3)) (ht : (pc : Int) + off = (tgt : Int)) (h : HV l M d k n tgt ls st sh I J R Q) : HV l M d k n pc ls st sh I J R Q := by
  intro p e Rm s m args below meth c H locs cells slots Qw D aC o b A kt nt X1 X2 X3 X4 X5 X6
  exact lv_goto X1.1 X1.2.1 hd ht (h p e Rm s m args below meth c H locs cells slots Qw D aC o b A kt nt X1 X2 X3 X4 X5 X6)
theorem h_ifnull {off : Int} {x : Nat} (hd : decode M.2.1 pc = .ok (.ifnull off, 3)) (h : HV l M d k n (pc + 3) ls st sh I J R Q) : HV l M d k n pc ls (.ref x :: st) sh I J R Q := by
  intro p e Rm s m args below meth c H locs cells slots Qw D aC o b A kt nt X1 X2 X3 X4 X5 X6
  exact lv_ifnull X1.1 X1.2.1 hd (h p e Rm s m args below meth c H locs cells slots Qw D aC o b A kt nt X1 X2 X3 X4 X5 X6)
theorem h_ifnonnull {off : Int} {x tgt : Nat} (hd : decode M.2.1 pc = .ok (.ifnonnull off, 3)) (ht : (pc : Int) + off = (tgt : Int)) (h : HV l M d k n tgt ls st sh I J R Q) : HV l M d k n pc ls (.ref x :: st) sh I J R Q := by
  intro p e Rm s m args below meth c H locs cells slots Qw D aC o b A kt nt X1 X2 X3 X4 X5 X6
  exact lv_ifnonnull X1.1 X1.2.1 hd ht (h p e Rm s m args below meth c H locs cells slots Qw D aC o b A kt nt X1 X2 X3 X4 X5 X6)
theorem h_ifnullN {off : Int} {tgt : Nat} (hd : decode M.2.1 pc = .ok (.ifnull off, 3)) (ht : (pc : Int) + off = (tgt : Int)) (h : HV l M d k n tgt ls st sh I J R Q) : HV l M d k n pc ls (.null :: st) sh I J R Q := by
  intro p e Rm s m args below meth c H locs cells slots Qw D aC o b A kt nt X1 X2 X3 X4 X5 X6
  exact lv_ifnullN X1.1 X1.2.1 hd ht (h p e Rm s m args below meth c H locs cells slots Qw D aC o b A kt nt X1 X2 X3 X4 X5 X6)
theorem h_ifnonnullN {off : Int} (hd : decode M.2.1 pc = .ok (.ifnonnull off, 3)) (h : HV l M d k n (pc + 3) ls st sh I J R Q) : HV l M d k n pc ls (.null :: st) sh I J R Q := by
  intro p e Rm s m args below meth c H locs cells slots Qw D aC o b A kt nt X1 X2 X3 X4 X5 X6
  exact lv_ifnonnullN X1.1 X1.2.1 hd (h p e Rm s m args below meth c H locs cells slots Qw D aC o b A kt nt X1 X2 X3 X4 X5 X6)
theorem h_tableIn {df lo hi : Int} {offs : Array Int} {len : Nat} {x : Int32} {off : Int} {tgt : Nat} (hd : decode M.2.1 pc = .ok (.tableswitch df lo hi offs, len)) (h1 : ¬ x.toInt < lo) (h2 : ¬ hi < x.toInt) (ho : offs[(x.toInt - lo).toNat]? = some off) (ht : (pc : Int) + off = (tgt : Int)) (h : HV l M d k n tgt ls st sh I J R Q) : HV l M d k n pc ls (.int x :: st) sh I J R Q := by
  intro p e Rm s m args below meth c H locs cells slots Qw D aC o b A kt nt X1 X2 X3 X4 X5 X6
  exact lv_tableIn X1.1 X1.2.1 hd h1 h2 ho ht (h p e Rm s m args below meth c H locs cells slots Qw D aC o b A kt nt X1 X2 X3 X4 X5 X6)
theorem h_tableOut {df lo hi : Int} {offs : Array Int} {len : Nat} {x : Int32} {tgt : Nat} (hd : decode M.2.1 pc = .ok (.tableswitch df lo hi offs, len)) (hx : x.toInt < lo ∨ hi < x.toInt) (ht : (pc : Int) + df = (tgt : Int)) (h : HV l M d k n tgt ls st sh I J R Q) : HV l M d k n pc ls (.int x :: st) sh I J R Q := by
  intro p e Rm s m args below meth c H locs cells slots Qw D aC o b A kt nt X1 X2 X3 X4 X5 X6
  exact lv_tableOut X1.1 X1.2.1 hd hx ht (h p e Rm s m args below meth c H locs cells slots Qw D aC o b A kt nt X1 X2 X3 X4 X5 X6)
theorem h_lookup {df : Int} {ps : Array (Int × Int)} {len : Nat} {x : Int32} {off : Int} {tgt : Nat} (hd : decode M.2.1 pc = .ok (.lookupswitch df ps, len)) (hp : (ps.toList.zip (ps.toList.drop 1)).all (fun (a, next) => a.1 < next.1) = true) (ho : Op.lookupswitch.offset ps.toList df x.toInt = off) (ht : (pc : Int) + off = (tgt : Int)) (h : HV l M d k n tgt ls st sh I J R Q) : HV l M d k n pc ls (.int x :: st) sh I J R Q := by
  intro p e Rm s m args below meth c H locs cells slots Qw D aC o b A kt nt X1 X2 X3 X4 X5 X6
  exact lv_lookup X1.1 X1.2.1 hd hp ho ht (h p e Rm s m args below meth c H locs cells slots Qw D aC o b A kt nt X1 X2 X3 X4 X5 X6)
theorem h_ireturn {x : Int32} (hd : decode M.2.1 pc = .ok (.ireturn, 1)) (hr : M.2.2.2.1 = some .int) (h : Q (some (.int x)) sh I J R) : HV l M d k n pc ls [.int x] sh I J R Q := by
  intro p e Rm s m args below meth c H locs cells slots Qw D aC o b A kt nt X1 X2 X3 X4 X5 X6
  exact X6 (some (.int x)) sh I J R H locs cells slots pc A .ireturn h X3 X4 (by have := X2.2.2.1; omega) (by have := X2.2.2.2.1; omega) hd ⟨rfl, .int, hr, rfl⟩
theorem h_zreturn {x : Int32} (hd : decode M.2.1 pc = .ok (.ireturn, 1)) (hr : M.2.2.2.1 = some .boolean) (hx : x = 0 ∨ x = 1) (h : Q (some (.int x)) sh I J R) : HV l M d k n pc ls [.int x] sh I J R Q := by
  intro p e Rm s m args below meth c H locs cells slots Qw D aC o b A kt nt X1 X2 X3 X4 X5 X6
  exact X6 (some (.int x)) sh I J R H locs cells slots pc A .ireturn h X3 X4 (by have := X2.2.2.1; omega) (by have := X2.2.2.2.1; omega) hd ⟨rfl, .boolean, hr, by rcases hx with rfl | rfl <;> rfl⟩
theorem h_lreturn {x : Int64} (hd : decode M.2.1 pc = .ok (.lreturn, 1)) (hr : M.2.2.2.1 = some .long) (h : Q (some (.long x)) sh I J R) : HV l M d k n pc ls [.long x] sh I J R Q := by
  intro p e Rm s m args below meth c H locs cells slots Qw D aC o b A kt nt X1 X2 X3 X4 X5 X6
  exact X6 (some (.long x)) sh I J R H locs cells slots pc A .lreturn h X3 X4 (by have := X2.2.2.1; omega) (by have := X2.2.2.2.1; omega) hd ⟨rfl, hr⟩
theorem h_areturn {x : Nat} {C : String} (hd : decode M.2.1 pc = .ok (.areturn, 1)) (hr : M.2.2.2.1 = some (.object C)) (h : Q (some (.ref x)) sh I J R) : HV l M d k n pc ls [.ref x] sh I J R Q := by
  intro p e Rm s m args below meth c H locs cells slots Qw D aC o b A kt nt X1 X2 X3 X4 X5 X6
  exact X6 (some (.ref x)) sh I J R H locs cells slots pc A .areturn h X3 X4 (by have := X2.2.2.1; omega) (by have := X2.2.2.2.1; omega) hd ⟨rfl, C, hr⟩
theorem h_areturnN {C : String} (hd : decode M.2.1 pc = .ok (.areturn, 1)) (hr : M.2.2.2.1 = some (.object C)) (h : Q (some .null) sh I J R) : HV l M d k n pc ls [.null] sh I J R Q := by
  intro p e Rm s m args below meth c H locs cells slots Qw D aC o b A kt nt X1 X2 X3 X4 X5 X6
  exact X6 (some .null) sh I J R H locs cells slots pc A .areturn h X3 X4 (by have := X2.2.2.1; omega) (by have := X2.2.2.2.1; omega) hd ⟨rfl, C, hr⟩
theorem h_return (hd : decode M.2.1 pc = .ok (.return_, 1)) (hr : M.2.2.2.1 = none) (h : Q none sh I J R) : HV l M d k n pc ls [] sh I J R Q := by
  intro p e Rm s m args below meth c H locs cells slots Qw D aC o b A kt nt X1 X2 X3 X4 X5 X6
  exact X6 none sh I J R H locs cells slots pc A .return_ h X3 X4 (by have := X2.2.2.1; omega) (by have := X2.2.2.2.1; omega) hd ⟨rfl, hr⟩
end HROWS
