theorem HV_sw {l : Launch} {M : hM} {d k n pc : Nat} {ls : hL} {st : List Value} {sh : hS} {I I2 : hI} {J J2 : hJ} {R R2 : hR} {Q : hQ} (h : ∀ o aC, hws o aC sh I J R = hws o aC sh I2 J2 R2) (hv : HV l M d k n pc ls st sh I2 J2 R2 Q) : HV l M d k n pc ls st sh I J R Q := by
  intro p e Rm s m args below meth c H locs cells slots Qw D aC o b A kt nt X1 X2 X3 X4 X5 X6
  refine hv p e Rm s m args below meth c H locs cells slots Qw D aC o b A kt nt X1 X2 ⟨X3.1, ?_⟩ X4 X5 X6
  rw [← h o aC]
  exact X3.2
theorem hws_cg {o : Nat} {aC : Nat → ClassId} {sh : hS} {I : hI} {J : hJ} {R R2 : hR} (h : ∀ i z, sh[i]? = some z → hce o aC I J R i z = hce o aC I J R2 i z) : hws o aC sh I J R = hws o aC sh I J R2 := by
  apply List.ext_getElem?
  intro i
  unfold hws
  rw [List.getElem?_mapIdx, List.getElem?_mapIdx]
  cases hz : sh[i]? with
  | none => rfl
  | some z => exact congrArg (fun q => some (o + i, q)) (h i z hz)
def zI : hI := fun _ _ => 0
def zJ : hJ := fun _ _ => 0
def zR : hR := fun _ _ => none
def eI : hI := qI_X12_init_82 (clI (qI_X11_init_0 (clI zI 0)) 82)
def eJ : hJ := qJ_X12_init_82 (clJ (qJ_X11_init_0 (clJ zJ 0)) 82)
def eR : hR := qR_X12_init_82 (clR (qR_X11_init_0 (clR zR 0)) 82)
theorem eR_0 : eR 0 0 = hRR none none 0 0 ∧ eR 0 1 = hRR none none 0 1 ∧ eR 0 2 = hRR none none 0 2 ∧ eR 0 3 = hRR none none 0 3 ∧ eR 0 5 = hRR none none 0 5 ∧ eR 0 6 = hRR none none 0 6 ∧ eR 0 8 = hRR none none 0 8 ∧ eR 0 10 = hRR none none 0 10 ∧ eR 0 11 = hRR none none 0 11 ∧ eR 0 12 = hRR none none 0 12 ∧ eR 0 13 = hRR none none 0 13 ∧ eR 0 14 = hRR none none 0 14 ∧ eR 0 15 = hRR none none 0 15 ∧ eR 0 16 = hRR none none 0 16 ∧ eR 0 17 = hRR none none 0 17 := by decide +kernel
theorem eR_1 : eR 1 0 = hRR none none 1 0 ∧ eR 1 1 = hRR none none 1 1 ∧ eR 1 3 = hRR none none 1 3 ∧ eR 1 4 = hRR none none 1 4 ∧ eR 1 7 = hRR none none 1 7 ∧ eR 1 8 = hRR none none 1 8 ∧ eR 1 9 = hRR none none 1 9 ∧ eR 1 10 = hRR none none 1 10 ∧ eR 1 11 = hRR none none 1 11 ∧ eR 1 13 = hRR none none 1 13 ∧ eR 1 14 = hRR none none 1 14 ∧ eR 1 15 = hRR none none 1 15 := by decide +kernel
theorem eR_2 : eR 2 1 = hRR none none 2 1 ∧ eR 2 3 = hRR none none 2 3 ∧ eR 2 4 = hRR none none 2 4 ∧ eR 2 5 = hRR none none 2 5 ∧ eR 2 6 = hRR none none 2 6 ∧ eR 2 7 = hRR none none 2 7 ∧ eR 2 8 = hRR none none 2 8 ∧ eR 2 9 = hRR none none 2 9 ∧ eR 2 10 = hRR none none 2 10 := by decide +kernel
theorem eR_12 : eR 12 1 = hRR none none 12 1 ∧ eR 12 2 = hRR none none 12 2 ∧ eR 12 4 = hRR none none 12 4 ∧ eR 12 5 = hRR none none 12 5 ∧ eR 12 6 = hRR none none 12 6 ∧ eR 12 7 = hRR none none 12 7 := by decide +kernel
theorem eR_28 : eR 28 0 = hRR none none 28 0 ∧ eR 28 1 = hRR none none 28 1 ∧ eR 28 3 = hRR none none 28 3 ∧ eR 28 4 = hRR none none 28 4 ∧ eR 28 7 = hRR none none 28 7 ∧ eR 28 8 = hRR none none 28 8 ∧ eR 28 9 = hRR none none 28 9 ∧ eR 28 10 = hRR none none 28 10 ∧ eR 28 11 = hRR none none 28 11 ∧ eR 28 13 = hRR none none 28 13 ∧ eR 28 14 = hRR none none 28 14 ∧ eR 28 15 = hRR none none 28 15 := by decide +kernel
theorem eR_29 : eR 29 1 = hRR none none 29 1 ∧ eR 29 3 = hRR none none 29 3 ∧ eR 29 4 = hRR none none 29 4 ∧ eR 29 5 = hRR none none 29 5 ∧ eR 29 6 = hRR none none 29 6 ∧ eR 29 7 = hRR none none 29 7 ∧ eR 29 8 = hRR none none 29 8 ∧ eR 29 9 = hRR none none 29 9 ∧ eR 29 10 = hRR none none 29 10 := by decide +kernel
theorem eR_39 : eR 39 1 = hRR none none 39 1 ∧ eR 39 2 = hRR none none 39 2 ∧ eR 39 4 = hRR none none 39 4 ∧ eR 39 5 = hRR none none 39 5 ∧ eR 39 6 = hRR none none 39 6 ∧ eR 39 7 = hRR none none 39 7 := by decide +kernel
theorem eR_55 : eR 55 1 = hRR none none 55 1 ∧ eR 55 2 = hRR none none 55 2 ∧ eR 55 4 = hRR none none 55 4 ∧ eR 55 5 = hRR none none 55 5 ∧ eR 55 6 = hRR none none 55 6 ∧ eR 55 7 = hRR none none 55 7 := by decide +kernel
theorem eR_69 : eR 69 0 = hRR none none 69 0 ∧ eR 69 1 = hRR none none 69 1 ∧ eR 69 2 = hRR none none 69 2 ∧ eR 69 3 = hRR none none 69 3 ∧ eR 69 4 = hRR none none 69 4 ∧ eR 69 5 = hRR none none 69 5 ∧ eR 69 6 = hRR none none 69 6 := by decide +kernel
theorem eR_70 : eR 70 4 = hRR none none 70 4 := by decide +kernel
theorem eR_72 : eR 72 4 = hRR none none 72 4 := by decide +kernel
theorem eR_74 : eR 74 4 = hRR none none 74 4 := by decide +kernel
theorem eR_76 : eR 76 4 = hRR none none 76 4 := by decide +kernel
theorem eR_78 : eR 78 4 = hRR none none 78 4 := by decide +kernel
theorem eR_80 : eR 80 4 = hRR none none 80 4 := by decide +kernel
theorem eR_82 : eR 82 1 = hRR none none 82 1 ∧ eR 82 3 = hRR none none 82 3 ∧ eR 82 5 = hRR none none 82 5 ∧ eR 82 8 = hRR none none 82 8 ∧ eR 82 10 = hRR none none 82 10 ∧ eR 82 11 = hRR none none 82 11 ∧ eR 82 12 = hRR none none 82 12 ∧ eR 82 13 = hRR none none 82 13 ∧ eR 82 14 = hRR none none 82 14 ∧ eR 82 15 = hRR none none 82 15 ∧ eR 82 18 = hRR none none 82 18 ∧ eR 82 19 = hRR none none 82 19 ∧ eR 82 20 = hRR none none 82 20 ∧ eR 82 21 = hRR none none 82 21 ∧ eR 82 28 = hRR none none 82 28 ∧ eR 82 29 = hRR none none 82 29 ∧ eR 82 30 = hRR none none 82 30 ∧ eR 82 31 = hRR none none 82 31 ∧ eR 82 34 = hRR none none 82 34 ∧ eR 82 35 = hRR none none 82 35 ∧ eR 82 36 = hRR none none 82 36 ∧ eR 82 38 = hRR none none 82 38 ∧ eR 82 39 = hRR none none 82 39 ∧ eR 82 40 = hRR none none 82 40 ∧ eR 82 41 = hRR none none 82 41 ∧ eR 82 42 = hRR none none 82 42 ∧ eR 82 43 = hRR none none 82 43 ∧ eR 82 47 = hRR none none 82 47 ∧ eR 82 51 = hRR none none 82 51 ∧ eR 82 53 = hRR none none 82 53 := by decide +kernel
theorem eI_2_0 : eI 2 0 = nI 0 := by decide +kernel
theorem eI_2_2 : eI 2 2 = nI 0 := by decide +kernel
theorem eI_1_2 : eI 1 2 = nI 0 := by decide +kernel
theorem eI_1_5 : eI 1 5 = nI 0 := by decide +kernel
theorem eI_1_6 : eI 1 6 = nI 0 := by decide +kernel
theorem eI_12_0 : eI 12 0 = nI 0 := by decide +kernel
theorem eI_82_0 : eI 82 0 = nI 0 := by decide +kernel
theorem eI_82_2 : eI 82 2 = nI 0 := by decide +kernel
theorem eI_82_4 : eI 82 4 = nI 0 := by decide +kernel
theorem eI_82_6 : eI 82 6 = nI 0 := by decide +kernel
theorem eI_82_7 : eI 82 7 = nI 0 := by decide +kernel
theorem eI_82_9 : eI 82 9 = nI 0 := by decide +kernel
theorem eI_0_9 : eI 0 9 = nI 0 := by decide +kernel
theorem eI_82_37 : eI 82 37 = nI 0 := by decide +kernel
theorem eI_0_7 : eI 0 7 = nI 0 := by decide +kernel
theorem eI_82_22 : eI 82 22 = nI 0 := by decide +kernel
theorem eI_82_48 : eI 82 48 = nI 0 := by decide +kernel
theorem eI_0_4 : eI 0 4 = nI 0 := by decide +kernel
theorem eI_82_50 : eI 82 50 = nI 0 := by decide +kernel
theorem eI_63 : ∀ s, s < 4 → eI 63 s = -1 := by decide +kernel
theorem eI_64 : ∀ s, s < 4 → eI 64 s = nI 0 := by decide +kernel
theorem eI_104 : ∀ s, s < 4 → eI 104 s = -1 := by decide +kernel
theorem eI_105 : ∀ s, s < 4 → eI 105 s = nI 0 := by decide +kernel
theorem eI_66 : ∀ s, s < 4 → eI 66 s = nI 3 := by decide +kernel
theorem eI_107 : ∀ s, s < 4 → eI 107 s = -1 := by decide +kernel
