theorem hfs_cg {o : Nat} {I : hI} {J : hJ} {R R2 : hR} {a : Nat} {ts : List Nat} (h : ∀ j, j < ts.length → 3 ≤ ts.getD j 0 → R a j = R2 a j) : hfs o I J R a ts = hfs o I J R2 a ts := by
  apply List.ext_getElem?
  intro j
  unfold hfs
  rw [List.getElem?_mapIdx, List.getElem?_mapIdx]
  cases hz : ts[j]? with
  | none => rfl
  | some t =>
    have hlt := (List.getElem?_eq_some_iff.mp hz).1
    have hg : ts.getD j 0 = t := by rw [List.getD_eq_getElem?_getD, hz]; rfl
    match t, hg with
    | 0, _ => rfl
    | 1, _ => rfl
    | 2, _ => rfl
    | t + 3, hg => exact congrArg (fun q => some (va_rf (q.map (fun x => o + x)))) (h j hlt (by omega))
theorem hce_arr {o : Nat} {aC : Nat → ClassId} {I : hI} {J : hJ} {R R2 : hR} {a : Nat} {z : Nat × Nat} (h : z.1 ≤ 3) : hce o aC I J R a z = hce o aC I J R2 a z := by
  obtain ⟨k, n⟩ := z
  match k, h with
  | 0, _ => rfl
  | 1, _ => rfl
  | 2, _ => rfl
  | 3, _ => rfl
theorem hce_obj {o : Nat} {aC : Nat → ClassId} {I : hI} {J : hJ} {R R2 : hR} {a c n : Nat} (h : ∀ j, j < (hFT c).length → 3 ≤ (hFT c).getD j 0 → R a j = R2 a j) : hce o aC I J R a (c + 5, n) = hce o aC I J R2 a (c + 5, n) := congrArg (fun q => (Sum.inr (c, q) : va_E)) (hfs_cg h)
theorem eR_lo : ∀ j, j < 7 → eR 69 j = hRR none none 69 j := by decide +kernel
set_option maxRecDepth 100000 in
theorem eR_up : eR 69 = va_up (va_up (va_up (va_up (va_up (va_up (fun _ => none) 1 (some 70)) 2 (some 72)) 3 (some 74)) 4 (some 76)) 5 (some 78)) 6 (some 80) := by
  rfl
theorem eR_69a : ∀ j, eR 69 j = hRR none none 69 j := fun j => by
  by_cases h : j < 7
  · exact eR_lo j h
  · rw [eR_up]
    unfold va_up
    rw [if_neg (by omega), if_neg (by omega), if_neg (by omega), if_neg (by omega), if_neg (by omega), if_neg (by omega)]
    obtain ⟨q, rfl⟩ : ∃ q, j = q + 7 := ⟨j - 7, by omega⟩
    rfl
theorem hsh_k : ∀ i, i < 113 → (hSH.getD i (0, 0)).1 ≤ 3 ∨ i = 69 ∨ i = 0 ∨ i = 1 ∨ i = 2 ∨ i = 12 ∨ i = 28 ∨ i = 29 ∨ i = 39 ∨ i = 55 ∨ i = 70 ∨ i = 72 ∨ i = 74 ∨ i = 76 ∨ i = 78 ∨ i = 80 ∨ i = 82 := by decide +kernel
theorem eRo_0 : ∀ j, j < (hFT 9).length → 3 ≤ (hFT 9).getD j 0 → eR 0 j = hRR none none 0 j := by decide +kernel
theorem eRo_1 : ∀ j, j < (hFT 8).length → 3 ≤ (hFT 8).getD j 0 → eR 1 j = hRR none none 1 j := by decide +kernel
theorem eRo_2 : ∀ j, j < (hFT 5).length → 3 ≤ (hFT 5).getD j 0 → eR 2 j = hRR none none 2 j := by decide +kernel
theorem eRo_12 : ∀ j, j < (hFT 3).length → 3 ≤ (hFT 3).getD j 0 → eR 12 j = hRR none none 12 j := by decide +kernel
theorem eRo_28 : ∀ j, j < (hFT 8).length → 3 ≤ (hFT 8).getD j 0 → eR 28 j = hRR none none 28 j := by decide +kernel
theorem eRo_29 : ∀ j, j < (hFT 5).length → 3 ≤ (hFT 5).getD j 0 → eR 29 j = hRR none none 29 j := by decide +kernel
theorem eRo_39 : ∀ j, j < (hFT 3).length → 3 ≤ (hFT 3).getD j 0 → eR 39 j = hRR none none 39 j := by decide +kernel
theorem eRo_55 : ∀ j, j < (hFT 3).length → 3 ≤ (hFT 3).getD j 0 → eR 55 j = hRR none none 55 j := by decide +kernel
theorem eRo_70 : ∀ j, j < (hFT 4).length → 3 ≤ (hFT 4).getD j 0 → eR 70 j = hRR none none 70 j := by decide +kernel
theorem eRo_72 : ∀ j, j < (hFT 6).length → 3 ≤ (hFT 6).getD j 0 → eR 72 j = hRR none none 72 j := by decide +kernel
theorem eRo_74 : ∀ j, j < (hFT 0).length → 3 ≤ (hFT 0).getD j 0 → eR 74 j = hRR none none 74 j := by decide +kernel
theorem eRo_76 : ∀ j, j < (hFT 1).length → 3 ≤ (hFT 1).getD j 0 → eR 76 j = hRR none none 76 j := by decide +kernel
theorem eRo_78 : ∀ j, j < (hFT 2).length → 3 ≤ (hFT 2).getD j 0 → eR 78 j = hRR none none 78 j := by decide +kernel
theorem eRo_80 : ∀ j, j < (hFT 7).length → 3 ≤ (hFT 7).getD j 0 → eR 80 j = hRR none none 80 j := by decide +kernel
theorem eRo_82 : ∀ j, j < (hFT 10).length → 3 ≤ (hFT 10).getD j 0 → eR 82 j = hRR none none 82 j := by decide +kernel
theorem eR_ws (I : hI) (J : hJ) (o : Nat) (aC : Nat → ClassId) : hws o aC hSH I J eR = hws o aC hSH I J (hRR none none) := by
  refine hws_cg (fun i z h => ?_)
  have hlt : i < 113 := (List.getElem?_eq_some_iff.mp h).1
  have hg : hSH.getD i (0, 0) = z := by rw [List.getD_eq_getElem?_getD, h]; rfl
  have hk := hsh_k i hlt
  rw [hg] at hk
  rcases hk with hk | rfl | rfl | rfl | rfl | rfl | rfl | rfl | rfl | rfl | rfl | rfl | rfl | rfl | rfl | rfl | rfl
  · exact hce_arr hk
  · obtain rfl : z = (4, 7) := by rw [← hg]; decide +kernel
    show (Sum.inl _ : va_E) = Sum.inl _
    have e : eR 69 = hRR none none 69 := funext eR_69a
    rw [e]
  · obtain rfl : z = (9 + 5, 0) := by rw [← hg]; decide +kernel
    exact hce_obj eRo_0
  · obtain rfl : z = (8 + 5, 0) := by rw [← hg]; decide +kernel
    exact hce_obj eRo_1
  · obtain rfl : z = (5 + 5, 0) := by rw [← hg]; decide +kernel
    exact hce_obj eRo_2
  · obtain rfl : z = (3 + 5, 0) := by rw [← hg]; decide +kernel
    exact hce_obj eRo_12
  · obtain rfl : z = (8 + 5, 0) := by rw [← hg]; decide +kernel
    exact hce_obj eRo_28
  · obtain rfl : z = (5 + 5, 0) := by rw [← hg]; decide +kernel
    exact hce_obj eRo_29
  · obtain rfl : z = (3 + 5, 0) := by rw [← hg]; decide +kernel
    exact hce_obj eRo_39
  · obtain rfl : z = (3 + 5, 0) := by rw [← hg]; decide +kernel
    exact hce_obj eRo_55
  · obtain rfl : z = (4 + 5, 0) := by rw [← hg]; decide +kernel
    exact hce_obj eRo_70
  · obtain rfl : z = (6 + 5, 0) := by rw [← hg]; decide +kernel
    exact hce_obj eRo_72
  · obtain rfl : z = (0 + 5, 0) := by rw [← hg]; decide +kernel
    exact hce_obj eRo_74
  · obtain rfl : z = (1 + 5, 0) := by rw [← hg]; decide +kernel
    exact hce_obj eRo_76
  · obtain rfl : z = (2 + 5, 0) := by rw [← hg]; decide +kernel
    exact hce_obj eRo_78
  · obtain rfl : z = (7 + 5, 0) := by rw [← hg]; decide +kernel
    exact hce_obj eRo_80
  · obtain rfl : z = (10 + 5, 0) := by rw [← hg]; decide +kernel
    exact hce_obj eRo_82
theorem INV_0 : INV eI eJ none := by
  refine ⟨⟨0, 0, 0, 0, 0, 0, fun _ => 0, fun _ => 0, fun _ => 0, fun _ => 0, fun _ => 0, fun _ => 0, fun _ => 0, fun _ => 0, fun _ => 0, fun _ => 0, fun _ => 0, fun _ => 0, fun _ => 0, fun _ => true, fun _ _ _ _ => true, ?_, ?_⟩, ⟨0, fun _ => 0, ⟨eI_0_9, by omega, fun q hq => absurd hq (by omega)⟩, ⟨eI_82_37, by omega, fun q hq => absurd hq (by omega)⟩⟩, ⟨fun _ => -1, fun _ => 0, fun _ _ => 0, fun s hs => ⟨eI_63 s hs, eI_64 s hs, Nat.zero_le _, .inl rfl, fun q hq => absurd (show q < 0 from hq) (by omega)⟩, fun s hs => ⟨eI_104 s hs, eI_105 s hs, Nat.zero_le _, .inl rfl, fun q hq => absurd (show q < 0 from hq) (by omega)⟩⟩, ⟨0, fun _ => 0, ⟨eI_0_7, by omega, fun q hq => absurd hq (by omega)⟩, ⟨eI_82_22, by omega, fun q hq => absurd hq (by omega)⟩⟩, ⟨fun _ => 3, fun _ => 0, fun _ => 0, fun s hs => ⟨Nat.le_refl 3, eI_66 s hs, fun z => absurd (show 3 ≤ 2 from z) (by omega), fun z => absurd (show 3 = 2 from z) (by omega)⟩, fun s hs => ⟨Nat.le_refl 3, eI_107 s hs, fun z => absurd (show 3 ≤ 2 from z) (by omega), fun z => absurd (show 3 = 2 from z) (by omega)⟩⟩, ⟨0, fun _ => 0, .inl ⟨rfl, rfl⟩, ⟨eI_82_48, by omega, fun q hq => absurd hq (by omega)⟩⟩, .inl ⟨eI_0_4, eI_82_50⟩⟩
  · exact ⟨⟨⟨eI_2_0, eI_2_2, fun q hq => absurd hq (by omega), fun q hq => absurd hq (by omega)⟩, fun q hq => absurd hq (by omega), fun q hq => absurd hq (by omega), fun q hq => absurd hq (by omega)⟩, ⟨by omega, by omega, fun k hk => absurd hk (by omega), fun s hs => absurd hs (by omega), fun k hk => absurd hk (by omega)⟩, ⟨eI_1_2, eI_1_5, eI_1_6, fun q hq => absurd hq (by omega), fun q hq => absurd hq (by omega), fun q hq => absurd hq (by omega)⟩, ⟨by omega, by omega, by omega, fun p hp => absurd hp (by omega), fun k hk => absurd hk (by omega)⟩, ⟨eI_12_0, by omega, fun _ => 0, fun q hq => absurd hq (by omega), fun q hq => absurd hq (by omega)⟩⟩
  · exact ⟨⟨eI_82_0, eI_82_2, fun q hq => absurd hq (by omega), fun q hq => absurd hq (by omega)⟩, ⟨by omega, by omega, fun k hk => absurd hk (by omega), fun s hs => absurd hs (by omega), fun k hk => absurd hk (by omega)⟩, ⟨eI_82_4, eI_82_6, eI_82_7, fun q hq => absurd hq (by omega), fun q hq => absurd hq (by omega)⟩, ⟨by omega, by omega, by omega, fun p hp => absurd hp (by omega), fun k hk => absurd hk (by omega)⟩, ⟨eI_82_9, by omega, fun _ => 0, fun _ => 0, fun q hq => absurd hq (by omega), fun q hq => absurd hq (by omega), fun q hq => absurd hq (by omega)⟩⟩
theorem e113 : hsp 113 = hSH := by decide +kernel
theorem law_all {l : Launch} {dp L : Nat} {xs : Nat → Int32} {Q : hQ} (hL : L ≤ 384) (hQ : ∀ I J R, Q (some (.int (nI 1))) hSH I J R) : HV l (mLaw L xs) (dp + 21) 113 4297 0 [some (.retAddr 0), none, none, none] [] (hsp 0) zI zJ zR Q := by
  refine h_newC (k := 112) (n := 4279) (N := 18) (a := 0) (sh' := hsp 1) dL_law_0 cl_L_7 rfl rfl ?_
  refine h_dup dL_law_3 rfl ?_
  refine h_callI (k := 31) (n := 2144) (k' := 81) (n' := 2135) (As := []) dL_law_4 k1_18 oIX11_init rfl rfl (Nat.le_of_ble_eq_true rfl) ?_
  refine n_X11_init_0 ?_
  refine h_astore_n dL_law_7 (Nat.le_of_ble_eq_true rfl) ?_
  refine h_newC (k := 30) (n := 2090) (N := 54) (a := 82) (sh' := hsp 83) dL_law_8 cl_L_10 rfl rfl ?_
  refine h_dup dL_law_11 rfl ?_
  refine h_callI (k := 0) (n := 0) (k' := 30) (n' := 2090) (As := []) dL_law_12 k5_0 oIX12_init rfl rfl (Nat.le_of_ble_eq_true rfl) ?_
  refine n_X12_init_82 ?_
  refine h_astore_n dL_law_15 (Nat.le_of_ble_eq_true rfl) ?_
  refine h_iconst dL_law_16 ci_0 ?_
  refine h_istore_n dL_law_17 (Nat.le_of_ble_eq_true rfl) ?_
  rw [e113]
  refine HV_sw (I2 := eI) (J2 := eJ) (R2 := hRR none none) (fun o aC => eR_ws eI eJ o aC) ?_
  exact law_loop hL hQ 401 0 eI eJ none none (by omega) (by omega) INV_0
