def upt (f : Nat → Bool) (k : Nat) : Nat → Bool := fun j => if j = k then true else f j
theorem upt_s (f : Nat → Bool) (k : Nat) : upt f k k = true := if_pos rfl
theorem upt_n (f : Nat → Bool) {k j : Nat} (h : j ≠ k) : upt f k j = f j := if_neg h
theorem viewW_sight {ns np ml nk kn s p w : Nat} {pp pm ki fr tg wh : Nat → Nat} {sn : Nat → Int32} {u : Int32} (hv : viewW ns np ml nk pp pm ki fr tg wh sn) (h1 : 1 ≤ kn) (h5 : kn ≤ 5) (hs : s < ns) (hp : p < np) (hu1 : -99 ≤ u.toInt) (hu2 : u.toInt ≤ 999) (hw1 : w / 100 ≤ 23) (hw2 : w % 100 ≤ 40) (h24 : nk < 24) : viewW ns np ml (nk + 1) pp pm (upn ki nk kn) (upn fr nk s) (upn tg nk p) (upn wh nk w) (upd sn nk u) := by
  obtain ⟨hn8, hm2, hn24, hpW, hsW⟩ := hv
  refine ⟨hn8, hm2, by omega, hpW, fun k hk => ?_⟩
  by_cases e : k = nk
  · subst e
    rw [upn_s, upn_s, upn_s, upn_s, upd_s]
    exact ⟨h1, h5, hs, hp, hw1, hw2, hu1, hu2⟩
  · rw [upn_n _ _ e, upn_n _ _ e, upn_n _ _ e, upn_n _ _ e, upd_n _ _ e]
    exact hsW k (by omega)
theorem cG_sight {ns nl np ml nk nw : Nat} {pl fa fb sl pp pm ki fr tg wh bw : Nat → Nat} {rs sn : Nat → Int32} {fl : Nat → Bool} {qw : Nat → Nat → Nat → Nat → Bool} {I : hI} {kn s p w : Nat} {u : Int32} (hG : cG I ns nl np ml nk nw pl fa fb sl pp pm ki fr tg wh bw rs sn fl qw) (h1 : 1 ≤ kn) (h5 : kn ≤ 5) (hs : s < ns) (hp : p < np) (hu1 : -99 ≤ u.toInt) (hu2 : u.toInt ≤ 999) (hw1 : w / 100 ≤ 23) (hw2 : w % 100 ≤ 40) (h24 : nk < 24) : cG (upI (upI (upI (upI (upI (upI (upI I 20 nk (nI kn)) 21 nk (nI s)) 22 nk (nI p)) 23 nk u) 24 nk (nI w)) 1 12 (I 1 12 &&& ((nI 1 <<< (nI nk &&& 31)) ^^^ -1))) 1 6 (nI (nk + 1))) ns nl np ml (nk + 1) nw pl fa fb sl pp pm (upn ki nk kn) (upn fr nk s) (upn tg nk p) (upn wh nk w) bw rs (upd sn nk u) (upt fl nk) qw := by
  obtain ⟨hNF, hw, ⟨hnp, hml, hnk, hpt, hsi, hbt⟩, hvw, hL⟩ := hG
  have hn24 := hvw.2.2.1
  refine ⟨hNF, hw, ⟨hnp, hml, rfl, hpt, fun k hk => ?_, fun k hk => ?_⟩, viewW_sight hvw h1 h5 hs hp hu1 hu2 hw1 hw2 h24, hL⟩
  · show upd (I 20) nk (nI kn) k = _ ∧ upd (I 21) nk (nI s) k = _ ∧ upd (I 22) nk (nI p) k = _ ∧ upd (I 23) nk u k = _ ∧ upd (I 24) nk (nI w) k = _
    by_cases e : k = nk
    · subst e
      rw [upn_s, upn_s, upn_s, upn_s, upd_s, upd_s, upd_s, upd_s, upd_s, upd_s]
      exact ⟨rfl, rfl, rfl, rfl, rfl⟩
    · rw [upn_n _ _ e, upn_n _ _ e, upn_n _ _ e, upn_n _ _ e, upd_n _ _ e, upd_n _ _ e, upd_n _ _ e, upd_n _ _ e, upd_n _ _ e, upd_n _ _ e]
      exact hsi k (by omega)
  · show (I 1 12 &&& ((nI 1 <<< (nI nk &&& 31)) ^^^ -1)) >>> (nI k &&& 31) &&& nI 1 = nI 1 ↔ _
    rw [b_test _ (by omega), b_clr _ (by omega) (by omega)]
    by_cases e : k = nk
    · subst e
      rw [upt_s]
      simp
    · rw [upt_n _ e]
      have q := hbt k (by omega)
      rw [b_test _ (by omega)] at q
      simp [e, q]
theorem rG_sight {ns nl np ml nk nw : Nat} {pl fa fb sl pp pm ki fr tg wh bw : Nat → Nat} {rs sn : Nat → Int32} {fl : Nat → Bool} {qw : Nat → Nat → Nat → Nat → Bool} {I : hI} {kn s p w : Nat} {u : Int32} (hG : rG I ns nl np ml nk nw pl fa fb sl pp pm ki fr tg wh bw rs sn fl qw) (h1 : 1 ≤ kn) (h5 : kn ≤ 5) (hs : s < ns) (hp : p < np) (hu1 : -99 ≤ u.toInt) (hu2 : u.toInt ≤ 999) (hw1 : w / 100 ≤ 23) (hw2 : w % 100 ≤ 40) (h24 : nk < 24) : rG (upI (upI (upI (upI (upI (upI (upI (upI I 86 (7 * nk) (nI kn)) 86 (7 * nk + 1) (nI s)) 86 (7 * nk + 2) (nI p)) 86 (7 * nk + 3) u) 86 (7 * nk + 4) (nI (w / 100))) 86 (7 * nk + 5) (nI (w % 100))) 86 (7 * nk + 6) (nI 1)) 82 7 (nI (nk + 1))) ns nl np ml (nk + 1) nw pl fa fb sl pp pm (upn ki nk kn) (upn fr nk s) (upn tg nk p) (upn wh nk w) bw rs (upd sn nk u) (upt fl nk) qw := by
  obtain ⟨hN, hw, ⟨hnp, hml, hnk, hpt, hsi⟩, hvw, hL⟩ := hG
  have hn24 := hvw.2.2.1
  refine ⟨hN, hw, ⟨hnp, hml, rfl, hpt, fun k hk => ?_⟩, viewW_sight hvw h1 h5 hs hp hu1 hu2 hw1 hw2 h24, hL⟩
  show (upd (upd (upd (upd (upd (upd (upd (I 86) (7 * nk) (nI kn)) (7 * nk + 1) (nI s)) (7 * nk + 2) (nI p)) (7 * nk + 3) (u)) (7 * nk + 4) (nI (w / 100))) (7 * nk + 5) (nI (w % 100))) (7 * nk + 6) (nI 1)) (7 * k) = _ ∧ (upd (upd (upd (upd (upd (upd (upd (I 86) (7 * nk) (nI kn)) (7 * nk + 1) (nI s)) (7 * nk + 2) (nI p)) (7 * nk + 3) (u)) (7 * nk + 4) (nI (w / 100))) (7 * nk + 5) (nI (w % 100))) (7 * nk + 6) (nI 1)) (7 * k + 1) = _ ∧ (upd (upd (upd (upd (upd (upd (upd (I 86) (7 * nk) (nI kn)) (7 * nk + 1) (nI s)) (7 * nk + 2) (nI p)) (7 * nk + 3) (u)) (7 * nk + 4) (nI (w / 100))) (7 * nk + 5) (nI (w % 100))) (7 * nk + 6) (nI 1)) (7 * k + 2) = _ ∧ (upd (upd (upd (upd (upd (upd (upd (I 86) (7 * nk) (nI kn)) (7 * nk + 1) (nI s)) (7 * nk + 2) (nI p)) (7 * nk + 3) (u)) (7 * nk + 4) (nI (w / 100))) (7 * nk + 5) (nI (w % 100))) (7 * nk + 6) (nI 1)) (7 * k + 3) = _ ∧ (upd (upd (upd (upd (upd (upd (upd (I 86) (7 * nk) (nI kn)) (7 * nk + 1) (nI s)) (7 * nk + 2) (nI p)) (7 * nk + 3) (u)) (7 * nk + 4) (nI (w / 100))) (7 * nk + 5) (nI (w % 100))) (7 * nk + 6) (nI 1)) (7 * k + 4) = _ ∧ (upd (upd (upd (upd (upd (upd (upd (I 86) (7 * nk) (nI kn)) (7 * nk + 1) (nI s)) (7 * nk + 2) (nI p)) (7 * nk + 3) (u)) (7 * nk + 4) (nI (w / 100))) (7 * nk + 5) (nI (w % 100))) (7 * nk + 6) (nI 1)) (7 * k + 5) = _ ∧ (upd (upd (upd (upd (upd (upd (upd (I 86) (7 * nk) (nI kn)) (7 * nk + 1) (nI s)) (7 * nk + 2) (nI p)) (7 * nk + 3) (u)) (7 * nk + 4) (nI (w / 100))) (7 * nk + 5) (nI (w % 100))) (7 * nk + 6) (nI 1)) (7 * k + 6) = _
  by_cases e : k = nk
  · subst e
    rw [upn_s, upn_s, upn_s, upn_s, upd_s sn, upt_s]
    refine ⟨?_, ?_, ?_, ?_, ?_, ?_, ?_⟩
    · rw [upd_n _ _ (by omega)]; rw [upd_n _ _ (by omega)]; rw [upd_n _ _ (by omega)]; rw [upd_n _ _ (by omega)]; rw [upd_n _ _ (by omega)]; rw [upd_n _ _ (by omega)]; rw [upd_s]
    · rw [upd_n _ _ (by omega)]; rw [upd_n _ _ (by omega)]; rw [upd_n _ _ (by omega)]; rw [upd_n _ _ (by omega)]; rw [upd_n _ _ (by omega)]; rw [upd_s]
    · rw [upd_n _ _ (by omega)]; rw [upd_n _ _ (by omega)]; rw [upd_n _ _ (by omega)]; rw [upd_n _ _ (by omega)]; rw [upd_s]
    · rw [upd_n _ _ (by omega)]; rw [upd_n _ _ (by omega)]; rw [upd_n _ _ (by omega)]; rw [upd_s]
    · rw [upd_n _ _ (by omega)]; rw [upd_n _ _ (by omega)]; rw [upd_s]
    · rw [upd_n _ _ (by omega)]; rw [upd_s]
    · rw [upd_s]; rfl
  · rw [upn_n _ _ e, upn_n _ _ e, upn_n _ _ e, upn_n _ _ e, upd_n sn _ e, upt_n _ e]
    obtain ⟨a0, a1, a2, a3, a4, a5, a6⟩ := hsi k (by omega)
    refine ⟨?_, ?_, ?_, ?_, ?_, ?_, ?_⟩
    · rw [upd_n _ _ (by omega), upd_n _ _ (by omega), upd_n _ _ (by omega), upd_n _ _ (by omega), upd_n _ _ (by omega), upd_n _ _ (by omega), upd_n _ _ (by omega)]; exact a0
    · rw [upd_n _ _ (by omega), upd_n _ _ (by omega), upd_n _ _ (by omega), upd_n _ _ (by omega), upd_n _ _ (by omega), upd_n _ _ (by omega), upd_n _ _ (by omega)]; exact a1
    · rw [upd_n _ _ (by omega), upd_n _ _ (by omega), upd_n _ _ (by omega), upd_n _ _ (by omega), upd_n _ _ (by omega), upd_n _ _ (by omega), upd_n _ _ (by omega)]; exact a2
    · rw [upd_n _ _ (by omega), upd_n _ _ (by omega), upd_n _ _ (by omega), upd_n _ _ (by omega), upd_n _ _ (by omega), upd_n _ _ (by omega), upd_n _ _ (by omega)]; exact a3
    · rw [upd_n _ _ (by omega), upd_n _ _ (by omega), upd_n _ _ (by omega), upd_n _ _ (by omega), upd_n _ _ (by omega), upd_n _ _ (by omega), upd_n _ _ (by omega)]; exact a4
    · rw [upd_n _ _ (by omega), upd_n _ _ (by omega), upd_n _ _ (by omega), upd_n _ _ (by omega), upd_n _ _ (by omega), upd_n _ _ (by omega), upd_n _ _ (by omega)]; exact a5
    · rw [upd_n _ _ (by omega), upd_n _ _ (by omega), upd_n _ _ (by omega), upd_n _ _ (by omega), upd_n _ _ (by omega), upd_n _ _ (by omega), upd_n _ _ (by omega)]; exact a6
theorem c_many0 {l : Launch} {dp : Nat} {ns nl np ml nk nw : Nat} {pl fa fb sl pp pm ki fr tg wh bw : Nat → Nat} {rs sn : Nat → Int32} {fl : Nat → Bool} {qw : Nat → Nat → Nat → Nat → Bool} {I : hI} {J : hJ} {lt tx : Option Nat} {nr nt na : Nat} {rc : Nat → Int32} {tp tr : Nat → Nat} {Q : hQ} (hG : cG I ns nl np ml nk nw pl fa fb sl pp pm ki fr tg wh bw rs sn fl qw) (hQ : Q (some (.int (nI ns))) hSH I J (hRR lt tx)) : HC l mX11_many (dp + 3) 0 0 [.ref 0, .int (nI 0)] hSH I J (hRR lt tx) Q := by
  refine HC.of (by decide +kernel) rfl (Nat.le_of_ble_eq_true rfl) ?_
  show HV l mX11_many (dp + 3) 0 0 0 [some (.ref 0), some (.int (nI 0))] [] hSH I J (hRR lt tx) Q
  obtain ⟨⟨hN, hdo, hla, hlv⟩, hw, ⟨hnp, hml, hnk, hpt, hsi, hbt⟩, ⟨hn8, hm2, hn24, hpW, hsW⟩, hL⟩ := id hG
  obtain ⟨hns, hnl, hpl, hlg⟩ := id hN
  obtain ⟨hn6, hl12, hW, hp99, hr99⟩ := id hw
  refine h_iload_n dX11_many_0 rfl ?_
  refine h_tableIn (off := 51) (tgt := 52) dX11_many_1 (by decide) (by decide) (by decide) rfl ?_
  refine h_aload_n dX11_many_52 rfl ?_
  refine h_getR dX11_many_53 f_X11_20_9 rfl rfl ?_
  refine h_getI dX11_many_56 f_X11_105_5 rfl hns ?_
  refine h_ireturn dX11_many_59 rfl ?_
  exact hQ
theorem c_many1 {l : Launch} {dp : Nat} {ns nl np ml nk nw : Nat} {pl fa fb sl pp pm ki fr tg wh bw : Nat → Nat} {rs sn : Nat → Int32} {fl : Nat → Bool} {qw : Nat → Nat → Nat → Nat → Bool} {I : hI} {J : hJ} {lt tx : Option Nat} {nr nt na : Nat} {rc : Nat → Int32} {tp tr : Nat → Nat} {Q : hQ} (hG : cG I ns nl np ml nk nw pl fa fb sl pp pm ki fr tg wh bw rs sn fl qw) (hQ : Q (some (.int (nI nl))) hSH I J (hRR lt tx)) : HC l mX11_many (dp + 3) 0 0 [.ref 0, .int (nI 1)] hSH I J (hRR lt tx) Q := by
  refine HC.of (by decide +kernel) rfl (Nat.le_of_ble_eq_true rfl) ?_
  show HV l mX11_many (dp + 3) 0 0 0 [some (.ref 0), some (.int (nI 1))] [] hSH I J (hRR lt tx) Q
  obtain ⟨⟨hN, hdo, hla, hlv⟩, hw, ⟨hnp, hml, hnk, hpt, hsi, hbt⟩, ⟨hn8, hm2, hn24, hpW, hsW⟩, hL⟩ := id hG
  obtain ⟨hns, hnl, hpl, hlg⟩ := id hN
  obtain ⟨hn6, hl12, hW, hp99, hr99⟩ := id hw
  refine h_iload_n dX11_many_0 rfl ?_
  refine h_tableIn (off := 59) (tgt := 60) dX11_many_1 (by decide) (by decide) (by decide) rfl ?_
  refine h_aload_n dX11_many_60 rfl ?_
  refine h_getR dX11_many_61 f_X11_20_9 rfl rfl ?_
  refine h_getI dX11_many_64 f_X11_124_5 rfl hnl ?_
  refine h_ireturn dX11_many_67 rfl ?_
  exact hQ
theorem c_many2 {l : Launch} {dp : Nat} {ns nl np ml nk nw : Nat} {pl fa fb sl pp pm ki fr tg wh bw : Nat → Nat} {rs sn : Nat → Int32} {fl : Nat → Bool} {qw : Nat → Nat → Nat → Nat → Bool} {I : hI} {J : hJ} {lt tx : Option Nat} {nr nt na : Nat} {rc : Nat → Int32} {tp tr : Nat → Nat} {Q : hQ} (hG : cG I ns nl np ml nk nw pl fa fb sl pp pm ki fr tg wh bw rs sn fl qw) (hQ : Q (some (.int (nI np))) hSH I J (hRR lt tx)) : HC l mX11_many (dp + 3) 0 0 [.ref 0, .int (nI 2)] hSH I J (hRR lt tx) Q := by
  refine HC.of (by decide +kernel) rfl (Nat.le_of_ble_eq_true rfl) ?_
  show HV l mX11_many (dp + 3) 0 0 0 [some (.ref 0), some (.int (nI 2))] [] hSH I J (hRR lt tx) Q
  obtain ⟨⟨hN, hdo, hla, hlv⟩, hw, ⟨hnp, hml, hnk, hpt, hsi, hbt⟩, ⟨hn8, hm2, hn24, hpW, hsW⟩, hL⟩ := id hG
  obtain ⟨hns, hnl, hpl, hlg⟩ := id hN
  obtain ⟨hn6, hl12, hW, hp99, hr99⟩ := id hw
  refine h_iload_n dX11_many_0 rfl ?_
  refine h_tableIn (off := 67) (tgt := 68) dX11_many_1 (by decide) (by decide) (by decide) rfl ?_
  refine h_aload_n dX11_many_68 rfl ?_
  refine h_getR dX11_many_69 f_X11_10_9 rfl rfl ?_
  refine h_getI dX11_many_72 f_X11_166_8 rfl hnp ?_
  refine h_ireturn dX11_many_75 rfl ?_
  exact hQ
theorem c_many3 {l : Launch} {dp : Nat} {ns nl np ml nk nw : Nat} {pl fa fb sl pp pm ki fr tg wh bw : Nat → Nat} {rs sn : Nat → Int32} {fl : Nat → Bool} {qw : Nat → Nat → Nat → Nat → Bool} {I : hI} {J : hJ} {lt tx : Option Nat} {nr nt na : Nat} {rc : Nat → Int32} {tp tr : Nat → Nat} {Q : hQ} (hG : cG I ns nl np ml nk nw pl fa fb sl pp pm ki fr tg wh bw rs sn fl qw) (hQ : Q (some (.int (nI nk))) hSH I J (hRR lt tx)) : HC l mX11_many (dp + 3) 0 0 [.ref 0, .int (nI 3)] hSH I J (hRR lt tx) Q := by
  refine HC.of (by decide +kernel) rfl (Nat.le_of_ble_eq_true rfl) ?_
  show HV l mX11_many (dp + 3) 0 0 0 [some (.ref 0), some (.int (nI 3))] [] hSH I J (hRR lt tx) Q
  obtain ⟨⟨hN, hdo, hla, hlv⟩, hw, ⟨hnp, hml, hnk, hpt, hsi, hbt⟩, ⟨hn8, hm2, hn24, hpW, hsW⟩, hL⟩ := id hG
  obtain ⟨hns, hnl, hpl, hlg⟩ := id hN
  obtain ⟨hn6, hl12, hW, hp99, hr99⟩ := id hw
  refine h_iload_n dX11_many_0 rfl ?_
  refine h_tableIn (off := 75) (tgt := 76) dX11_many_1 (by decide) (by decide) (by decide) rfl ?_
  refine h_aload_n dX11_many_76 rfl ?_
  refine h_getR dX11_many_77 f_X11_10_9 rfl rfl ?_
  refine h_getI dX11_many_80 f_X11_191_8 rfl hnk ?_
  refine h_ireturn dX11_many_83 rfl ?_
  exact hQ
theorem c_many4 {l : Launch} {dp : Nat} {ns nl np ml nk nw : Nat} {pl fa fb sl pp pm ki fr tg wh bw : Nat → Nat} {rs sn : Nat → Int32} {fl : Nat → Bool} {qw : Nat → Nat → Nat → Nat → Bool} {I : hI} {J : hJ} {lt tx : Option Nat} {nr nt na : Nat} {rc : Nat → Int32} {tp tr : Nat → Nat} {Q : hQ} (hG : cG I ns nl np ml nk nw pl fa fb sl pp pm ki fr tg wh bw rs sn fl qw) (hQ : Q (some (.int (nI (cntK (cnK nl fa fb sl fr fl) nk)))) hSH I J (hRR lt tx)) : HC l mX11_many (dp + 3) 0 0 [.ref 0, .int (nI 4)] hSH I J (hRR lt tx) Q := by
  refine HC.of (by decide +kernel) rfl (Nat.le_of_ble_eq_true rfl) ?_
  show HV l mX11_many (dp + 3) 0 0 0 [some (.ref 0), some (.int (nI 4))] [] hSH I J (hRR lt tx) Q
  obtain ⟨⟨hN, hdo, hla, hlv⟩, hw, ⟨hnp, hml, hnk, hpt, hsi, hbt⟩, ⟨hn8, hm2, hn24, hpW, hsW⟩, hL⟩ := id hG
  obtain ⟨hns, hnl, hpl, hlg⟩ := id hN
  obtain ⟨hn6, hl12, hW, hp99, hr99⟩ := id hw
  refine h_iload_n dX11_many_0 rfl ?_
  refine h_tableIn (off := 83) (tgt := 84) dX11_many_1 (by decide) (by decide) (by decide) rfl ?_
  refine h_aload_n dX11_many_84 rfl ?_
  refine h_getR dX11_many_85 f_X11_10_9 rfl rfl ?_
  refine h_cV0 dX11_many_88 k4_215 oVX10_countedSights rfl rfl ?_
  refine c_countedSights hG ?_
  refine h_ireturn dX11_many_91 rfl ?_
  exact hQ
theorem c_many5 {l : Launch} {dp : Nat} {ns nl np ml nk nw : Nat} {pl fa fb sl pp pm ki fr tg wh bw : Nat → Nat} {rs sn : Nat → Int32} {fl : Nat → Bool} {qw : Nat → Nat → Nat → Nat → Bool} {I : hI} {J : hJ} {lt tx : Option Nat} {nr nt na : Nat} {rc : Nat → Int32} {tp tr : Nat → Nat} {Q : hQ} (hG : cG I ns nl np ml nk nw pl fa fb sl pp pm ki fr tg wh bw rs sn fl qw) (hQ : Q (some (.int (nI nw))) hSH I J (hRR lt tx)) : HC l mX11_many (dp + 3) 0 0 [.ref 0, .int (nI 5)] hSH I J (hRR lt tx) Q := by
  refine HC.of (by decide +kernel) rfl (Nat.le_of_ble_eq_true rfl) ?_
  show HV l mX11_many (dp + 3) 0 0 0 [some (.ref 0), some (.int (nI 5))] [] hSH I J (hRR lt tx) Q
  obtain ⟨⟨hN, hdo, hla, hlv⟩, hw, ⟨hnp, hml, hnk, hpt, hsi, hbt⟩, ⟨hn8, hm2, hn24, hpW, hsW⟩, hL⟩ := id hG
  obtain ⟨hns, hnl, hpl, hlg⟩ := id hN
  obtain ⟨hn6, hl12, hW, hp99, hr99⟩ := id hw
  refine h_iload_n dX11_many_0 rfl ?_
  refine h_tableIn (off := 91) (tgt := 92) dX11_many_1 (by decide) (by decide) (by decide) rfl ?_
  refine h_aload_n dX11_many_92 rfl ?_
  refine h_getR dX11_many_93 f_X11_25_9 rfl rfl ?_
  refine h_getI dX11_many_96 f_X11_294_3 rfl hL.1 ?_
  refine h_ireturn dX11_many_99 rfl ?_
  exact hQ
theorem c_many6 {l : Launch} {dp : Nat} {ns nl np ml nk nw : Nat} {pl fa fb sl pp pm ki fr tg wh bw : Nat → Nat} {rs sn : Nat → Int32} {fl : Nat → Bool} {qw : Nat → Nat → Nat → Nat → Bool} {I : hI} {J : hJ} {lt tx : Option Nat} {nr nt na : Nat} {rc : Nat → Int32} {tp tr : Nat → Nat} {Q : hQ} (hG : cG I ns nl np ml nk nw pl fa fb sl pp pm ki fr tg wh bw rs sn fl qw) (hRw : cR I nr rc) (hQ : Q (some (.int (nI nr))) hSH I J (hRR lt tx)) : HC l mX11_many (dp + 3) 0 0 [.ref 0, .int (nI 6)] hSH I J (hRR lt tx) Q := by
  refine HC.of (by decide +kernel) rfl (Nat.le_of_ble_eq_true rfl) ?_
  show HV l mX11_many (dp + 3) 0 0 0 [some (.ref 0), some (.int (nI 6))] [] hSH I J (hRR lt tx) Q
  obtain ⟨⟨hN, hdo, hla, hlv⟩, hw, ⟨hnp, hml, hnk, hpt, hsi, hbt⟩, ⟨hn8, hm2, hn24, hpW, hsW⟩, hL⟩ := id hG
  obtain ⟨hns, hnl, hpl, hlg⟩ := id hN
  obtain ⟨hn6, hl12, hW, hp99, hr99⟩ := id hw
  refine h_iload_n dX11_many_0 rfl ?_
  refine h_tableIn (off := 99) (tgt := 100) dX11_many_1 (by decide) (by decide) (by decide) rfl ?_
  refine h_aload_n dX11_many_100 rfl ?_
  refine h_getI dX11_many_101 f_X11_51_9 rfl hRw.1 ?_
  refine h_ireturn dX11_many_104 rfl ?_
  exact hQ
theorem c_many7 {l : Launch} {dp : Nat} {ns nl np ml nk nw : Nat} {pl fa fb sl pp pm ki fr tg wh bw : Nat → Nat} {rs sn : Nat → Int32} {fl : Nat → Bool} {qw : Nat → Nat → Nat → Nat → Bool} {I : hI} {J : hJ} {lt tx : Option Nat} {nr nt na : Nat} {rc : Nat → Int32} {tp tr : Nat → Nat} {Q : hQ} (hG : cG I ns nl np ml nk nw pl fa fb sl pp pm ki fr tg wh bw rs sn fl qw) (hTp : cT I nt tp) (hQ : Q (some (.int (nI nt))) hSH I J (hRR lt tx)) : HC l mX11_many (dp + 3) 0 0 [.ref 0, .int (nI 7)] hSH I J (hRR lt tx) Q := by
  refine HC.of (by decide +kernel) rfl (Nat.le_of_ble_eq_true rfl) ?_
  show HV l mX11_many (dp + 3) 0 0 0 [some (.ref 0), some (.int (nI 7))] [] hSH I J (hRR lt tx) Q
  obtain ⟨⟨hN, hdo, hla, hlv⟩, hw, ⟨hnp, hml, hnk, hpt, hsi, hbt⟩, ⟨hn8, hm2, hn24, hpW, hsW⟩, hL⟩ := id hG
  obtain ⟨hns, hnl, hpl, hlg⟩ := id hN
  obtain ⟨hn6, hl12, hW, hp99, hr99⟩ := id hw
  refine h_iload_n dX11_many_0 rfl ?_
  refine h_tableIn (off := 104) (tgt := 105) dX11_many_1 (by decide) (by decide) (by decide) rfl ?_
  refine h_aload_n dX11_many_105 rfl ?_
  refine h_getI dX11_many_106 f_X11_43_9 rfl hTp.1 ?_
  refine h_ireturn dX11_many_109 rfl ?_
  exact hQ
theorem c_many81 {l : Launch} {dp : Nat} {na : Nat} {tr : Nat → Nat} {I : hI} {J : hJ} {tx : Option Nat} {Q : hQ} (hT : qTr I 70 na tr) (hQ : Q (some (.int (nI na))) hSH I J (hRR (some 70) tx))  : HC l mX11_many (dp + 3) 0 0 [.ref 0, .int (nI 8)] hSH I J (hRR (some 70) tx) Q := by
  refine HC.of (by decide +kernel) rfl (Nat.le_of_ble_eq_true rfl) ?_
  show HV l mX11_many (dp + 3) 0 0 0 [some (.ref 0), some (.int (nI 8))] [] hSH I J (hRR (some 70) tx) Q
  refine h_iload_n dX11_many_0 rfl ?_
  refine h_tableIn (off := 109) (tgt := 110) dX11_many_1 (by decide) (by decide) (by decide) rfl ?_
  refine h_aload_n dX11_many_110 rfl ?_
  refine h_getR dX11_many_111 f_X11_79_9 rfl rfl ?_
  refine h_ifnonnull (tgt := 121) dX11_many_114 rfl ?_
  refine h_aload_n dX11_many_121 rfl ?_
  refine h_getR dX11_many_122 f_X11_79_9 rfl rfl ?_
  refine h_getI dX11_many_125 f_X11_353_4 rfl hT.1 ?_
  refine h_ireturn dX11_many_128 rfl ?_
  exact hQ
theorem c_many82 {l : Launch} {dp : Nat} {na : Nat} {tr : Nat → Nat} {I : hI} {J : hJ} {tx : Option Nat} {Q : hQ} (hT : qTr I 72 na tr) (hQ : Q (some (.int (nI na))) hSH I J (hRR (some 72) tx))  : HC l mX11_many (dp + 3) 0 0 [.ref 0, .int (nI 8)] hSH I J (hRR (some 72) tx) Q := by
  refine HC.of (by decide +kernel) rfl (Nat.le_of_ble_eq_true rfl) ?_
  show HV l mX11_many (dp + 3) 0 0 0 [some (.ref 0), some (.int (nI 8))] [] hSH I J (hRR (some 72) tx) Q
  refine h_iload_n dX11_many_0 rfl ?_
  refine h_tableIn (off := 109) (tgt := 110) dX11_many_1 (by decide) (by decide) (by decide) rfl ?_
  refine h_aload_n dX11_many_110 rfl ?_
  refine h_getR dX11_many_111 f_X11_79_9 rfl rfl ?_
  refine h_ifnonnull (tgt := 121) dX11_many_114 rfl ?_
  refine h_aload_n dX11_many_121 rfl ?_
  refine h_getR dX11_many_122 f_X11_79_9 rfl rfl ?_
  refine h_getI dX11_many_125 f_X11_353_6 rfl hT.1 ?_
  refine h_ireturn dX11_many_128 rfl ?_
  exact hQ
theorem c_many83 {l : Launch} {dp : Nat} {na : Nat} {tr : Nat → Nat} {I : hI} {J : hJ} {tx : Option Nat} {Q : hQ} (hT : qTr I 74 na tr) (hQ : Q (some (.int (nI na))) hSH I J (hRR (some 74) tx))  : HC l mX11_many (dp + 3) 0 0 [.ref 0, .int (nI 8)] hSH I J (hRR (some 74) tx) Q := by
  refine HC.of (by decide +kernel) rfl (Nat.le_of_ble_eq_true rfl) ?_
  show HV l mX11_many (dp + 3) 0 0 0 [some (.ref 0), some (.int (nI 8))] [] hSH I J (hRR (some 74) tx) Q
  refine h_iload_n dX11_many_0 rfl ?_
  refine h_tableIn (off := 109) (tgt := 110) dX11_many_1 (by decide) (by decide) (by decide) rfl ?_
  refine h_aload_n dX11_many_110 rfl ?_
  refine h_getR dX11_many_111 f_X11_79_9 rfl rfl ?_
  refine h_ifnonnull (tgt := 121) dX11_many_114 rfl ?_
  refine h_aload_n dX11_many_121 rfl ?_
  refine h_getR dX11_many_122 f_X11_79_9 rfl rfl ?_
  refine h_getI dX11_many_125 f_X11_353_0 rfl hT.1 ?_
  refine h_ireturn dX11_many_128 rfl ?_
  exact hQ
theorem c_many84 {l : Launch} {dp : Nat} {na : Nat} {tr : Nat → Nat} {I : hI} {J : hJ} {tx : Option Nat} {Q : hQ} (hT : qTr I 76 na tr) (hQ : Q (some (.int (nI na))) hSH I J (hRR (some 76) tx))  : HC l mX11_many (dp + 3) 0 0 [.ref 0, .int (nI 8)] hSH I J (hRR (some 76) tx) Q := by
  refine HC.of (by decide +kernel) rfl (Nat.le_of_ble_eq_true rfl) ?_
  show HV l mX11_many (dp + 3) 0 0 0 [some (.ref 0), some (.int (nI 8))] [] hSH I J (hRR (some 76) tx) Q
  refine h_iload_n dX11_many_0 rfl ?_
  refine h_tableIn (off := 109) (tgt := 110) dX11_many_1 (by decide) (by decide) (by decide) rfl ?_
  refine h_aload_n dX11_many_110 rfl ?_
  refine h_getR dX11_many_111 f_X11_79_9 rfl rfl ?_
  refine h_ifnonnull (tgt := 121) dX11_many_114 rfl ?_
  refine h_aload_n dX11_many_121 rfl ?_
  refine h_getR dX11_many_122 f_X11_79_9 rfl rfl ?_
  refine h_getI dX11_many_125 f_X11_353_1 rfl hT.1 ?_
  refine h_ireturn dX11_many_128 rfl ?_
  exact hQ
theorem c_many85 {l : Launch} {dp : Nat} {na : Nat} {tr : Nat → Nat} {I : hI} {J : hJ} {tx : Option Nat} {Q : hQ} (hT : qTr I 78 na tr) (hQ : Q (some (.int (nI na))) hSH I J (hRR (some 78) tx))  : HC l mX11_many (dp + 3) 0 0 [.ref 0, .int (nI 8)] hSH I J (hRR (some 78) tx) Q := by
  refine HC.of (by decide +kernel) rfl (Nat.le_of_ble_eq_true rfl) ?_
  show HV l mX11_many (dp + 3) 0 0 0 [some (.ref 0), some (.int (nI 8))] [] hSH I J (hRR (some 78) tx) Q
  refine h_iload_n dX11_many_0 rfl ?_
  refine h_tableIn (off := 109) (tgt := 110) dX11_many_1 (by decide) (by decide) (by decide) rfl ?_
  refine h_aload_n dX11_many_110 rfl ?_
  refine h_getR dX11_many_111 f_X11_79_9 rfl rfl ?_
  refine h_ifnonnull (tgt := 121) dX11_many_114 rfl ?_
  refine h_aload_n dX11_many_121 rfl ?_
  refine h_getR dX11_many_122 f_X11_79_9 rfl rfl ?_
  refine h_getI dX11_many_125 f_X11_353_2 rfl hT.1 ?_
  refine h_ireturn dX11_many_128 rfl ?_
  exact hQ
theorem c_many86 {l : Launch} {dp : Nat} {na : Nat} {tr : Nat → Nat} {I : hI} {J : hJ} {tx : Option Nat} {Q : hQ} (hT : qTr I 80 na tr) (hQ : Q (some (.int (nI na))) hSH I J (hRR (some 80) tx))  : HC l mX11_many (dp + 3) 0 0 [.ref 0, .int (nI 8)] hSH I J (hRR (some 80) tx) Q := by
  refine HC.of (by decide +kernel) rfl (Nat.le_of_ble_eq_true rfl) ?_
  show HV l mX11_many (dp + 3) 0 0 0 [some (.ref 0), some (.int (nI 8))] [] hSH I J (hRR (some 80) tx) Q
  refine h_iload_n dX11_many_0 rfl ?_
  refine h_tableIn (off := 109) (tgt := 110) dX11_many_1 (by decide) (by decide) (by decide) rfl ?_
  refine h_aload_n dX11_many_110 rfl ?_
  refine h_getR dX11_many_111 f_X11_79_9 rfl rfl ?_
  refine h_ifnonnull (tgt := 121) dX11_many_114 rfl ?_
  refine h_aload_n dX11_many_121 rfl ?_
  refine h_getR dX11_many_122 f_X11_79_9 rfl rfl ?_
  refine h_getI dX11_many_125 f_X11_353_7 rfl hT.1 ?_
  refine h_ireturn dX11_many_128 rfl ?_
  exact hQ
theorem c_many80 {l : Launch} {dp : Nat} {I : hI} {J : hJ} {tx : Option Nat} {Q : hQ} (hQ : Q (some (.int (nI 0))) hSH I J (hRR none tx))  : HC l mX11_many (dp + 3) 0 0 [.ref 0, .int (nI 8)] hSH I J (hRR none tx) Q := by
  refine HC.of (by decide +kernel) rfl (Nat.le_of_ble_eq_true rfl) ?_
  show HV l mX11_many (dp + 3) 0 0 0 [some (.ref 0), some (.int (nI 8))] [] hSH I J (hRR none tx) Q
  refine h_iload_n dX11_many_0 rfl ?_
  refine h_tableIn (off := 109) (tgt := 110) dX11_many_1 (by decide) (by decide) (by decide) rfl ?_
  refine h_aload_n dX11_many_110 rfl ?_
  refine h_getN dX11_many_111 f_X11_79_9 rfl rfl ?_
  refine h_ifnonnullN dX11_many_114 ?_
  refine h_iconst dX11_many_117 ci_0 ?_
  refine h_goto (tgt := 128) dX11_many_118 rfl ?_
  refine h_ireturn dX11_many_128 rfl ?_
  exact hQ
theorem c_manyB {l : Launch} {dp : Nat} {I : hI} {J : hJ} {lt tx : Option Nat} {w : Int32} {Q : hQ} (hv : ∀ i, i ≤ 8 → ¬ w = nI i) (hQ : Q (some (.int (-1))) hSH I J (hRR lt tx)) : HC l mX11_many (dp + 3) 0 0 [.ref 0, .int w] hSH I J (hRR lt tx) Q := by
  refine HC.of (by decide +kernel) rfl (Nat.le_of_ble_eq_true rfl) ?_
  show HV l mX11_many (dp + 3) 0 0 0 [some (.ref 0), some (.int w)] [] hSH I J (hRR lt tx) Q
  refine h_iload_n dX11_many_0 rfl ?_
  refine h_tableOut (tgt := 129) dX11_many_1 (by have q0 := ti_ne (hv 0 (by omega)) (by decide); have q1 := ti_ne (hv 1 (by omega)) (by decide); have q2 := ti_ne (hv 2 (by omega)) (by decide); have q3 := ti_ne (hv 3 (by omega)) (by decide); have q4 := ti_ne (hv 4 (by omega)) (by decide); have q5 := ti_ne (hv 5 (by omega)) (by decide); have q6 := ti_ne (hv 6 (by omega)) (by decide); have q7 := ti_ne (hv 7 (by omega)) (by decide); have q8 := ti_ne (hv 8 (by omega)) (by decide); omega) rfl ?_
  refine h_iconst dX11_many_129 ci_m1 ?_
  refine h_ireturn dX11_many_130 rfl ?_
  exact hQ
theorem r_manyB {l : Launch} {dp : Nat} {I : hI} {J : hJ} {lt tx : Option Nat} {w : Int32} {Q : hQ} (hv : ∀ i, i ≤ 8 → ¬ w = nI i) (hQ : Q (some (.int (-1))) hSH I J (hRR lt tx)) : HC l mX12_many (dp + 4) 0 0 [.ref 82, .int w] hSH I J (hRR lt tx) Q := by
  refine HC.of (by decide +kernel) rfl (Nat.le_of_ble_eq_true rfl) ?_
  show HV l mX12_many (dp + 4) 0 0 0 [some (.ref 82), some (.int w)] [] hSH I J (hRR lt tx) Q
  refine h_iload_n dX12_many_0 rfl ?_
  refine h_tableOut (tgt := 97) dX12_many_1 (by have q0 := ti_ne (hv 0 (by omega)) (by decide); have q1 := ti_ne (hv 1 (by omega)) (by decide); have q2 := ti_ne (hv 2 (by omega)) (by decide); have q3 := ti_ne (hv 3 (by omega)) (by decide); have q4 := ti_ne (hv 4 (by omega)) (by decide); have q5 := ti_ne (hv 5 (by omega)) (by decide); have q6 := ti_ne (hv 6 (by omega)) (by decide); have q7 := ti_ne (hv 7 (by omega)) (by decide); have q8 := ti_ne (hv 8 (by omega)) (by decide); omega) rfl ?_
  refine h_iconst dX12_many_97 ci_m1 ?_
  refine h_ireturn dX12_many_98 rfl ?_
  exact hQ
theorem r_countedAll {l : Launch} {dp : Nat} {ns nl np ml nk nw : Nat} {pl fa fb sl pp pm ki fr tg wh bw : Nat → Nat} {rs sn : Nat → Int32} {fl : Nat → Bool} {qw : Nat → Nat → Nat → Nat → Bool} {I : hI} {J : hJ} {lt tx : Option Nat} {Q : hQ} (hG : rG I ns nl np ml nk nw pl fa fb sl pp pm ki fr tg wh bw rs sn fl qw) (hQ : ∀ a b c, Q (some (.int (nI (cntK (cnK nl fa fb sl fr fl) nk)))) hSH (upA (upA (upA I 90 a) 92 c) 91 b) J (hRR lt tx)) : HC l mX12_countedAll (dp + 3) 0 0 [.ref 82] hSH I J (hRR lt tx) Q := by
  refine HC.of (by decide +kernel) rfl (Nat.le_of_ble_eq_true rfl) ?_
  obtain ⟨hN, hw, ⟨hnp, hml, hnk, hpt, hsi⟩, ⟨hn8, hm2, hn24, hpW, hsW⟩, hL⟩ := id hG
  obtain ⟨hns, hnl, hpl, hlg⟩ := id hN
  obtain ⟨hn6, hl12, hW, hp99, hr99⟩ := id hw
  have Lo : ∀ (a b c : Nat → Int32), rL (upA (upA (upA I 90 a) 92 c) 91 b) ns nl fa fb sl rs → ∀ (m k v : Nat), nk - k < m → k ≤ nk → v = cntK (cnK nl fa fb sl fr fl) k → HV l mX12_countedAll (dp + 3) 0 0 8 [some (.ref 82), some (.int (nI v)), some (.int (nI k))] [] hSH (upA (upA (upA I 90 a) 92 c) 91 b) J (hRR lt tx) Q := by
    intro a b c hLv m
    induction m with
    | zero => intro k v h1 h2 hv; omega
    | succ m ih =>
      intro k v h1 h2 hv
      refine h_iload_n dX12_countedAll_8 rfl ?_
      refine h_aload_n dX12_countedAll_9 rfl ?_
      refine h_getI dX12_countedAll_10 f_X12_113_10 rfl hnk ?_
      refine h_icmpge (tgt := 38) dX12_countedAll_13 rfl (fun c_13 => ?_) (fun c_13 => ?_)
      · rw [nI_leI (by omega) (by omega)] at c_13
        refine h_iload_n dX12_countedAll_38 rfl ?_
        refine h_ireturn dX12_countedAll_39 rfl ?_
        have ek : k = nk := by omega
        subst ek
        rw [hv]
        exact hQ a b c
      · rw [nI_leI (by omega) (by omega)] at c_13
        refine h_iload_n dX12_countedAll_16 rfl ?_
        refine h_aload_n dX12_countedAll_17 rfl ?_
        refine h_iload_n dX12_countedAll_18 rfl ?_
        refine h_cV1 dX12_countedAll_19 k6_82 oVX12_counts rfl rfl ?_
        refine r_counts (I := (upA (upA (upA I 90 a) 92 c) 91 b)) hG hLv (by omega) (fun b1 => ?_) (fun b1 => ?_)
        · refine h_ifeq (tgt := 29) dX12_countedAll_22 rfl (fun c => absurd c (by decide)) (fun _ => ?_)
          refine h_iconst dX12_countedAll_25 ci_1 ?_
          refine h_goto (tgt := 30) dX12_countedAll_26 rfl ?_
          refine h_iaddN dX12_countedAll_30 ?_
          refine h_istore_n dX12_countedAll_31 (Nat.le_of_ble_eq_true rfl) ?_
          refine h_iinc (v := nI (k + 1)) dX12_countedAll_32 rfl (nI_1 _) (Nat.le_of_ble_eq_true rfl) ?_
          refine h_goto (tgt := 8) dX12_countedAll_35 rfl ?_
          exact ih (k + 1) _ (by omega) (by omega) (by rw [hv]; show _ = if _ then _ else _; rw [if_pos b1])
        · refine h_ifeq (tgt := 29) dX12_countedAll_22 rfl (fun _ => ?_) (fun c => absurd (by decide) c)
          refine h_iconst dX12_countedAll_29 ci_0 ?_
          refine h_iaddN dX12_countedAll_30 ?_
          refine h_istore_n dX12_countedAll_31 (Nat.le_of_ble_eq_true rfl) ?_
          refine h_iinc (v := nI (k + 1)) dX12_countedAll_32 rfl (nI_1 _) (Nat.le_of_ble_eq_true rfl) ?_
          refine h_goto (tgt := 8) dX12_countedAll_35 rfl ?_
          exact ih (k + 1) _ (by omega) (by omega) (by rw [hv]; show _ = if _ then _ else _; rw [if_neg b1, Nat.add_zero])
  show HV l mX12_countedAll (dp + 3) 0 0 0 [some (.ref 82), none, none] [] hSH I J (hRR lt tx) Q
  refine h_aload_n dX12_countedAll_0 rfl ?_
  refine h_cV0 dX12_countedAll_1 k5_200 oVX12_findLevels rfl rfl ?_
  refine r_findLevels hN hw (fun a b c hLv => ?_)
  refine h_iconst dX12_countedAll_4 ci_0 ?_
  refine h_istore_n dX12_countedAll_5 (Nat.le_of_ble_eq_true rfl) ?_
  refine h_iconst dX12_countedAll_6 ci_0 ?_
  refine h_istore_n dX12_countedAll_7 (Nat.le_of_ble_eq_true rfl) ?_
  exact Lo a b c hLv (nk + 1) 0 0 (by omega) (by omega) rfl
theorem r_many0 {l : Launch} {dp : Nat} {ns nl np ml nk nw : Nat} {pl fa fb sl pp pm ki fr tg wh bw : Nat → Nat} {rs sn : Nat → Int32} {fl : Nat → Bool} {qw : Nat → Nat → Nat → Nat → Bool} {I : hI} {J : hJ} {lt tx : Option Nat} {nr nt na : Nat} {rc : Nat → Int32} {tp tr : Nat → Nat} {Q : hQ} (hG : rG I ns nl np ml nk nw pl fa fb sl pp pm ki fr tg wh bw rs sn fl qw) (hQ : Q (some (.int (nI ns))) hSH I J (hRR lt tx)) : HC l mX12_many (dp + 4) 0 0 [.ref 82, .int (nI 0)] hSH I J (hRR lt tx) Q := by
  refine HC.of (by decide +kernel) rfl (Nat.le_of_ble_eq_true rfl) ?_
  show HV l mX12_many (dp + 4) 0 0 0 [some (.ref 82), some (.int (nI 0))] [] hSH I J (hRR lt tx) Q
  obtain ⟨hN, hw, ⟨hnp, hml, hnk, hpt, hsi⟩, ⟨hn8, hm2, hn24, hpW, hsW⟩, hL⟩ := id hG
  obtain ⟨hns, hnl, hpl, hlg⟩ := id hN
  obtain ⟨hn6, hl12, hW, hp99, hr99⟩ := id hw
  refine h_iload_n dX12_many_0 rfl ?_
  refine h_tableIn (off := 51) (tgt := 52) dX12_many_1 (by decide) (by decide) (by decide) rfl ?_
  refine h_aload_n dX12_many_52 rfl ?_
  refine h_getI dX12_many_53 f_X12_102_10 rfl hns ?_
  refine h_ireturn dX12_many_56 rfl ?_
  exact hQ
theorem r_many1 {l : Launch} {dp : Nat} {ns nl np ml nk nw : Nat} {pl fa fb sl pp pm ki fr tg wh bw : Nat → Nat} {rs sn : Nat → Int32} {fl : Nat → Bool} {qw : Nat → Nat → Nat → Nat → Bool} {I : hI} {J : hJ} {lt tx : Option Nat} {nr nt na : Nat} {rc : Nat → Int32} {tp tr : Nat → Nat} {Q : hQ} (hG : rG I ns nl np ml nk nw pl fa fb sl pp pm ki fr tg wh bw rs sn fl qw) (hQ : Q (some (.int (nI nl))) hSH I J (hRR lt tx)) : HC l mX12_many (dp + 4) 0 0 [.ref 82, .int (nI 1)] hSH I J (hRR lt tx) Q := by
  refine HC.of (by decide +kernel) rfl (Nat.le_of_ble_eq_true rfl) ?_
  show HV l mX12_many (dp + 4) 0 0 0 [some (.ref 82), some (.int (nI 1))] [] hSH I J (hRR lt tx) Q
  obtain ⟨hN, hw, ⟨hnp, hml, hnk, hpt, hsi⟩, ⟨hn8, hm2, hn24, hpW, hsW⟩, hL⟩ := id hG
  obtain ⟨hns, hnl, hpl, hlg⟩ := id hN
  obtain ⟨hn6, hl12, hW, hp99, hr99⟩ := id hw
  refine h_iload_n dX12_many_0 rfl ?_
  refine h_tableIn (off := 56) (tgt := 57) dX12_many_1 (by decide) (by decide) (by decide) rfl ?_
  refine h_aload_n dX12_many_57 rfl ?_
  refine h_getI dX12_many_58 f_X12_120_10 rfl hnl ?_
  refine h_ireturn dX12_many_61 rfl ?_
  exact hQ
theorem r_many2 {l : Launch} {dp : Nat} {ns nl np ml nk nw : Nat} {pl fa fb sl pp pm ki fr tg wh bw : Nat → Nat} {rs sn : Nat → Int32} {fl : Nat → Bool} {qw : Nat → Nat → Nat → Nat → Bool} {I : hI} {J : hJ} {lt tx : Option Nat} {nr nt na : Nat} {rc : Nat → Int32} {tp tr : Nat → Nat} {Q : hQ} (hG : rG I ns nl np ml nk nw pl fa fb sl pp pm ki fr tg wh bw rs sn fl qw) (hQ : Q (some (.int (nI np))) hSH I J (hRR lt tx)) : HC l mX12_many (dp + 4) 0 0 [.ref 82, .int (nI 2)] hSH I J (hRR lt tx) Q := by
  refine HC.of (by decide +kernel) rfl (Nat.le_of_ble_eq_true rfl) ?_
  show HV l mX12_many (dp + 4) 0 0 0 [some (.ref 82), some (.int (nI 2))] [] hSH I J (hRR lt tx) Q
  obtain ⟨hN, hw, ⟨hnp, hml, hnk, hpt, hsi⟩, ⟨hn8, hm2, hn24, hpW, hsW⟩, hL⟩ := id hG
  obtain ⟨hns, hnl, hpl, hlg⟩ := id hN
  obtain ⟨hn6, hl12, hW, hp99, hr99⟩ := id hw
  refine h_iload_n dX12_many_0 rfl ?_
  refine h_tableIn (off := 61) (tgt := 62) dX12_many_1 (by decide) (by decide) (by decide) rfl ?_
  refine h_aload_n dX12_many_62 rfl ?_
  refine h_getI dX12_many_63 f_X12_110_10 rfl hnp ?_
  refine h_ireturn dX12_many_66 rfl ?_
  exact hQ
theorem r_many3 {l : Launch} {dp : Nat} {ns nl np ml nk nw : Nat} {pl fa fb sl pp pm ki fr tg wh bw : Nat → Nat} {rs sn : Nat → Int32} {fl : Nat → Bool} {qw : Nat → Nat → Nat → Nat → Bool} {I : hI} {J : hJ} {lt tx : Option Nat} {nr nt na : Nat} {rc : Nat → Int32} {tp tr : Nat → Nat} {Q : hQ} (hG : rG I ns nl np ml nk nw pl fa fb sl pp pm ki fr tg wh bw rs sn fl qw) (hQ : Q (some (.int (nI nk))) hSH I J (hRR lt tx)) : HC l mX12_many (dp + 4) 0 0 [.ref 82, .int (nI 3)] hSH I J (hRR lt tx) Q := by
  refine HC.of (by decide +kernel) rfl (Nat.le_of_ble_eq_true rfl) ?_
  show HV l mX12_many (dp + 4) 0 0 0 [some (.ref 82), some (.int (nI 3))] [] hSH I J (hRR lt tx) Q
  obtain ⟨hN, hw, ⟨hnp, hml, hnk, hpt, hsi⟩, ⟨hn8, hm2, hn24, hpW, hsW⟩, hL⟩ := id hG
  obtain ⟨hns, hnl, hpl, hlg⟩ := id hN
  obtain ⟨hn6, hl12, hW, hp99, hr99⟩ := id hw
  refine h_iload_n dX12_many_0 rfl ?_
  refine h_tableIn (off := 66) (tgt := 67) dX12_many_1 (by decide) (by decide) (by decide) rfl ?_
  refine h_aload_n dX12_many_67 rfl ?_
  refine h_getI dX12_many_68 f_X12_113_10 rfl hnk ?_
  refine h_ireturn dX12_many_71 rfl ?_
  exact hQ
theorem r_many4 {l : Launch} {dp : Nat} {ns nl np ml nk nw : Nat} {pl fa fb sl pp pm ki fr tg wh bw : Nat → Nat} {rs sn : Nat → Int32} {fl : Nat → Bool} {qw : Nat → Nat → Nat → Nat → Bool} {I : hI} {J : hJ} {lt tx : Option Nat} {nr nt na : Nat} {rc : Nat → Int32} {tp tr : Nat → Nat} {Q : hQ} (hG : rG I ns nl np ml nk nw pl fa fb sl pp pm ki fr tg wh bw rs sn fl qw) (hQ : ∀ a b c, Q (some (.int (nI (cntK (cnK nl fa fb sl fr fl) nk)))) hSH (upA (upA (upA I 90 a) 92 c) 91 b) J (hRR lt tx)) : HC l mX12_many (dp + 4) 0 0 [.ref 82, .int (nI 4)] hSH I J (hRR lt tx) Q := by
  refine HC.of (by decide +kernel) rfl (Nat.le_of_ble_eq_true rfl) ?_
  show HV l mX12_many (dp + 4) 0 0 0 [some (.ref 82), some (.int (nI 4))] [] hSH I J (hRR lt tx) Q
  obtain ⟨hN, hw, ⟨hnp, hml, hnk, hpt, hsi⟩, ⟨hn8, hm2, hn24, hpW, hsW⟩, hL⟩ := id hG
  obtain ⟨hns, hnl, hpl, hlg⟩ := id hN
  obtain ⟨hn6, hl12, hW, hp99, hr99⟩ := id hw
  refine h_iload_n dX12_many_0 rfl ?_
  refine h_tableIn (off := 71) (tgt := 72) dX12_many_1 (by decide) (by decide) (by decide) rfl ?_
  refine h_aload_n dX12_many_72 rfl ?_
  refine h_cV0 dX12_many_73 k7_76 oVX12_countedAll rfl rfl ?_
  refine r_countedAll hG (fun a b c => ?_)
  refine h_ireturn dX12_many_76 rfl ?_
  exact hQ a b c
theorem r_many5 {l : Launch} {dp : Nat} {ns nl np ml nk nw : Nat} {pl fa fb sl pp pm ki fr tg wh bw : Nat → Nat} {rs sn : Nat → Int32} {fl : Nat → Bool} {qw : Nat → Nat → Nat → Nat → Bool} {I : hI} {J : hJ} {lt tx : Option Nat} {nr nt na : Nat} {rc : Nat → Int32} {tp tr : Nat → Nat} {Q : hQ} (hG : rG I ns nl np ml nk nw pl fa fb sl pp pm ki fr tg wh bw rs sn fl qw) (hQ : Q (some (.int (nI nw))) hSH I J (hRR lt tx)) : HC l mX12_many (dp + 4) 0 0 [.ref 82, .int (nI 5)] hSH I J (hRR lt tx) Q := by
  refine HC.of (by decide +kernel) rfl (Nat.le_of_ble_eq_true rfl) ?_
  show HV l mX12_many (dp + 4) 0 0 0 [some (.ref 82), some (.int (nI 5))] [] hSH I J (hRR lt tx) Q
  obtain ⟨hN, hw, ⟨hnp, hml, hnk, hpt, hsi⟩, ⟨hn8, hm2, hn24, hpW, hsW⟩, hL⟩ := id hG
  obtain ⟨hns, hnl, hpl, hlg⟩ := id hN
  obtain ⟨hn6, hl12, hW, hp99, hr99⟩ := id hw
  refine h_iload_n dX12_many_0 rfl ?_
  refine h_tableIn (off := 76) (tgt := 77) dX12_many_1 (by decide) (by decide) (by decide) rfl ?_
  refine h_aload_n dX12_many_77 rfl ?_
  refine h_getI dX12_many_78 f_X12_328_10 rfl hL.1 ?_
  refine h_ireturn dX12_many_81 rfl ?_
  exact hQ
theorem r_many6 {l : Launch} {dp : Nat} {ns nl np ml nk nw : Nat} {pl fa fb sl pp pm ki fr tg wh bw : Nat → Nat} {rs sn : Nat → Int32} {fl : Nat → Bool} {qw : Nat → Nat → Nat → Nat → Bool} {I : hI} {J : hJ} {lt tx : Option Nat} {nr nt na : Nat} {rc : Nat → Int32} {tp tr : Nat → Nat} {Q : hQ} (hG : rG I ns nl np ml nk nw pl fa fb sl pp pm ki fr tg wh bw rs sn fl qw) (hRw : rR I nr rc) (hQ : Q (some (.int (nI nr))) hSH I J (hRR lt tx)) : HC l mX12_many (dp + 4) 0 0 [.ref 82, .int (nI 6)] hSH I J (hRR lt tx) Q := by
  refine HC.of (by decide +kernel) rfl (Nat.le_of_ble_eq_true rfl) ?_
  show HV l mX12_many (dp + 4) 0 0 0 [some (.ref 82), some (.int (nI 6))] [] hSH I J (hRR lt tx) Q
  obtain ⟨hN, hw, ⟨hnp, hml, hnk, hpt, hsi⟩, ⟨hn8, hm2, hn24, hpW, hsW⟩, hL⟩ := id hG
  obtain ⟨hns, hnl, hpl, hlg⟩ := id hN
  obtain ⟨hn6, hl12, hW, hp99, hr99⟩ := id hw
  refine h_iload_n dX12_many_0 rfl ?_
  refine h_tableIn (off := 81) (tgt := 82) dX12_many_1 (by decide) (by decide) (by decide) rfl ?_
  refine h_aload_n dX12_many_82 rfl ?_
  refine h_getI dX12_many_83 f_X12_337_10 rfl hRw.1 ?_
  refine h_ireturn dX12_many_86 rfl ?_
  exact hQ
theorem r_many7 {l : Launch} {dp : Nat} {ns nl np ml nk nw : Nat} {pl fa fb sl pp pm ki fr tg wh bw : Nat → Nat} {rs sn : Nat → Int32} {fl : Nat → Bool} {qw : Nat → Nat → Nat → Nat → Bool} {I : hI} {J : hJ} {lt tx : Option Nat} {nr nt na : Nat} {rc : Nat → Int32} {tp tr : Nat → Nat} {Q : hQ} (hG : rG I ns nl np ml nk nw pl fa fb sl pp pm ki fr tg wh bw rs sn fl qw) (hTp : rT I nt tp) (hQ : Q (some (.int (nI nt))) hSH I J (hRR lt tx)) : HC l mX12_many (dp + 4) 0 0 [.ref 82, .int (nI 7)] hSH I J (hRR lt tx) Q := by
  refine HC.of (by decide +kernel) rfl (Nat.le_of_ble_eq_true rfl) ?_
  show HV l mX12_many (dp + 4) 0 0 0 [some (.ref 82), some (.int (nI 7))] [] hSH I J (hRR lt tx) Q
  obtain ⟨hN, hw, ⟨hnp, hml, hnk, hpt, hsi⟩, ⟨hn8, hm2, hn24, hpW, hsW⟩, hL⟩ := id hG
  obtain ⟨hns, hnl, hpl, hlg⟩ := id hN
  obtain ⟨hn6, hl12, hW, hp99, hr99⟩ := id hw
  refine h_iload_n dX12_many_0 rfl ?_
  refine h_tableIn (off := 86) (tgt := 87) dX12_many_1 (by decide) (by decide) (by decide) rfl ?_
  refine h_aload_n dX12_many_87 rfl ?_
  refine h_getI dX12_many_88 f_X12_223_10 rfl hTp.1 ?_
  refine h_ireturn dX12_many_91 rfl ?_
  exact hQ
theorem r_many8 {l : Launch} {dp : Nat} {ns nl np ml nk nw : Nat} {pl fa fb sl pp pm ki fr tg wh bw : Nat → Nat} {rs sn : Nat → Int32} {fl : Nat → Bool} {qw : Nat → Nat → Nat → Nat → Bool} {I : hI} {J : hJ} {lt tx : Option Nat} {nr nt na : Nat} {rc : Nat → Int32} {tp tr : Nat → Nat} {Q : hQ} (hG : rG I ns nl np ml nk nw pl fa fb sl pp pm ki fr tg wh bw rs sn fl qw) (hTr : rTr I na tr) (hQ : Q (some (.int (nI na))) hSH I J (hRR lt tx)) : HC l mX12_many (dp + 4) 0 0 [.ref 82, .int (nI 8)] hSH I J (hRR lt tx) Q := by
  refine HC.of (by decide +kernel) rfl (Nat.le_of_ble_eq_true rfl) ?_
  show HV l mX12_many (dp + 4) 0 0 0 [some (.ref 82), some (.int (nI 8))] [] hSH I J (hRR lt tx) Q
  obtain ⟨hN, hw, ⟨hnp, hml, hnk, hpt, hsi⟩, ⟨hn8, hm2, hn24, hpW, hsW⟩, hL⟩ := id hG
  obtain ⟨hns, hnl, hpl, hlg⟩ := id hN
  obtain ⟨hn6, hl12, hW, hp99, hr99⟩ := id hw
  refine h_iload_n dX12_many_0 rfl ?_
  refine h_tableIn (off := 91) (tgt := 92) dX12_many_1 (by decide) (by decide) (by decide) rfl ?_
  refine h_aload_n dX12_many_92 rfl ?_
  refine h_getI dX12_many_93 f_X12_361_10 rfl hTr.1 ?_
  refine h_ireturn dX12_many_96 rfl ?_
  exact hQ
