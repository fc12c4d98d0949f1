/-! told, read, sung -/
set_option maxHeartbeats 1000000 in
theorem pst2 (F : Nat) : St2 F Inv := by
  intro S hI x1 x2
  obtain ⟨n, yr, sd, oS, rS, mS⟩ := hI.s
  have hn := oS.1
  have e7 := isSide_eq (F := F) (x := x1) rS.2.1 (by omega)
  have mT : MS n yr sd (T0 S) := mS.ag (T0_ag S)
  have e8 := noSide_eq (F := F) (x := x1) mT.1 (by omega)
  by_cases c1 : wi 0 ((n : Int) - 1) x1 = true
  · obtain ⟨i, hi, rfl⟩ := wi_side c1
    have hr : ∀ j, j < 11 → S.1 (1, i) j = sd i j := fun j hj => rS.2.2.2.2 i j hi hj
    have h23 : (T0 S).1 (0, 23) i = sd i 0 := mT.2.2.1 i 0 hi (by decide)
    have h25 : (T0 S).1 (0, 25) i = sd i 1 := mT.2.2.1 i 1 hi (by decide)
    have h26 : (T0 S).1 (0, 26) i = sd i 2 := mT.2.2.1 i 2 hi (by decide)
    have h24 : (T0 S).1 (0, 24) i = sd i 3 := mT.2.2.1 i 3 hi (by decide)
    have h27 : (T0 S).1 (0, 27) i = sd i 4 := mT.2.2.1 i 4 hi (by decide)
    have h28 : (T0 S).1 (0, 28) i = sd i 5 := mT.2.2.1 i 5 hi (by decide)
    have h29 : (T0 S).1 (0, 29) i = sd i 6 := mT.2.2.1 i 6 hi (by decide)
    have h30 : (T0 S).1 (0, 30) i = sd i 7 := mT.2.2.1 i 7 hi (by decide)
    have h31 : (T0 S).1 (0, 31) i = sd i 8 := mT.2.2.1 i 8 hi (by decide)
    refine ⟨if x2 = 0 then sd i 0 else if x2 = 1 then sd i 3 else if x2 = 2 then sd i 1 else if x2 = 3 then sd i 2 else if x2 = 4 then sd i 4 else if x2 = 5 then sd i 5 else if x2 = 6 then sd i 6 else if x2 = 7 then sd i 7 else if x2 = 8 then sd i 8 else -2, T0 S, ?_, ?_, hI.ag (T0_ag S)⟩
    · unfold fX7_told
      rw [e7]
      simp only [Option.bind_some, b01_ite, c1, if_true, rg2 rS hn hi, gd, alv1 rS hi, hr 0 (by decide), hr 1 (by decide), hr 2 (by decide), hr 3 (by decide), hr 4 (by decide), hr 5 (by decide), hr 6 (by decide), hr 7 (by decide), hr 8 (by decide)]
      repeat' split
      all_goals rfl
    · simp only [fX8_told, stp, e8, Option.bind_some, b01_ite, c1, Bool.not_true, Bool.false_eq_true, if_false, gd, al23, al24, al25, al26, al27, al28, al29, al30, al31, inb_nI (show i < 16 by omega) (by decide), if_true, cl_nI (show i < 2 ^ 31 by omega), h23, h24, h25, h26, h27, h28, h29, h30, h31]
      repeat' split
      all_goals rfl
  · refine ⟨-1, T0 S, ?_, ?_, hI.ag (T0_ag S)⟩
    · simp [fX7_told, e7, c1, b01_ite]
    · simp [fX8_told, stp, e8, c1, b01_ite]
set_option maxHeartbeats 1000000 in
theorem pst20 (F : Nat) : St20 F Inv := by
  intro S hI x1 x2 x3
  obtain ⟨n, yr, sd, oS, rS, mS⟩ := hI.s
  have hn := oS.1
  have e7 := isSide_eq (F := F) (x := x1) rS.2.1 (by omega)
  have mT : MS n yr sd (T0 S) := mS.ag (T0_ag S)
  have e8 : ∀ S', MS n yr sd S' → fX8_noSide F x1 S' = _ := fun S' h => noSide_eq (F := F) (x := x1) h.1 (by omega)
  by_cases c1 : wi 0 ((n : Int) - 1) x1 = true
  · by_cases c2 : wi 0 3 x3 = true
    · by_cases c3 : wi 0 255 x2 = true
      · obtain ⟨i, hi, rfl⟩ := wi_side c1
        have r1 : RS n yr (up2 sd i 9 x2) (s2 S (1, i) 9 x2) := rS.put
        have r2 : RS n yr (up2 (up2 sd i 9 x2) i 10 x3) (s2 (s2 S (1, i) 9 x2) (1, i) 10 x3) := r1.put
        have m1 : MS n yr sd (s2 (s2 S (1, i) 9 x2) (1, i) 10 x3) := (mS.fr (by simp) (by simp)).fr (by simp) (by simp)
        have m2 := MS.fr (k := (0, 1)) (j := 0) (x := 0) m1 (by simp) (by simp)
        have m3 := MS.put (j := 9) (x := x2) m2 hi (show 32 = mk 9 from rfl) (by decide)
        have m4 := MS.put (j := 10) (x := x3) m3 hi (show 33 = mk 10 from rfl) (by decide)
        have h32 : (T0 (s2 (s2 S (1, i) 9 x2) (1, i) 10 x3)).1 (0, 32) i = sd i 9 := m2.2.2.1 i 9 hi (by decide)
        refine ⟨sd i 9, s2 (s2 S (1, i) 9 x2) (1, i) 10 x3, s2 (s2 (T0 (s2 (s2 S (1, i) 9 x2) (1, i) 10 x3)) (0, 32) i x2) (0, 33) i x3, ?_, ?_, ?_⟩
        · simp [fX7_sung, ltt, e7, isSong_eq, w0_255, c1, c2, c3, b01_ite, rg2 rS hn hi, gd, alv1 rS hi, stp, rg2 r1 hn hi, alv1 r1 hi, rS.2.2.2.2 i 9 hi (by decide)]
        · simp [fX8_sung, ltt, stp, e8 _ m2, i0_3, i0_255, c1, c2, c3, b01_ite, gd, al32, al33, inb_nI (show i < 16 by omega) (by decide), cl_nI (show i < 2 ^ 31 by omega), h32]
        · exact Inv.sides (ok_up10 (ok_up9 oS (wi_t.mp c3)) (wi_t.mp c2)) (((r2.fr (by simp) (by simp)).fr (by simp) (by simp)).fr (by simp) (by simp)) m4 ((((((hI.i3s).fr (k3s_side _ _)).fr (k3s_side _ _)).fr k3s_T0).fr (k3s_ms _ (by decide))).fr (k3s_ms _ (by decide)))
      · refine ⟨-2, S, T0 S, ?_, ?_, hI.ag (T0_ag S)⟩
        · simp [fX7_sung, e7, isSong_eq, w0_255, c1, c2, c3, b01_ite]
        · simp [fX8_sung, stp, e8 _ mT, i0_3, i0_255, c1, c2, c3, b01_ite]
    · refine ⟨-1, S, T0 S, ?_, ?_, hI.ag (T0_ag S)⟩
      · simp [fX7_sung, e7, isSong_eq, c1, c2, b01_ite]
      · simp [fX8_sung, stp, e8 _ mT, i0_3, c1, c2, b01_ite]
  · refine ⟨-1, S, T0 S, ?_, ?_, hI.ag (T0_ag S)⟩
    · simp [fX7_sung, e7, c1, b01_ite]
    · simp [fX8_sung, stp, e8 _ mT, c1, b01_ite]
