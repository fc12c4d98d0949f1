/-! hours, told .. -/
set_option maxHeartbeats 1000000 in
theorem pst1 (F : Nat) : St1 F Inv := by
  intro S hI x1 x2 x3
  obtain ⟨n, yr, sd, g, sg, pc, tol, pp, tc, tx, pm, ⟨oS, rS, mS⟩, ⟨oG, rG, mG⟩, ⟨oP, rP, mP⟩, oT, rT, mT⟩ := id hI
  have hn := oS.1
  have e7 := isSide_eq (F := F) (x := x1) rS.2.1 (by omega)
  have e8 : ∀ S', MS n yr sd S' → fX8_noSide F x1 S' = _ := fun S' h => noSide_eq (F := F) (x := x1) h.1 (by omega)
  by_cases c1 : wi 0 ((n : Int) - 1) x1 = true
  · by_cases c2 : wi 1 1000 x2 = true
    · by_cases c3 : wi 1 1000 x3 = true
      · obtain ⟨i, hi, rfl⟩ := wi_side c1
        have r1 : RS n yr (up2 sd i 4 x2) (s2 S (1, i) 4 x2) := rS.put
        have r2 : RS n yr (up2 (up2 sd i 4 x2) i 5 x3) (s2 (s2 S (1, i) 4 x2) (1, i) 5 x3) := r1.put
        have m1 : MS n yr sd (s2 (s2 S (1, i) 4 x2) (1, i) 5 x3) := (mS.fr (by simp) (by simp)).fr (by simp) (by simp)
        have m2 := MS.fr (k := (0, 1)) (j := 0) (x := 0) m1 (by simp) (by simp)
        have m3 := MS.put (j := 4) (x := x2) m2 hi (show 27 = mk 4 from rfl) (by decide)
        have m4 := MS.put (j := 5) (x := x3) m3 hi (show 28 = mk 5 from rfl) (by decide)
        refine ⟨1, s2 (s2 S (1, i) 4 x2) (1, i) 5 x3, s2 (s2 (T0 (s2 (s2 S (1, i) 4 x2) (1, i) 5 x3)) (0, 27) i x2) (0, 28) i x3, ?_, ?_, ?_⟩
        · unfold fX7_hours
          simp [e7, w1_1000, c1, c2, c3, b01_ite, rg2 rS hn hi, gd, alv1 rS hi, stp, rg2 r1 hn hi, alv1 r1 hi]
        · simp [fX8_hours, stp, e8 _ m2, i1_1000, c1, c2, c3, b01_ite, gd, al27, al28, inb_nI (show i < 16 by omega) (by decide), cl_nI (show i < 2 ^ 31 by omega)]
        · refine ⟨n, yr, up2 (up2 sd i 4 x2) i 5 x3, g, sg, pc, tol, pp, tc, tx, pm, ⟨ok_up5 (ok_up4 oS (wi_t.mp c2)) (wi_t.mp c3), ((r2.fr (by simp) (by simp)).fr (by simp) (by simp)).fr (by simp) (by simp), m4⟩, ⟨oG, ?_, ?_⟩, ⟨oP, ?_, ?_⟩, oT, ?_, ?_⟩
          · exact ((((rG.fr (by simp) (by simp)).fr (by simp) (by simp)).fr (by simp) (by simp)).fr (by simp) (by simp)).fr (by simp) (by simp)
          · exact ((((mG.fr (by simp) (by simp)).fr (by simp) (by simp)).fr (by simp) (by simp)).fr (by simp) (by simp)).fr (by simp) (by simp)
          · exact ((((rP.fr (by simp) (by simp) (by simp)).fr (by simp) (by simp) (by simp)).fr (by simp) (by simp) (by simp)).fr (by simp) (by simp) (by simp)).fr (by simp) (by simp) (by simp)
          · exact ((((mP.fr (by simp) (by simp) (by simp)).fr (by simp) (by simp) (by simp)).fr (by simp) (by simp) (by simp)).fr (by simp) (by simp) (by simp)).fr (by simp) (by simp) (by simp)
          · exact ((((rT.fr (by simp) (by simp)).fr (by simp) (by simp)).fr (by simp) (by simp)).fr (by simp) (by simp)).fr (by simp) (by simp)
          · exact ((((mT.fr (by simp) (by simp)).fr (by simp) (by simp)).fr (by simp) (by simp)).fr (by simp) (by simp)).fr (by simp) (by simp)
      · refine ⟨-2, S, T0 S, ?_, ?_, hI.ag (T0_ag S)⟩
        · simp [fX7_hours, e7, w1_1000, c1, c2, c3, b01_ite]
        · simp [fX8_hours, stp, e8 _ (mS.ag (T0_ag S)), i1_1000, c1, c2, c3, b01_ite]
    · refine ⟨-2, S, T0 S, ?_, ?_, hI.ag (T0_ag S)⟩
      · simp [fX7_hours, e7, w1_1000, c1, c2, b01_ite]
      · simp [fX8_hours, stp, e8 _ (mS.ag (T0_ag S)), i1_1000, c1, c2, b01_ite]
  · refine ⟨-1, S, T0 S, ?_, ?_, hI.ag (T0_ag S)⟩
    · simp [fX7_hours, e7, c1, b01_ite]
    · simp [fX8_hours, stp, e8 _ (mS.ag (T0_ag S)), c1, b01_ite]
