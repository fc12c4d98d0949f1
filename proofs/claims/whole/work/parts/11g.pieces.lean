/-! piece, sweep, tolerance -/
theorem Inv.pieces {S : vs} {n : Nat} {tol : Int32} {pp : Nat → Nat → Int32} (a : OkP n tol pp) (b : RP n tol pp S) (c : MP n tol pp S) (d : I3p S) : Inv S := Inv.of d.1 d.2.1 ⟨n, tol, pp, a, b, c⟩ d.2.2
theorem k3p_T0 : sok (0, 1) 0 ∧ gok (0, 1) 0 ∧ tok (0, 1) 0 := by simp [sok, gok, tok]
theorem k3p_c (a j : Nat) (h : a = 4 ∨ a = 18 ∨ a = 19 ∨ a = 39 ∨ a = 40) : sok (0, a) j ∧ gok (0, a) j ∧ tok (0, a) j := by
  rcases h with rfl | rfl | rfl | rfl | rfl <;> simp [sok, gok, tok]
theorem k3p_m (j : Nat) (h : j = 20 ∨ j = 21) : sok (0, 1) j ∧ gok (0, 1) j ∧ tok (0, 1) j := by
  rcases h with rfl | rfl <;> simp [sok, gok, tok]
theorem pst16 (F : Nat) : St16 F Inv := by
  intro S hI x1
  obtain ⟨g, tol, pp, oP, rP, mP⟩ := hI.p
  by_cases c1 : wi 0 99 x1 = true
  · have r1 : RP g x1 pp (s2 S (0, 4) 0 x1) := ⟨by rw [s2_at]; simp, by rw [s2_at]; simp; exact rP.2.1, fun i hi => ⟨by rw [s2_at]; simp; exact (rP.2.2 i hi).1, by rw [s2_at]; simp; exact (rP.2.2 i hi).2⟩⟩
    have m1 : MP g tol pp (T0 (s2 S (0, 4) 0 x1)) := (mP.fr (by simp) (by simp) (by simp)).fr (by simp) (by simp) (by simp)
    have m2 : MP g x1 pp (s2 (T0 (s2 S (0, 4) 0 x1)) (0, 1) 21 x1) := ⟨by rw [s2_at]; simp, by rw [s2_at]; simp; exact m1.2.1, fun i hi => ⟨by rw [s2_at]; simp; exact (m1.2.2 i hi).1, by rw [s2_at]; simp; exact (m1.2.2 i hi).2⟩⟩
    refine ⟨tol, s2 S (0, 4) 0 x1, s2 (T0 (s2 S (0, 4) 0 x1)) (0, 1) 21 x1, ?_, ?_, ?_⟩
    · simp [fX7_tolerance, ltt, stp, w0_99, c1, b01_ite, rP.1]
    · simp [fX8_tolerance, ltt, stp, i0_99, c1, b01_ite, m1.1]
    · exact Inv.pieces ⟨oP.1, wi_t.mp c1, oP.2.2⟩ ((r1.fr (by simp) (by simp) (by simp)).fr (by simp) (by simp) (by simp)) m2 ((((hI.i3p).fr (k3p_c _ _ (by simp))).fr k3p_T0).fr (k3p_m _ (by simp)))
  · refine ⟨-2, S, T0 S, ?_, ?_, hI.ag (T0_ag S)⟩
    · simp [fX7_tolerance, w0_99, c1, b01_ite]
    · simp [fX8_tolerance, stp, i0_99, c1, b01_ite]
theorem pst15 (F : Nat) : St15 F Inv := by
  intro S hI
  obtain ⟨g, tol, pp, oP, rP, mP⟩ := hI.p
  have r1 : RP 0 tol pp (s2 S (0, 4) 1 0) := ⟨by rw [s2_at]; simp; exact rP.1, by rw [s2_at]; simp; rfl, fun i hi => by omega⟩
  have m1 : MP g tol pp (T0 (s2 S (0, 4) 1 0)) := (mP.fr (by simp) (by simp) (by simp)).fr (by simp) (by simp) (by simp)
  have m2 : MP 0 tol pp (s2 (T0 (s2 S (0, 4) 1 0)) (0, 1) 20 0) := ⟨by rw [s2_at]; simp; exact m1.1, by rw [s2_at]; simp; rfl, fun i hi => by omega⟩
  refine ⟨nI g, s2 S (0, 4) 1 0, s2 (T0 (s2 S (0, 4) 1 0)) (0, 1) 20 0, ?_, ?_, ?_⟩
  · simp [fX7_sweep, fX1_clear, ltt, stp, rP.2.1]
  · simp [fX8_sweep, ltt, stp, m1.2.1]
  · exact Inv.pieces ⟨by omega, oP.2.1, fun i hi => by omega⟩ ((r1.fr (by simp) (by simp) (by simp)).fr (by simp) (by simp) (by simp)) m2 ((((hI.i3p).fr (k3p_c _ _ (by simp))).fr k3p_T0).fr (k3p_m _ (by simp)))
set_option maxHeartbeats 2000000 in
theorem pst14 (F : Nat) : St14 F Inv := by
  intro S hI x1 x2
  obtain ⟨g, tol, pp, oP, rP, mP⟩ := hI.p
  have hg := oP.1
  have mT : MP g tol pp (T0 S) := mP.ag (T0_ag S)
  by_cases c1 : wi 0 99 x1 = true
  · by_cases c2 : wi 0 99 x2 = true
    · by_cases c3 : g = 7
      · subst c3
        refine ⟨-4, S, T0 S, ?_, ?_, hI.ag (T0_ag S)⟩
        · simp [fX7_piece, fX1_isFull, w0_99, c1, c2, b01_ite, rP.2.1, show ¬ (nI 7 < 7) by decide]
        · simp [fX8_piece, stp, i0_99, c1, c2, b01_ite, mT.2.1, show (nI 7 = 7) from rfl]
      · have g7 : g < 7 := by omega
        have hin : inb (nI g) 7 = true := inb_nI g7 (by decide)
        have hcl : (nI g).toNatClampNeg = g := cl_nI (by omega)
        have hlt : nI g < 7 := nI_lt g7 (by decide)
        have hne : ¬ nI g = 7 := fun e => by
          have := (nI_eq (a := g) (b := 7) (by omega) (by decide)).mp e
          omega
        generalize hS1 : s2 (s2 (s2 S (0, 18) g x1) (0, 19) g x2) (0, 4) 1 (nI (g + 1)) = S1
        have r1 : RP (g + 1) tol (up2 (up2 pp g 0 x1) g 1 x2) S1 := by
          subst hS1
          refine ⟨?_, ?_, fun i hi => ⟨?_, ?_⟩⟩
          · simp [s2_at]; exact rP.1
          · simp [s2_at]
          · simp only [s2_at, up2]
            by_cases e : i = g
            · simp [e]
            · simp [e]; exact (rP.2.2 i (by omega)).1
          · simp only [s2_at, up2]
            by_cases e : i = g
            · simp [e]
            · simp [e]; exact (rP.2.2 i (by omega)).2
        have m1 : MP g tol pp (T0 S1) := by
          subst hS1
          exact (((mP.fr (by simp) (by simp) (by simp)).fr (by simp) (by simp) (by simp)).fr (by simp) (by simp) (by simp)).fr (by simp) (by simp) (by simp)
        have i3 : I3p S1 := by
          subst hS1
          exact (((hI.i3p).fr (k3p_c _ _ (by simp))).fr (k3p_c _ _ (by simp))).fr (k3p_c _ _ (by simp))
        have m2 : MP (g + 1) tol (up2 (up2 pp g 0 x1) g 1 x2) (s2 (s2 (s2 (T0 S1) (0, 39) g x1) (0, 40) g x2) (0, 1) 20 (nI (g + 1))) := by
          refine ⟨?_, ?_, fun i hi => ⟨?_, ?_⟩⟩
          · rw [s2_at, if_neg (by simp), s2_at, if_neg (by simp), s2_at, if_neg (by simp)]; exact m1.1
          · rw [s2_at, if_pos ⟨rfl, rfl⟩]
          · rw [s2_at, if_neg (by simp), s2_at, if_neg (by simp), s2_at]
            unfold up2
            by_cases e : i = g
            · simp [e]
            · simp [e]; exact (m1.2.2 i (by omega)).1
          · rw [s2_at, if_neg (by simp), s2_at]
            unfold up2
            by_cases e : i = g
            · simp [e]
            · simp [e]
              rw [s2_at, if_neg (by simp)]
              exact (m1.2.2 i (by omega)).2
        refine ⟨nI g, S1, s2 (s2 (s2 (T0 S1) (0, 39) g x1) (0, 40) g x2) (0, 1) 20 (nI (g + 1)), ?_, ?_, ?_⟩
        · have a1 : (s2 S (0, 18) g x1).1 (0, 4) 1 = nI g := by rw [s2_at, if_neg (by simp)]; exact rP.2.1
          have a2 : (s2 (s2 S (0, 18) g x1) (0, 19) g x2).1 (0, 4) 1 = nI g := by rw [s2_at, if_neg (by simp)]; exact a1
          simp [fX7_piece, fX1_isFull, fX1_add, stp, gd, w0_99, c1, c2, b01_ite, rP.2.1, hlt, al18, al19, hin, hcl, a1, a2, nI_1, hS1, r1.2.1, nI_pred]
        · have a0 : (T0 S1).1 (0, 1) 20 = nI g := m1.2.1
          have a1 : (s2 (T0 S1) (0, 39) g x1).1 (0, 1) 20 = nI g := by rw [s2_at, if_neg (by simp)]; exact a0
          have a2 : (s2 (s2 (T0 S1) (0, 39) g x1) (0, 40) g x2).1 (0, 1) 20 = nI g := by rw [s2_at, if_neg (by simp)]; exact a1
          simp [fX8_piece, stp, gd, i0_99, c1, c2, b01_ite, a0, hne, al39, al40, hin, hcl, a1, a2, nI_1, m2.2.1, nI_pred]
        · refine Inv.pieces ⟨by omega, oP.2.1, fun i hi => ?_⟩ (((((r1.fr (by simp) (by simp) (by simp)).fr (by simp) (by simp) (by simp)).fr (by simp) (by simp) (by simp)).fr (by simp) (by simp) (by simp))) m2 ((((i3.fr k3p_T0).fr (k3p_c _ _ (by simp))).fr (k3p_c _ _ (by simp))).fr (k3p_m _ (by simp)))
          unfold up2
          by_cases e : i = g
          · simp [e]; exact ⟨wi_t.mp c1, wi_t.mp c2⟩
          · simp [e]; exact oP.2.2 i (by omega)
    · refine ⟨-2, S, T0 S, ?_, ?_, hI.ag (T0_ag S)⟩
      · simp [fX7_piece, w0_99, c1, c2, b01_ite]
      · simp [fX8_piece, stp, i0_99, c1, c2, b01_ite]
  · refine ⟨-2, S, T0 S, ?_, ?_, hI.ag (T0_ag S)⟩
    · simp [fX7_piece, w0_99, c1, b01_ite]
    · simp [fX8_piece, stp, i0_99, c1, b01_ite]
