def lo0 (z : Int32) : Int32 := if 0 < z then z else 0
theorem aln_eq {F : Nat} {z : Int32} {S : vs} : fX8_atLeastNone F z S = some (lo0 z) := by
  unfold fX8_atLeastNone lo0
  by_cases h : z ≤ 0
  · rw [if_pos h, if_neg (Int32.not_lt.mpr h)]
  · rw [if_neg h, if_pos (Int32.not_le.mp h)]
theorem lo0_rg {a : Int32} {b : Int32} (ha : rg 0 100 a) (hb : 0 ≤ b.toInt ∧ b.toInt < 2000000) : rg 0 100 (lo0 (a - b)) := by
  obtain ⟨a1, a2⟩ := ha
  have e : (a - b).toInt = a.toInt - b.toInt := fb_subI (by omega) (by omega)
  unfold lo0
  by_cases h : 0 < a - b
  · rw [if_pos h]
    rw [fa_lt, e, show (0 : Int32).toInt = 0 from rfl] at h
    exact ⟨by omega, by omega⟩
  · rw [if_neg h]; exact ⟨by decide, by decide⟩
set_option maxHeartbeats 2000000 in
theorem pst3 (F : Nat) : St3 F Inv := by
  intro S hI x1 x2
  obtain ⟨n, yr, sd, oS, rS, mS⟩ := hI.s
  have hn := oS.1
  have e7 := isSide_eq (F := F) (x := x1) rS.2.1 (by omega)
  have mT : MS n yr sd (T0 S) := mS.ag (T0_ag S)
  have e8 : ∀ S', MS n yr sd S' → fX8_noSide F x1 S' = _ := fun S' h => noSide_eq (F := F) (x := x1) h.1 (by omega)
  by_cases c1 : wi 0 ((n : Int) - 1) x1 = true
  · obtain ⟨i, hi, rfl⟩ := wi_side c1
    have hi16 : inb (nI i) 16 = true := inb_nI (show i < 16 by omega) (by decide)
    have hcl : (nI i).toNatClampNeg = i := cl_nI (by omega)
    have s3 : S.1 (1, i) 3 = sd i 3 := rS.2.2.2.2 i 3 hi (by decide)
    have s1 : S.1 (1, i) 1 = sd i 1 := rS.2.2.2.2 i 1 hi (by decide)
    have s6 : S.1 (1, i) 6 = sd i 6 := rS.2.2.2.2 i 6 hi (by decide)
    have sy : S.1 (0, 0) 2 = yr := rS.2.2.1
    by_cases c2 : sd i 3 = 0
    · refine ⟨-3, S, T0 S, ?_, ?_, hI.ag (T0_ag S)⟩
      · simp [fX7_read, e7, c1, b01_ite, rg2 rS hn hi, gd, alv1 rS hi, s3, c2]
      · have h24 : (T0 S).1 (0, 24) i = sd i 3 := mT.2.2.1 i 3 hi (by decide)
        simp [fX8_read, stp, e8 _ mT, c1, b01_ite, gd, al24, hi16, hcl, h24, c2]
    · by_cases c3 : x2 = 0
      · subst c3
        have r1 : RS n yr (up2 sd i 7 yr) (s2 S (1, i) 7 yr) := rS.put
        have m1 : MS n yr sd (s2 S (1, i) 7 yr) := mS.fr (by simp) (by simp)
        have m2 := MS.fr (k := (0, 1)) (j := 0) (x := 0) m1 (by simp) (by simp)
        have m3 := MS.put (j := 7) (x := yr) m2 hi (show 30 = mk 7 from rfl) (by decide)
        have h24 : (T0 (s2 S (1, i) 7 yr)).1 (0, 24) i = sd i 3 := m2.2.2.1 i 3 hi (by decide)
        have h24' : (s2 (T0 (s2 S (1, i) 7 yr)) (0, 30) i yr).1 (0, 24) i = sd i 3 := (m3.2.2.1 i 3 hi (by decide)).trans (up2_j sd yr (by decide))
        have hy : (T0 (s2 S (1, i) 7 yr)).1 (0, 1) 2 = yr := m2.2.1
        have s3' : (s2 S (1, i) 7 yr).1 (1, i) 3 = sd i 3 := (r1.2.2.2.2 i 3 hi (by decide)).trans (up2_j sd yr (by decide))
        refine ⟨sd i 3, s2 S (1, i) 7 yr, s2 (T0 (s2 S (1, i) 7 yr)) (0, 30) i yr, ?_, ?_, ?_⟩
        · simp [fX7_read, jX7_read_49, stp, bz, e7, c1, b01_ite, rg2 rS hn hi, gd, alv1 rS hi, s3, c2, sy, alv1 r1 hi, s3']
        · simp [fX8_read, jX8_read_63, bz, stp, e8 _ m2, c1, b01_ite, gd, al24, al30, hi16, hcl, h24, c2, hy, h24']
        · exact Inv.sides (ok_up7 oS) ((r1.fr (by simp) (by simp)).fr (by simp) (by simp)) m3 ((((hI.i3s).fr (k3s_side _ _)).fr k3s_T0).fr (k3s_ms _ (by decide)))
      · have hbz : bz x2 = 1 := if_neg c3
        generalize hv : lo0 (sd i 3 - sd i 1) = v
        have hv2 : (if 0 < sd i 3 - sd i 1 then sd i 3 - sd i 1 else 0) = v := hv
        have r1 : RS n yr (up2 sd i 3 v) (s2 S (1, i) 3 v) := rS.put
        have s6' : (s2 S (1, i) 3 v).1 (1, i) 6 = sd i 6 := (r1.2.2.2.2 i 6 hi (by decide)).trans (up2_j sd v (by decide))
        have r2 : RS n yr (up2 (up2 sd i 3 v) i 6 (sd i 6 + 1)) (s2 (s2 S (1, i) 3 v) (1, i) 6 (sd i 6 + 1)) := r1.put
        have sy' : (s2 (s2 S (1, i) 3 v) (1, i) 6 (sd i 6 + 1)).1 (0, 0) 2 = yr := r2.2.2.1
        have r3 : RS n yr (up2 (up2 (up2 sd i 3 v) i 6 (sd i 6 + 1)) i 7 yr) (s2 (s2 (s2 S (1, i) 3 v) (1, i) 6 (sd i 6 + 1)) (1, i) 7 yr) := r2.put
        have s3' : (s2 (s2 (s2 S (1, i) 3 v) (1, i) 6 (sd i 6 + 1)) (1, i) 7 yr).1 (1, i) 3 = v := (r3.2.2.2.2 i 3 hi (by decide)).trans (by rw [up2_j _ _ (by decide), up2_j _ _ (by decide), up2_s])
        generalize hS1 : s2 (s2 (s2 S (1, i) 3 v) (1, i) 6 (sd i 6 + 1)) (1, i) 7 yr = S1 at r3 s3'
        have m1 : MS n yr sd S1 := by rw [← hS1]; exact ((mS.fr (by simp) (by simp)).fr (by simp) (by simp)).fr (by simp) (by simp)
        have i3 : I3s S1 := by rw [← hS1]; exact (((hI.i3s).fr (k3s_side _ _)).fr (k3s_side _ _)).fr (k3s_side _ _)
        have m2 := MS.fr (k := (0, 1)) (j := 0) (x := 0) m1 (by simp) (by simp)
        have h24 : (T0 S1).1 (0, 24) i = sd i 3 := m2.2.2.1 i 3 hi (by decide)
        have h25 : (T0 S1).1 (0, 25) i = sd i 1 := m2.2.2.1 i 1 hi (by decide)
        have m3 := MS.put (j := 3) (x := v) m2 hi (show 24 = mk 3 from rfl) (by decide)
        have h29 : (s2 (T0 S1) (0, 24) i v).1 (0, 29) i = sd i 6 := (m3.2.2.1 i 6 hi (by decide)).trans (up2_j sd v (by decide))
        have m4 := MS.put (j := 6) (x := sd i 6 + 1) m3 hi (show 29 = mk 6 from rfl) (by decide)
        have hy : (s2 (s2 (T0 S1) (0, 24) i v) (0, 29) i (sd i 6 + 1)).1 (0, 1) 2 = yr := m4.2.1
        have m5 := MS.put (j := 7) (x := yr) m4 hi (show 30 = mk 7 from rfl) (by decide)
        have h24' : (s2 (s2 (s2 (T0 S1) (0, 24) i v) (0, 29) i (sd i 6 + 1)) (0, 30) i yr).1 (0, 24) i = v := (m5.2.2.1 i 3 hi (by decide)).trans (by rw [up2_j _ _ (by decide), up2_j _ _ (by decide), up2_s])
        refine ⟨v, S1, s2 (s2 (s2 (T0 S1) (0, 24) i v) (0, 29) i (sd i 6 + 1)) (0, 30) i yr, ?_, ?_, ?_⟩
        · simp [fX7_read, fX2_lose, jX7_read_49, stp, hbz, e7, c1, b01_ite, rg2 rS hn hi, gd, alv1 rS hi, s3, s1, c2, hv2, alv1 r1 hi, s6', alv1 r2 hi, sy']
          rw [hS1]
          simp [alv1 r3 hi, s3']
        · simp [fX8_read, jX8_read_63, hbz, stp, e8 _ m2, c1, b01_ite, gd, al24, al25, al29, al30, hi16, hcl, h24, h25, c2, aln_eq, hv, h29, hy, h24']
        · have hr3 := (oS.2.2.1 i hi).2.2.2.1
          have hr1 := (oS.2.2.1 i hi).2.1
          have hvr : rg 0 100 v := by rw [← hv]; exact lo0_rg hr3 ⟨hr1.1, by have := hr1.2; omega⟩
          exact Inv.sides (ok_up7 (ok_up6 (ok_up3 oS hvr))) ((((r3.fr (by simp) (by simp)).fr (by simp) (by simp)).fr (by simp) (by simp)).fr (by simp) (by simp)) m5 ((((i3.fr k3s_T0).fr (k3s_ms _ (by decide))).fr (k3s_ms _ (by decide))).fr (k3s_ms _ (by decide)))
  · refine ⟨-1, S, T0 S, ?_, ?_, hI.ag (T0_ag S)⟩
    · simp [fX7_read, e7, c1, b01_ite]
    · simp [fX8_read, stp, e8 _ mT, c1, b01_ite]
