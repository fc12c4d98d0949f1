/-! best -/
theorem cRef0 {F n : Nat} {x y a hi : Int32} {S : vs} (h : S.1 (0, 0) 1 = nI n) (hn : n ≤ 16) (hx : ¬ isSt n x = true) : fX7_planRefusal F x y a hi S = some (-1) := by
  unfold fX7_planRefusal
  rw [isSet_eq h hn]
  simp only [Option.bind_some, b01_ite, if_neg hx]
theorem pOk_t {s : Nat} {y a : Int32} {hi : Int} (h : pOk s y a hi = true) : pcs s 16 ≤ 6 ∧ (∃ Y : Nat, (1 ≤ Y ∧ Y ≤ 3) ∧ y = nI Y) ∧ 0 ≤ a.toInt ∧ a.toInt ≤ hi := by
  unfold pOk at h
  simp only [Bool.and_eq_true, decide_eq_true_eq] at h
  obtain ⟨⟨h1, h2⟩, h3⟩ := h
  have h2 : 1 ≤ y.toInt ∧ y.toInt ≤ 3 := wi_t.mp h2
  have h3 : 0 ≤ a.toInt ∧ a.toInt ≤ hi := wi_t.mp h3
  obtain ⟨Y, hY, rfl⟩ := rg_of (n := 3) (x := y) ⟨by omega, h2.2⟩
  rw [nI_toInt (by omega)] at h2
  exact ⟨h1, ⟨Y, by omega, rfl⟩, h3⟩
theorem mx_P {lh nh : Nat → Int} {sv : Nat → Nat → Int} {m Y : Nat} {H v : Int} {f : Nat → Nat} (h : mxF lh nh sv m Y (fun _ => H) v) (hf : isP lh nh sv m Y H f) : vS sv m Y f = v := by
  obtain ⟨⟨g, g1, g2⟩, g3⟩ := h
  have h1 := g3 f hf.2.1
  have h2 := hf.2.2.1 g g1
  omega
theorem pst5 (F : Nat) (hF : 200000 ≤ F) : St5 F Inv := by
  intro S hI x1 x2 x3
  obtain ⟨n, yr, sd, oS, rS, mS⟩ := hI.s
  have hn := oS.1
  have aT := T0_ag S
  by_cases c : isSt n x1 = true
  · obtain ⟨s, hs, rfl⟩ := tb_set hn c
    have s16 := lt16 hn hs
    have e16 := pcs_16 hn hs
    have cr := cRef (F := F) (y := x2) (a := x3) (hi := 3000) rS.2.1 hn hs
    rw [if_pos c, show (3000 : Int32).toInt = 3000 from rfl] at cr
    by_cases c2 : pOk s x2 x3 3000 = true
    · obtain ⟨p1, ⟨Y, hY, rfl⟩, p3, p4⟩ := pOk_t c2
      rw [e16] at p1
      obtain ⟨U1, e1, g1, d1⟩ := cInto (F := F) oS rS p1 hY.2 (by omega)
      have hB := PB_M (sd := sd) oS p1 hY
      obtain ⟨r, U2, e2, g2, -, x2⟩ := cWith (F := F) hB d1 (by omega) p3
      have ag : Ag scr S (T0 U2) := (g1.tr (WK_scr g2)).tr (T0_ag U2)
      obtain ⟨U3, f, e3, g3, -, i3, w3⟩ := mPlan (F := F) (H := x3) oS (mS.ag ag) p1 s16 hY p3 hF
      have er : U3.1 (0, 1) 33 = r := by
        rw [fa_eq, w3.1]
        exact mx_P x2 i3
      refine ⟨r, U2, U3, ?_, ?_, hI.ag (ag.tr g3)⟩
      · unfold fX7_best
        rw [cr, if_pos c2]
        simp only [Option.bind_some, if_true, e1, e2]
      · simp only [fX8_best, stp]
        rw [noSet_eq (mS.ag ag).1 hn]
        simp only [Option.bind_some, b01_ite, c, Bool.not_true, Bool.false_eq_true, if_false, mBad s16 (show 100 ≤ F by omega), c2, e3, er, show (b01 false = 0) = True by decide, if_true]
    · refine ⟨-2, S, T0 S, ?_, ?_, hI.ag aT⟩
      · unfold fX7_best
        rw [cr, if_neg c2]
        simp only [Option.bind_some, show ((-2 : Int32) = 0) = False by decide, if_false]
      · simp only [fX8_best, stp]
        rw [noSet_eq (mS.ag aT).1 hn]
        simp only [Option.bind_some, b01_ite, c, Bool.not_true, Bool.false_eq_true, if_false, mBad s16 (show 100 ≤ F by omega), Bool.eq_false_iff.mpr c2, Bool.not_false, if_true]
  · refine ⟨-1, S, T0 S, ?_, ?_, hI.ag aT⟩
    · unfold fX7_best
      rw [cRef0 rS.2.1 hn c]
      simp only [Option.bind_some, show ((-1 : Int32) = 0) = False by decide, if_false]
    · simp only [fX8_best, stp]
      rw [noSet_eq (mS.ag aT).1 hn]
      simp only [Option.bind_some, b01_ite, Bool.eq_false_iff.mpr c, Bool.not_false, if_true]
