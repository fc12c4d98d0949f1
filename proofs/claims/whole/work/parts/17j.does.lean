theorem uS_s {lh nh : Nat → Int} {k y : Nat} {f : Nat → Nat} : uS lh nh (k + 1) f y = uS lh nh k f y + pt lh nh (f k) k y := rfl
theorem vS_s {sv : Nat → Nat → Int} {k Y : Nat} {f : Nat → Nat} : vS sv (k + 1) Y f = vS sv k Y f + (if f k < 2 * Y then sv (f k) k else 0) := rfl
theorem op_nm {Y o : Nat} (h : o < 2 * Y) (hY : Y ≤ 3) : ¬ op Y o = (-9) := by
  unfold op
  rw [if_neg (by omega)]
  exact nI_nm9 (by omega)
theorem coa {F m Y P : Nat} {lh nh : Nat → Int32} {sv : Nat → Nat → Int32} {H : Int} {f : Nat → Nat} {S : vs} (hB : PB m Y lh nh sv) (hF : 100 ≤ F) (hH : 0 ≤ H ∧ H ≤ 3000) (hf : isP (tI lh) (tI nh) (tII sv) m Y H f) (hP : P < m) : ∀ (d k fuel : Nat) (goal x4 : Int32) (U : vs), k + d = P + 1 → d < fuel → Ag WK S U → PD m Y lh nh sv U → goal.toInt = vS (tII sv) m Y f - vS (tII sv) k Y f → (∀ y, y < Y → (U.1 (0, 10) y).toInt = H - uS (tI lh) (tI nh) k f y) → (∀ j, k = j + 1 → x4 = op Y (f j)) → ∃ U', hX0_optionAt_13 F (nI P) fuel goal x4 (nI k) U = some (op Y (f P), U') ∧ Ag WK S U' := by
  have hm := hB.1
  have hY := hB.2.1
  have nn : ∀ i, i < m → 0 ≤ tI lh i ∧ 0 ≤ tI nh i := fun i hi => by
    have h1 := (hB.2.2 i hi).1
    have h2 := (hB.2.2 i hi).2.1
    unfold rg at h1 h2
    show 0 ≤ (lh i).toInt ∧ 0 ≤ (nh i).toInt
    omega
  have vb : ∀ k, k ≤ m → 0 ≤ vS (tII sv) k Y f ∧ vS (tII sv) k Y f ≤ 600000 := fun k hk => vS_b (by omega) (fun o i hi => (hB.2.2 i (by omega)).2.2 o)
  intro d
  induction d with
  | zero =>
    intro k fuel goal x4 U hk hfu hA hD hg hc hx
    obtain ⟨q, rfl⟩ : ∃ q, fuel = q + 1 := ⟨fuel - 1, by omega⟩
    have : k = P + 1 := by omega
    subst this
    refine ⟨U, ?_, hA⟩
    rw [hX0_optionAt_13, if_pos ((nI_ltI (by omega) (by omega)).mpr (by omega)), hx P rfl]
  | succ d ih =>
    intro k fuel goal x4 U hk hfu hA hD hg hc hx
    obtain ⟨q, rfl⟩ : ∃ q, fuel = q + 1 := ⟨fuel - 1, by omega⟩
    have km : k < m := by omega
    obtain ⟨U1, e1, g1, k1⟩ := cfo (F := F) hB hD hF hH hf km hg hc (2 * Y) 0 F U (by omega) (by omega) (Ag.rf U) (fun y => rfl) (by omega)
    have hD1 := hD.ag g1
    rw [hX0_optionAt_13, if_neg (show ¬ nI P < nI k from fun z => by
      have := (nI_ltI (by omega) (by omega)).mp z
      omega), hD.1, if_neg (nle_nI km (by omega))]
    rw [nI_0] at e1
    simp only [fX0_firstOption, e1, Option.bind_some]
    by_cases c : f k = 2 * Y
    · have eo : op Y (f k) = (-9) := by unfold op; rw [if_pos c]
      rw [if_pos eo]
      simp only [jX0_optionAt_77, ltt, nI_1]
      refine ih (k + 1) q goal _ U1 (by omega) (by omega) (hA.tr g1) hD1 ?_ (fun y hy => ?_) (fun j hj => ?_)
      · rw [vS_s, if_neg (by omega), hg]; omega
      · rw [k1, hc y hy, uS_s]
        have : pt (tI lh) (tI nh) (f k) k y = 0 := if_neg (by omega)
        omega
      · rw [show j = k by omega]
    · have ol : f k < 2 * Y := by have := hf.1 k km; omega
      have eo : op Y (f k) = nI (f k) := by unfold op; rw [if_neg c]
      rw [if_neg (op_nm ol hY.2), eo]
      have hfo := cHf (F := F) hm hD1 km (show f k < 6 by omega)
      have ea : (if f k % 2 = 0 then lh k else nh k).toInt = hO (tI lh) (tI nh) (f k) k := by
        unfold hO
        by_cases c : f k % 2 = 0
        · rw [if_pos c, if_pos c]
        · rw [if_neg c, if_neg c]
      have ab : 1 ≤ (if f k % 2 = 0 then lh k else nh k).toInt ∧ (if f k % 2 = 0 then lh k else nh k).toInt ≤ 1000 := by
        by_cases c : f k % 2 = 0
        · rw [if_pos c]; exact (hB.2.2 k km).1
        · rw [if_neg c]; exact (hB.2.2 k km).2.1
      generalize (if f k % 2 = 0 then lh k else nh k) = a at hfo ea ab
      have aV : Ag WK U1 (s2 U1 (0, 10) (f k / 2) (U1.1 (0, 10) (f k / 2) - a)) := Ag.put (wk10 _)
      have hDV := hD1.ag aV
      have vs' := hDV.2.2.2 (f k) k ol km
      simp only [half_I (show f k < 2 ^ 31 by omega), al10, inb_nI (show f k / 2 < 3 by omega) (by decide), cl_nI (show f k / 2 < 2 ^ 31 by omega), gd, if_true, hfo, Option.bind_some, stp, rget5 (show f k < 6 by omega), al4 _ (show f k < 6 by omega), inb_nI (show k < 6 by omega) (by decide), cl_nI (show k < 2 ^ 31 by omega), ltt, vs', jX0_optionAt_77, nI_1]
      refine ih (k + 1) q _ _ _ (by omega) (by omega) ((hA.tr g1).tr aV) hDV ?_ (fun y hy => ?_) (fun j hj => ?_)
      · have b1 := vb k (by omega)
        have b2 := vb m (by omega)
        have sb := (hB.2.2 k km).2.2 (f k)
        unfold rg at sb
        rw [fb_subI (by omega) (by omega), hg, vS_s, if_pos ol]
        show _ - (sv (f k) k).toInt = _ - (_ + (sv (f k) k).toInt)
        omega
      · rw [uS_s, s2_at]
        by_cases c2 : y = f k / 2
        · rw [if_pos ⟨rfl, c2⟩, k1, ← c2]
          have lf := lex_fit hf km nn hy
          have hcy := hc y hy
          have ub : 0 ≤ uS (tI lh) (tI nh) k f y := uS_nn (fun i hi => nn i (by omega))
          have e : pt (tI lh) (tI nh) (f k) k y = a.toInt := by unfold pt; rw [if_pos c2.symm, ea]
          rw [e] at lf ⊢
          rw [fb_subI (by omega) (by omega), hcy]
          omega
        · rw [if_neg (fun z => c2 z.2), k1, hc y hy]
          have : pt (tI lh) (tI nh) (f k) k y = 0 := if_neg (fun z => c2 z.symm)
          omega
      · rw [show j = k by omega, eo]
theorem cOpt {F m Y P : Nat} {lh nh : Nat → Int32} {sv : Nat → Nat → Int32} {H : Int32} {f : Nat → Nat} {S : vs} (hB : PB m Y lh nh sv) (hD : PD m Y lh nh sv S) (hF : 100 ≤ F) (hH : 0 ≤ H.toInt ∧ H.toInt ≤ 3000) (hf : isP (tI lh) (tI nh) (tII sv) m Y H.toInt f) (hP : P < m) : ∃ U', fX0_optionAt F (nI P) H S = some (op Y (f P), U') ∧ Ag WK S U' := by
  have hm := hB.1
  have hY := hB.2.1
  obtain ⟨r, U1, e1, g1, t1, x1⟩ := cWith (F := F) hB hD hF hH.1
  have er := mx_P x1 hf
  obtain ⟨U', e, g⟩ := coa (F := F) (S := S) hB hF hH hf hP (P + 1) 0 F r (-9) U1 (by omega) (by omega) g1 (hD.ag g1) (by rw [show vS (tII sv) 0 Y f = 0 from rfl, Int.sub_zero]; exact er.symm) (fun y hy => by rw [t1 y (by omega), show uS (tI lh) (tI nh) 0 f y = 0 from rfl, Int.sub_zero]) (fun j hj => by omega)
  refine ⟨U', ?_, g⟩
  unfold fX0_optionAt
  rw [e1]
  simp only [Option.bind_some]
  rw [nI_0] at e
  exact e
theorem md52 {F m s i P : Nat} {D : Int32} {U : vs} (hm : m ≤ 6) (hM : MB m s U) (hi : i < 16) (hq : ∀ p, p < m → (mm s 16 p = i ↔ p = P)) (hb : ∀ p, p < m → mm s 16 p < 16) (hD : P < m → U.1 (0, 47) P = D) : ∀ (d k fuel : Nat), k + d = m → d < fuel → hX8_does_52 F (nI i) fuel (if P < k then D else (-9)) (nI k) U = some (if P < m then D else (-9), U) := by
  intro d
  induction d with
  | zero =>
    intro k fuel hk hf
    obtain ⟨f, rfl⟩ : ∃ f, fuel = f + 1 := ⟨fuel - 1, by omega⟩
    have : k = m := by omega
    subst this
    rw [hX8_does_52, hM.1, if_pos (Int32.le_refl _)]
  | succ d ih =>
    intro k fuel hk hf
    obtain ⟨f, rfl⟩ : ∃ f, fuel = f + 1 := ⟨fuel - 1, by omega⟩
    have km : k < m := by omega
    have nx := ih (k + 1) f (by omega) (by omega)
    rw [hX8_does_52, hM.1, if_neg (nle_nI km (by omega)), al46, inb_nI (show k < 6 by omega) (by decide), cl_nI (show k < 2 ^ 31 by omega), hM.2 k km]
    simp only [gd, if_true, jX8_does_85, ltt, nI_1, al47, inb_nI (show k < 6 by omega) (by decide)]
    have b := hb k km
    by_cases c : mm s 16 k = i
    · have e := (hq k km).mp c
      rw [if_pos (by rw [c])]
      rw [if_pos (show P < k + 1 by omega)] at nx
      rw [e, hD (by omega)]
      rw [e] at nx
      exact nx
    · have e : ¬ k = P := fun z => c ((hq k km).mpr z)
      rw [if_neg (fun z => c ((nI_eq (by omega) (by omega)).mp z))]
      by_cases c2 : P < k
      · rw [if_pos c2]
        rw [if_pos (show P < k + 1 by omega)] at nx
        exact nx
      · rw [if_neg c2]
        rw [if_neg (show ¬ P < k + 1 by omega)] at nx
        exact nx
theorem pst6 (F : Nat) (hF : 200000 ≤ F) : St6 F Inv := by
  intro S hI x1 x2 x3 x4
  obtain ⟨n, yr, sd, oS, rS, mS⟩ := hI.s
  have hn := oS.1
  have aT := T0_ag S
  by_cases c : isSt n x1 = true
  · obtain ⟨s, hs, rfl⟩ := tb_set hn c
    have s16 := lt16 hn hs
    have e16 := pcs_16 hn hs
    have cr := cRef (F := F) (y := x2) (a := x3) (hi := 3000) rS.2.1 hn hs
    rw [if_pos c, show (3000 : Int32).toInt = 3000 from rfl] at cr
    by_cases c2 : pOk s x2 x3 3000 = true
    · rw [if_pos c2] at cr
      by_cases c3 : wi 0 ((n : Int) - 1) x4 = true
      · obtain ⟨i, hi, rfl⟩ := rg_of1 (wi_t.mp c3)
        obtain ⟨p1, ⟨Y, hY, rfl⟩, p3, p4⟩ := pOk_t c2
        rw [e16] at p1
        have mlt : ∀ p, p < pcs s n → mm s 16 p < 16 := fun p hp => by have := (mm_is hn hp).1; omega
        have mod : ∀ (T : vs), Ag scr S (T0 T) → ∃ U f, fX8_does F (nI s) (nI Y) x3 (nI i) T = hX8_does_52 F (nI i) F (-9) 0 U ∧ Ag scr S U ∧ MB (pcs s n) s U ∧ isP (lhI sd s) (nhI sd s) (svI sd s) (pcs s n) Y x3.toInt f ∧ WR sd s (pcs s n) Y f U := fun T ag => by
          obtain ⟨U3, f, e3, g3, m3, i3, w3⟩ := mPlan (F := F) (H := x3) oS (mS.ag ag) p1 s16 hY p3 hF
          refine ⟨U3, f, ?_, ag.tr g3, m3, i3, w3⟩
          simp only [fX8_does, stp]
          rw [noSet_eq (mS.ag ag).1 hn]
          simp only [Option.bind_some, b01_ite, c, Bool.not_true, Bool.false_eq_true, if_false, mBad s16 (show 100 ≤ F by omega), c2, show (b01 false = 0) = True by decide, if_true, noSide_eq (F := F) (x := nI i) (mS.ag ag).1 (by omega), c3, e3]
        by_cases c4 : s.testBit i = true
        · have Pm := pcs_lt s hi c4
          obtain ⟨U1, e1, g1, d1⟩ := cInto (F := F) oS rS p1 hY.2 (by omega)
          have hB := PB_M (sd := sd) oS p1 hY
          -- the plan that the reference takes does not hang on the state
          obtain ⟨-, f0, -, -, -, i0, -⟩ := mod S aT
          obtain ⟨U2, e2, g2⟩ := cOpt (F := F) (H := x3) (f := f0) hB d1 (by omega) ⟨p3, p4⟩ i0 Pm
          have ag : Ag scr S (T0 U2) := (g1.tr (WK_scr g2)).tr (T0_ag U2)
          obtain ⟨U3, f, e3, g3, m3, i3, w3⟩ := mod U2 ag
          obtain ⟨U2', e2', -⟩ := cOpt (F := F) (H := x3) (f := f) hB d1 (by omega) ⟨p3, p4⟩ i3 Pm
          have eo : op Y (f0 (pcs s i)) = op Y (f (pcs s i)) := by
            rw [e2] at e2'
            simp only [Option.some.injEq, Prod.mk.injEq] at e2'
            exact e2'.1
          have h52 := md52 (F := F) (m := pcs s n) (s := s) (i := i) (P := pcs s i) (D := op Y (f (pcs s i))) (U := U3) p1 m3 (by omega) (fun p hp => by
            constructor
            · intro z
              have := (mm_is hn hp).2.2
              rw [z] at this
              exact this.symm
            · intro z
              rw [z]
              exact mm_eq c4 16 (by omega)) mlt (fun hp => w3.2.2 _ hp) (pcs s n) 0 F (by omega) (by omega)
          rw [if_neg (by omega), if_pos Pm, nI_0] at h52
          refine ⟨op Y (f (pcs s i)), U2, U3, ?_, ?_, hI.ag g3⟩
          · unfold fX7_does
            rw [cr]
            simp only [Option.bind_some, if_true, isSide_eq (F := F) (x := nI i) rS.2.1 (by omega), b01_ite, c3, fX7_holds, and_bit (show i < 32 by omega), tb_nI s (show i < 32 by omega), c4, Bool.true_eq_false, if_false, show ((1 : Int32) = 0) = False by decide, e1, ltt, cPlace s16 (show i < 16 by omega), e2, eo]
          · show fX8_does F (nI s) (nI Y) x3 (nI i) U2 = _
            rw [e3]
            exact h52
        · obtain ⟨U3, f, e3, g3, m3, i3, w3⟩ := mod S aT
          have h52 := md52 (F := F) (m := pcs s n) (s := s) (i := i) (P := pcs s n) (D := 0) (U := U3) p1 m3 (by omega) (fun p hp => by
            constructor
            · intro z
              have := (mm_is hn hp).2.1
              rw [z] at this
              exact absurd this c4
            · intro z
              omega) mlt (fun hp => by omega) (pcs s n) 0 F (by omega) (by omega)
          rw [if_neg (by omega), if_neg (by omega), nI_0] at h52
          refine ⟨-9, S, U3, ?_, ?_, hI.ag g3⟩
          · unfold fX7_does
            rw [cr]
            simp only [Option.bind_some, if_true, isSide_eq (F := F) (x := nI i) rS.2.1 (by omega), b01_ite, c3, fX7_holds, and_bit (show i < 32 by omega), tb_nI s (show i < 32 by omega), Bool.eq_false_iff.mpr c4]
          · show fX8_does F (nI s) (nI Y) x3 (nI i) S = _
            rw [e3]
            exact h52
      · refine ⟨-1, S, T0 S, ?_, ?_, hI.ag aT⟩
        · unfold fX7_does
          rw [cr]
          simp only [Option.bind_some, if_true, isSide_eq (F := F) (x := x4) rS.2.1 (by omega), b01_ite, if_neg c3]
        · simp only [fX8_does, stp]
          rw [noSet_eq (mS.ag aT).1 hn]
          simp only [Option.bind_some, b01_ite, c, Bool.not_true, Bool.false_eq_true, if_false, mBad s16 (show 100 ≤ F by omega), c2, show (b01 false = 0) = True by decide, if_true, noSide_eq (F := F) (x := x4) (mS.ag aT).1 (by omega), Bool.eq_false_iff.mpr c3, Bool.not_false]
    · refine ⟨-2, S, T0 S, ?_, ?_, hI.ag aT⟩
      · unfold fX7_does
        rw [cr, if_neg c2]
        simp only [Option.bind_some, show ((-2 : Int32) = 0) = False by decide, if_false]
      · simp only [fX8_does, stp]
        rw [noSet_eq (mS.ag aT).1 hn]
        simp only [Option.bind_some, b01_ite, c, Bool.not_true, Bool.false_eq_true, if_false, mBad s16 (show 100 ≤ F by omega), Bool.eq_false_iff.mpr c2, Bool.not_false, if_true]
  · refine ⟨-1, S, T0 S, ?_, ?_, hI.ag aT⟩
    · unfold fX7_does
      rw [cRef0 rS.2.1 hn c]
      simp only [Option.bind_some, show ((-1 : Int32) = 0) = False by decide, if_false]
    · simp only [fX8_does, stp]
      rw [noSet_eq (mS.ag aT).1 hn]
      simp only [Option.bind_some, b01_ite, Bool.eq_false_iff.mpr c, Bool.not_false, if_true]
