def op (Y o : Nat) : Int32 := if o = 2 * Y then (-9) else nI o
abbrev tI (e : Nat → Int32) : Nat → Int := fun i => (e i).toInt
abbrev tII (e : Nat → Nat → Int32) : Nat → Nat → Int := fun o i => (e o i).toInt
theorem cHf {F m Y p o : Nat} {lh nh : Nat → Int32} {sv : Nat → Nat → Int32} {U : vs} (hm : m ≤ 6) (hD : PD m Y lh nh sv U) (hp : p < m) (ho : o < 6) : fX0_hoursFor F (nI o) (nI p) U = some (if o % 2 = 0 then lh p else nh p) := by
  unfold fX0_hoursFor
  rw [half_I (show o < 2 ^ 31 by omega), odd_I (show o < 2 ^ 31 by omega), al7, al8, inb_nI (show p < 6 by omega) (by decide), cl_nI (show p < 2 ^ 31 by omega), (hD.2.2.1 p hp).1, (hD.2.2.1 p hp).2]
  rcases (show o % 2 = 0 ∨ o % 2 = 1 by omega) with e | e
  · rw [e, if_pos (show nI 0 = (0 : Int32) from rfl), if_pos rfl]; rfl
  · rw [e, if_neg (show ¬ nI 1 = (0 : Int32) by decide), if_neg (show ¬ 1 = 0 by decide)]; rfl
theorem wk10 (j : Nat) : WK (0, 10) j := ⟨rfl, by decide, by decide⟩
theorem cfo {F m Y p : Nat} {lh nh : Nat → Int32} {sv : Nat → Nat → Int32} {H : Int} {f : Nat → Nat} {goal : Int32} {S : vs} (hB : PB m Y lh nh sv) (hD : PD m Y lh nh sv S) (hF : 100 ≤ F) (hH : 0 ≤ H ∧ H ≤ 3000) (hP : isP (tI lh) (tI nh) (tII sv) m Y H f) (hp : p < m) (hg : goal.toInt = vS (tII sv) m Y f - vS (tII sv) p Y f) (hc : ∀ y, y < Y → (S.1 (0, 10) y).toInt = H - uS (tI lh) (tI nh) p f y) : ∀ (d o fuel : Nat) (U : vs), o + d = 2 * Y → d < fuel → Ag WK S U → (∀ y, U.1 (0, 10) y = S.1 (0, 10) y) → o ≤ f p → ∃ U', hX0_firstOption_2 F (nI p) goal fuel (nI o) U = some (op Y (f p), U') ∧ Ag WK S U' ∧ ∀ y, U'.1 (0, 10) y = S.1 (0, 10) y := by
  have hm := hB.1
  have hY := hB.2.1
  have nn : ∀ i, i < m → 0 ≤ tI lh i ∧ 0 ≤ tI nh i := fun i hi => by
    have h1 := (hB.2.2 i hi).1
    have h2 := (hB.2.2 i hi).2.1
    unfold rg at h1 h2
    show 0 ≤ (lh i).toInt ∧ 0 ≤ (nh i).toInt
    omega
  intro d
  induction d with
  | zero =>
    intro o fuel U ho hf hA hk hl
    obtain ⟨q, rfl⟩ : ∃ q, fuel = q + 1 := ⟨fuel - 1, by omega⟩
    have e : f p = 2 * Y := by have := hP.1 p hp; omega
    have : o = 2 * Y := by omega
    subst this
    refine ⟨U, ?_, hA, hk⟩
    rw [hX0_firstOption_2, (hD.ag hA).2.1, m2_eq, if_pos (Int32.le_refl _), e, op, if_pos rfl]
  | succ d ih =>
    intro o fuel U ho hf hA hk hl
    obtain ⟨q, rfl⟩ : ∃ q, fuel = q + 1 := ⟨fuel - 1, by omega⟩
    have ol : o < 2 * Y := by omega
    have yl : o / 2 < Y := by omega
    have hDU := hD.ag hA
    have hfo := cHf (F := F) hm hDU hp (show o < 6 by omega)
    have ea : (if o % 2 = 0 then lh p else nh p).toInt = hO (tI lh) (tI nh) o p := by
      unfold hO
      by_cases c : o % 2 = 0
      · rw [if_pos c, if_pos c]
      · rw [if_neg c, if_neg c]
    have ab : 1 ≤ (if o % 2 = 0 then lh p else nh p).toInt ∧ (if o % 2 = 0 then lh p else nh p).toInt ≤ 1000 := by
      by_cases c : o % 2 = 0
      · rw [if_pos c]; exact (hB.2.2 p hp).1
      · rw [if_neg c]; exact (hB.2.2 p hp).2.1
    generalize (if o % 2 = 0 then lh p else nh p) = a at hfo ea ab
    have cy := hc (o / 2) yl
    rw [hX0_firstOption_2, hDU.2.1, m2_eq, if_neg (nle_nI ol (by omega)), hfo]
    simp only [Option.bind_some, ltt, half_I (show o < 2 ^ 31 by omega), al10, inb_nI (show o / 2 < 3 by omega) (by decide), cl_nI (show o / 2 < 2 ^ 31 by omega), gd, if_true, hk]
    have ub : 0 ≤ uS (tI lh) (tI nh) p f (o / 2) := uS_nn (fun i hi => nn i (by omega))
    by_cases c : a ≤ S.1 (0, 10) (o / 2)
    · rw [if_pos c]
      rw [fa_le] at c
      simp only [stp, rget5 (show o < 6 by omega), Option.bind_some, al4 _ (show o < 6 by omega), inb_nI (show p < 6 by omega) (by decide), if_true, nI_1, cl_nI (show p < 2 ^ 31 by omega)]
      generalize hV : s2 U (0, 10) (o / 2) (S.1 (0, 10) (o / 2) - a) = V
      have aV : Ag WK U V := by rw [← hV]; exact Ag.put (wk10 _)
      have vy : V.1 (0, 10) (o / 2) = S.1 (0, 10) (o / 2) - a := by rw [← hV, s2_at, if_pos ⟨rfl, rfl⟩]
      have vo : ∀ y, y ≠ o / 2 → V.1 (0, 10) y = S.1 (0, 10) y := fun y h => by rw [← hV, s2_at, if_neg (fun z => h z.2), hk]
      have hDV := hDU.ag aV
      have sI : (S.1 (0, 10) (o / 2) - a).toInt = (S.1 (0, 10) (o / 2)).toInt - a.toInt := fb_subI (by omega) (by omega)
      have fits : ∀ y, y < Y → (V.1 (0, 10) y).toInt = H - uS (tI lh) (tI nh) p f y - pt (tI lh) (tI nh) o p y ∧ 0 ≤ H - uS (tI lh) (tI nh) p f y - pt (tI lh) (tI nh) o p y := fun y hy => by
        by_cases c2 : y = o / 2
        · subst c2
          rw [vy, sI, cy]
          unfold pt
          rw [if_pos rfl, ← ea]
          omega
        · have lf := lex_fit hP hp nn hy
          have pn : 0 ≤ pt (tI lh) (tI nh) (f p) p y := by
            have := nn p hp
            unfold pt hO
            split <;> (try split) <;> omega
          have z : pt (tI lh) (tI nh) o p y = 0 := if_neg (fun e => c2 e.symm)
          rw [vo y c2, hc y hy, z]
          omega
      obtain ⟨r, V2, e2, g2, x2⟩ := cMost (F := F) (first := p + 1) (cap := fun y => H - uS (tI lh) (tI nh) p f y - pt (tI lh) (tI nh) o p y) hB hDV (by omega) hF fits
      have rb : 0 ≤ r.toInt ∧ r.toInt ≤ 600000 := by
        obtain ⟨⟨g, _, g2⟩, _⟩ := x2
        have := vS_b (sv := fun o i => (sv o (p + 1 + i)).toInt) (y := Y) (f := g) (show m - (p + 1) ≤ 6 by omega) (fun o i hi => (hB.2.2 (p + 1 + i) (by omega)).2.2 o)
        rw [g2] at this
        exact this
      have sb := (hB.2.2 p hp).2.2 o
      have vs' : V.1 (4, o) p = sv o p := hDV.2.2.2 o p ol hp
      have v2y : V2.1 (0, 10) (o / 2) = S.1 (0, 10) (o / 2) - a := by rw [g2.1 _ _ (by unfold PK; simp), vy]
      rw [e2, vs']
      simp only [Option.bind_some, v2y, Int32.sub_add_cancel]
      have sI2 : (sv o p + r).toInt = (sv o p).toInt + r.toInt := fb_addI (by have := sb.1; omega) (by have := sb.2; omega)
      have aN : Ag WK S (s2 V2 (0, 10) (o / 2) (S.1 (0, 10) (o / 2))) := ((hA.tr aV).tr g2.pw).tr (Ag.put (wk10 _))
      have kN : ∀ y, (s2 V2 (0, 10) (o / 2) (S.1 (0, 10) (o / 2))).1 (0, 10) y = S.1 (0, 10) y := fun y => by
        rw [s2_at]
        by_cases c2 : y = o / 2
        · rw [if_pos ⟨rfl, c2⟩, c2]
        · rw [if_neg (fun z => c2 z.2), g2.1 _ _ (by unfold PK; simp), vo y c2]
      by_cases c3 : o = f p
      · have ly := lex_yes (sv := tII sv) hP hp (by omega) (fun y hy => rfl) (by rw [← c3]; exact x2)
        rw [← c3] at ly
        have eq : sv o p + r = goal := by rw [fa_eq, sI2, hg]; exact ly
        rw [if_pos eq]
        refine ⟨_, ?_, aN, kN⟩
        rw [op, if_neg (by omega), c3]
      · have ln := lex_no (sv := tII sv) hP hp ol (fun y hy => rfl) x2 (by omega)
        have ne : ¬ sv o p + r = goal := fun z => ln (by
          rw [fa_eq, sI2, hg] at z
          exact z)
        rw [if_neg ne]
        simp only [jX0_firstOption_90, ltt, nI_1]
        exact ih (o + 1) q _ (by omega) (by omega) aN kN (by omega)
    · rw [if_neg c]
      rw [fa_le] at c
      have ne : o ≠ f p := fun z => by
        have lf := lex_fit hP hp nn yl
        rw [← z] at lf
        unfold pt at lf
        rw [if_pos rfl, ← ea] at lf
        omega
      simp only [jX0_firstOption_90, ltt, nI_1]
      exact ih (o + 1) q U (by omega) (by omega) hA hk (by omega)
