/-! what a plan is made of -/
def svF (sd : Nat → Nat → Int32) (i o : Nat) : Int32 := if o < 6 then sd i 0 * lo0 (sd i 3 - (sd i 2 * nI (o / 2) + (if o % 2 = 0 then 0 else sd i 1))) else 0
theorem svF_b {n i o : Nat} {yr : Int32} {sd : Nat → Nat → Int32} (oS : OkS n yr sd) (hi : i < n) : rg 0 100000 (svF sd i o) := by
  obtain ⟨h0, h1, h2, h3, -, -, -, -, -⟩ := oS.2.2.1 i hi
  unfold svF
  by_cases c : o < 6
  · rw [if_pos c]
    have z : 0 ≤ (if o % 2 = 0 then (0 : Int32) else sd i 1).toInt ∧ (if o % 2 = 0 then (0 : Int32) else sd i 1).toInt ≤ 100 := by
      by_cases c2 : o % 2 = 0
      · rw [if_pos c2]; decide
      · rw [if_neg c2]; exact h1
    generalize (if o % 2 = 0 then (0 : Int32) else sd i 1) = w at z
    have e1 : (sd i 2 * nI (o / 2)).toInt = (sd i 2).toInt * ((o / 2 : Nat) : Int) := by
      have hb : 0 ≤ (sd i 2).toInt * ((o / 2 : Nat) : Int) ∧ (sd i 2).toInt * ((o / 2 : Nat) : Int) ≤ 300 := by
        have := h2.1
        have := h2.2
        rcases (show o / 2 = 0 ∨ o / 2 = 1 ∨ o / 2 = 2 by omega) with e | e | e <;> rw [e] <;> simp <;> omega
      rw [fb_mulI (by rw [nI_toInt (by omega)]; omega) (by rw [nI_toInt (by omega)]; omega), nI_toInt (by omega)]
    have hb : 0 ≤ (sd i 2).toInt * ((o / 2 : Nat) : Int) ∧ (sd i 2).toInt * ((o / 2 : Nat) : Int) ≤ 300 := by
      have := h2.1
      have := h2.2
      rcases (show o / 2 = 0 ∨ o / 2 = 1 ∨ o / 2 = 2 by omega) with e | e | e <;> rw [e] <;> simp <;> omega
    have e2 : (sd i 2 * nI (o / 2) + w).toInt = (sd i 2).toInt * ((o / 2 : Nat) : Int) + w.toInt := by rw [fb_addI (by rw [e1]; omega) (by rw [e1]; omega), e1]
    have lb := lo0_rg h3 (b := sd i 2 * nI (o / 2) + w) (by rw [e2]; omega)
    generalize lo0 (sd i 3 - (sd i 2 * nI (o / 2) + w)) = q at lb
    have m1 : 0 ≤ (sd i 0).toInt * q.toInt ∧ (sd i 0).toInt * q.toInt ≤ 100000 := by
      have a0 := h0.1
      have a1 := h0.2
      have a2 := lb.1
      have a3 := lb.2
      constructor
      · exact Int.mul_nonneg a0 a2
      · have := Int.mul_le_mul a1 a3 a2 (by omega)
        omega
    unfold rg
    rw [fb_mulI (by omega) (by omega)]
    exact m1
  · rw [if_neg c]; exact ⟨by decide, by decide⟩
theorem cSaved {F n i o : Nat} {yr : Int32} {sd : Nat → Nat → Int32} {S : vs} (h : RS n yr sd S) (hi : i < n) (ho : o < 6) : fX2_savedIn F i (nI (o / 2)) (if o % 2 = 0 then 0 else 1) S = some (svF sd i o) := by
  unfold fX2_savedIn jX2_savedIn_18 svF lo0
  rw [if_pos ho, alv1 h hi, h.2.2.2.2 i 0 hi (by decide), h.2.2.2.2 i 1 hi (by decide), h.2.2.2.2 i 2 hi (by decide), h.2.2.2.2 i 3 hi (by decide)]
  by_cases c : o % 2 = 0
  · simp only [c, if_true, gd, ltt]
  · simp only [c, if_false, gd, ltt, if_true, show ((1 : Int32) = 0) = False by decide]
theorem scr_2 (j : Nat) : scr (0, 2) j := by unfold scr; simp
theorem scr_7 (a j : Nat) (h : 7 ≤ a ∧ a ≤ 16) : scr (0, a) j := by unfold scr; simp; omega
theorem scr_4 (a j : Nat) : scr (4, a) j := by unfold scr; simp
theorem ct38 {F n i k Y : Nat} {yr : Int32} {sd : Nat → Nat → Int32} {lh nh : Nat → Int32} {sv : Nat → Nat → Int32} {S : vs} (hS : RS n yr sd S) (hi : i < n) (hk : k < 6) (hY : Y ≤ 3) (hl : lh k = sd i 4) (hn : nh k = sd i 5) (hv : ∀ o, o < 2 * Y → sv o k = svF sd i o) : ∀ (d y fuel : Nat) (U : vs), y + d = Y → d < fuel → Ag scr S U → PD k Y lh nh sv U → (U.1 (0, 7) k = lh k ∧ U.1 (0, 8) k = nh k) → (∀ o, o < 2 * y → U.1 (4, o) k = sv o k) → ∃ U', hX0_take_38 F i fuel (nI y) U = some U' ∧ Ag scr S U' ∧ PD (k + 1) Y lh nh sv U' := by
  intro d
  induction d with
  | zero =>
    intro y fuel U hy hf hA hP h7 h4
    obtain ⟨f, rfl⟩ : ∃ f, fuel = f + 1 := ⟨fuel - 1, by omega⟩
    have : y = Y := by omega
    subst this
    refine ⟨s2 U (0, 2) 0 (nI (k + 1)), ?_, hA.tr (Ag.put (scr_2 _)), ?_⟩
    · rw [hX0_take_38, hP.2.1, if_pos (Int32.le_refl _), hP.1, nI_1]
      rfl
    · obtain ⟨p1, p2, p3, p4⟩ := hP
      refine ⟨by simp [s2_at], by simp [s2_at]; exact p2, fun p hp => ?_, fun o p ho hp => ?_⟩
      · simp only [s2_at, Prod.mk.injEq, show ((7 : Nat) = 2) = False by decide, show ((8 : Nat) = 2) = False by decide, and_false, false_and, if_false]
        by_cases c : p = k
        · rw [c]; exact h7
        · exact p3 p (by omega)
      · simp only [s2_at, Prod.mk.injEq, show ((4 : Nat) = 0) = False by decide, false_and, if_false]
        by_cases c : p = k
        · rw [c]; exact h4 o ho
        · exact p4 o p ho (by omega)
  | succ d ih =>
    intro y fuel U hy hf hA hP h7 h4
    obtain ⟨f, rfl⟩ : ∃ f, fuel = f + 1 := ⟨fuel - 1, by omega⟩
    have hU := hS.ag hA
    have m2 : 2 * nI y = nI (2 * y) := by rw [show (2 : Int32) = nI 2 from rfl, nI_mul]
    have s0 := cSaved (F := F) (o := 2 * y) hU hi (by omega)
    rw [show 2 * y / 2 = y by omega, if_pos (show 2 * y % 2 = 0 by omega)] at s0
    have hA1 : Ag scr S (s2 U (4, 2 * y) k (svF sd i (2 * y))) := hA.tr (Ag.put (scr_4 _ _))
    have s1 := cSaved (F := F) (o := 2 * y + 1) (hS.ag hA1) hi (by omega)
    rw [show (2 * y + 1) / 2 = y by omega, if_neg (show ¬ (2 * y + 1) % 2 = 0 by omega)] at s1
    have hA2 : Ag scr S (s2 (s2 U (4, 2 * y) k (svF sd i (2 * y))) (4, 2 * y + 1) k (svF sd i (2 * y + 1))) := hA1.tr (Ag.put (scr_4 _ _))
    obtain ⟨p1, p2, p3, p4⟩ := hP
    obtain ⟨U', e, g1, g2⟩ := ih (y + 1) f _ (by omega) (by omega) hA2 ⟨by simp [s2_at]; exact p1, by simp [s2_at]; exact p2, fun p hp => by simp [s2_at]; exact p3 p hp, fun o p ho hp => by
      rw [s2_at, if_neg (fun z => by have := z.2; omega), s2_at, if_neg (fun z => by have := z.2; omega)]; exact p4 o p ho hp⟩ (by simp [s2_at]; exact h7) (fun o ho => by
      rw [s2_at, s2_at]
      by_cases c : o = 2 * y + 1
      · rw [if_pos ⟨by rw [c], rfl⟩, c, hv _ (by omega)]
      · rw [if_neg (fun z => c (by have := z.1; simp at this; exact this))]
        by_cases c2 : o = 2 * y
        · rw [if_pos ⟨by rw [c2], rfl⟩, c2, hv _ (by omega)]
        · rw [if_neg (fun z => c2 (by have := z.1; simp at this; exact this))]
          exact h4 o (by omega))
    refine ⟨U', ?_, g1, g2⟩
    have c0 : (s2 U (4, 2 * y) k (svF sd i (2 * y))).1 (0, 2) 0 = nI k := by simp [s2_at]; exact p1
    rw [hX0_take_38, p2, if_neg (nle_nI (show y < Y by omega) (by omega)), m2, nI_1, rget5 (show 2 * y < 6 by omega)]
    simp only [Option.bind_some, alv1 hU hi, gd, if_true, s0, p1, al4 U.2.2 (show 2 * y < 6 by omega), inb_nI hk (by decide), cl_nI (show k < 2 ^ 31 by omega), stp]
    rw [rget5 (show 2 * y + 1 < 6 by omega)]
    simp only [Option.bind_some, s2_2, alv1 hU hi, if_true, s1, c0, al4 U.2.2 (show 2 * y + 1 < 6 by omega), inb_nI hk (by decide), cl_nI (show k < 2 ^ 31 by omega), ltt, nI_1]
    exact e
theorem cTake {F n i k Y : Nat} {yr : Int32} {sd : Nat → Nat → Int32} {lh nh : Nat → Int32} {sv : Nat → Nat → Int32} {S U : vs} (hS : RS n yr sd S) (hi : i < n) (hk : k < 6) (hY : Y ≤ 3) (hl : lh k = sd i 4) (hn : nh k = sd i 5) (hv : ∀ o, o < 2 * Y → sv o k = svF sd i o) (hF : 100 ≤ F) (hA : Ag scr S U) (hP : PD k Y lh nh sv U) : ∃ U', fX0_take F i U = some U' ∧ Ag scr S U' ∧ PD (k + 1) Y lh nh sv U' := by
  have hU := hS.ag hA
  have hA2 : Ag scr S (s2 (s2 U (0, 7) k (sd i 4)) (0, 8) k (sd i 5)) := (hA.tr (Ag.put (scr_7 _ _ (by decide)))).tr (Ag.put (scr_7 _ _ (by decide)))
  obtain ⟨p1, p2, p3, p4⟩ := hP
  obtain ⟨U', e, g1, g2⟩ := ct38 (F := F) (yr := yr) hS hi hk hY hl hn hv Y 0 F _ (by omega) (by omega) hA2 ⟨by simp [s2_at]; exact p1, by simp [s2_at]; exact p2, fun p hp => by
    have : ¬ p = k := by omega
    simp [s2_at, this]; exact p3 p hp, fun o p ho hp => by simp [s2_at]; exact p4 o p ho hp⟩ (by simp [s2_at, hl, hn]) (fun o ho => by omega)
  refine ⟨U', ?_, g1, g2⟩
  have c0 : (s2 U (0, 7) k (sd i 4)).1 (0, 2) 0 = nI k := by simp [s2_at]; exact p1
  have c5 : (s2 U (0, 7) k (sd i 4)).1 (1, i) 5 = sd i 5 := by simp [s2_at]; exact hU.2.2.2.2 i 5 hi (by decide)
  unfold fX0_take
  rw [p1, if_pos (show nI k < 6 from nI_lt hk (by decide)), hU.2.2.2.2 i 4 hi (by decide)]
  simp only [alv1 hU hi, gd, if_true, al7, inb_nI hk (by decide), cl_nI (show k < 2 ^ 31 by omega), stp, s2_2, c0, c5, al8]
  rw [nI_0] at e
  exact e
def lhM (sd : Nat → Nat → Int32) (s p : Nat) : Int32 := sd (mm s 16 p) 4
def nhM (sd : Nat → Nat → Int32) (s p : Nat) : Int32 := sd (mm s 16 p) 5
def svM (sd : Nat → Nat → Int32) (s o p : Nat) : Int32 := svF sd (mm s 16 p) o
theorem PB_M {n s Y : Nat} {yr : Int32} {sd : Nat → Nat → Int32} (oS : OkS n yr sd) (h6 : pcs s n ≤ 6) (hY : 1 ≤ Y ∧ Y ≤ 3) : PB (pcs s n) Y (lhM sd s) (nhM sd s) (svM sd s) := by
  refine ⟨h6, hY, fun p hp => ?_⟩
  have hi := (mm_is oS.1 hp).1
  obtain ⟨-, -, -, -, h4, h5, -⟩ := oS.2.2.1 _ hi
  exact ⟨h4, h5, fun o => svF_b oS hi⟩
theorem cti {F n s Y : Nat} {yr : Int32} {sd : Nat → Nat → Int32} {S : vs} (oS : OkS n yr sd) (hS : RS n yr sd S) (h6 : pcs s n ≤ 6) (hY : Y ≤ 3) (hF : 100 ≤ F) : ∀ (d i fuel : Nat) (U : vs), i + d = n → d < fuel → Ag scr S U → PD (pcs s i) Y (lhM sd s) (nhM sd s) (svM sd s) U → ∃ U', hX7_takeIntoPlan_10 F (nI s) fuel (nI i) U = some U' ∧ Ag scr S U' ∧ PD (pcs s n) Y (lhM sd s) (nhM sd s) (svM sd s) U' := by
  have hn := oS.1
  intro d
  induction d with
  | zero =>
    intro i fuel U hi hf hA hP
    obtain ⟨f, rfl⟩ : ∃ f, fuel = f + 1 := ⟨fuel - 1, by omega⟩
    have : i = n := by omega
    subst this
    exact ⟨U, by rw [hX7_takeIntoPlan_10, (hS.ag hA).2.1, if_pos (Int32.le_refl _)], hA, hP⟩
  | succ d ih =>
    intro i fuel U hi hf hA hP
    obtain ⟨f, rfl⟩ : ∃ f, fuel = f + 1 := ⟨fuel - 1, by omega⟩
    have hin : i < n := by omega
    have hU := hS.ag hA
    rw [hX7_takeIntoPlan_10, hU.2.1, if_neg (nle_nI hin (by omega))]
    simp only [fX7_holds, and_bit (show i < 32 by omega), tb_nI s (show i < 32 by omega), jX7_takeIntoPlan_39, ltt, nI_1]
    by_cases c : s.testBit i = true
    · have lt := pcs_lt s hin c
      have em : mm s 16 (pcs s i) = i := mm_eq c 16 (by omega)
      obtain ⟨U1, e1, g1, p1⟩ := cTake (F := F) (yr := yr) hS hin (show pcs s i < 6 by omega) hY (by unfold lhM; rw [em]) (by unfold nhM; rw [em]) (fun o ho => by unfold svM; rw [em]) hF hA hP
      obtain ⟨U', e, g2, p2⟩ := ih (i + 1) f U1 (by omega) (by omega) g1 (by rw [pcs, if_pos c]; exact p1)
      refine ⟨U', ?_, g2, p2⟩
      rw [c, rg2 hU hn hin]
      simp only [Bool.true_eq_false, if_false, Option.bind_some, show ((1 : Int32) = 0) = False by decide, e1]
      exact e
    · obtain ⟨U', e, g2, p2⟩ := ih (i + 1) f U (by omega) (by omega) hA (by rw [pcs, if_neg c]; exact hP)
      refine ⟨U', ?_, g2, p2⟩
      rw [Bool.eq_false_iff.mpr c]
      simp only [if_true, Option.bind_some]
      exact e
theorem cInto {F n s Y : Nat} {yr : Int32} {sd : Nat → Nat → Int32} {S : vs} (oS : OkS n yr sd) (hS : RS n yr sd S) (h6 : pcs s n ≤ 6) (hY : Y ≤ 3) (hF : 100 ≤ F) : ∃ U', fX7_takeIntoPlan F (nI s) (nI Y) S = some U' ∧ Ag scr S U' ∧ PD (pcs s n) Y (lhM sd s) (nhM sd s) (svM sd s) U' := by
  have hn := oS.1
  have nl : ¬ (3 : Int32) < nI Y := by
    rw [show (3 : Int32) = nI 3 from rfl, nI_ltI (by decide) (by omega)]
    omega
  obtain ⟨U', e, g, p⟩ := cti (F := F) (Y := Y) oS hS h6 hY hF n 0 F (s2 (s2 S (0, 2) 0 0) (0, 2) 1 (nI Y)) (by omega) (by omega) ((Ag.put (scr_2 _)).tr (Ag.put (scr_2 _))) ⟨by simp [s2_at]; rfl, by simp [s2_at], fun p hp => by simp [pcs] at hp, fun o p ho hp => by simp [pcs] at hp⟩
  refine ⟨U', ?_, g, p⟩
  unfold fX7_takeIntoPlan fX0_begin
  simp only [stp, if_neg nl, Option.bind_some]
  rw [nI_0] at e
  exact e
theorem cWith {F m Y : Nat} {lh nh : Nat → Int32} {sv : Nat → Nat → Int32} {S : vs} {H : Int32} (hB : PB m Y lh nh sv) (hD : PD m Y lh nh sv S) (hF : 100 ≤ F) (hH : 0 ≤ H.toInt) : ∃ r U', fX0_mostWith F H S = some (r, U') ∧ Ag WK S U' ∧ (∀ y, y < 3 → U'.1 (0, 10) y = H) ∧ mxF (fun i => (lh i).toInt) (fun i => (nh i).toInt) (fun o i => (sv o i).toInt) m Y (fun _ => H.toInt) r.toInt := by
  obtain ⟨U1, e1, g1, t1⟩ := cFill (F := F) (a0 := (0, 10)) (x1 := H) al10 (by decide) (by decide) S hF
  have ag1 : Ag WK S U1 := g1.mono (fun k j q => by rw [q]; exact ⟨rfl, by decide, by decide⟩)
  have hY := hB.2.1
  obtain ⟨r, U2, e2, g2, x2⟩ := cMost (F := F) (first := 0) (cap := fun _ => H.toInt) hB (hD.ag ag1) (by omega) hF (fun y hy => ⟨by rw [t1 y (by omega)], hH⟩)
  refine ⟨r, U2, ?_, ag1.tr g2.pw, fun y hy => ?_, ?_⟩
  · unfold fX0_mostWith
    rw [nI_0] at e2
    simp only [e1, e2, Option.bind_some]
  · rw [g2.1 _ _ (by unfold PK; simp), t1 y hy]
  · simp only [Nat.zero_add, Nat.sub_zero] at x2
    exact x2
theorem WK_scr {S S' : vs} (h : Ag WK S S') : Ag scr S S' := h.mono (fun k j q => by
  obtain ⟨a, b⟩ := k
  have q1 : a = 0 := q.1
  subst q1
  exact scr_7 b j ⟨by have : 10 ≤ b := q.2.1; omega, q.2.2⟩)
