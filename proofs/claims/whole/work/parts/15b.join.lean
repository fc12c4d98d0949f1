/-! the puzzle's tables are what they should be -/
def TM (g : Nat) (tol : Int32) (pp : Nat → Nat → Int32) (U : vs) (R a : Nat) : Prop := ∀ R' a', a' < g → (R' < R ∨ (R' = R ∧ a' < a)) → U.1 (0, 49) (7 * R' + a') = LL g tol pp R' a' g ∧ U.1 (0, 50) (7 * R' + a') = WL g tol pp R' a' g
theorem ap_ok {g a b : Nat} {tol : Int32} {pp : Nat → Nat → Int32} (h : gp pp a b ≤ tol) : (if gp pp a b ≤ tol then gp pp a b else (1000000 : Int32)) = gp pp a b := if_pos h
theorem mj47 {F g R a : Nat} {tol : Int32} {pp : Nat → Nat → Int32} {U : vs} {k2 k14 : Int32 → vs → Option vs} (o : OkP g tol pp) (h : MP g tol pp U) (hR : R < 2 ^ g) (ha : a < g) (hT : TM g tol pp U R a) : ∀ (d b fuel : Nat), b + d = g → d < fuel → hX8_join_47 k2 k14 F (nI R) (nI a) fuel (LL g tol pp R a b) (WL g tol pp R a b) (nI b) U = k14 (nI (a + 1)) (s2 (s2 U (0, 49) (7 * R + a) (LL g tol pp R a g)) (0, 50) (7 * R + a) (WL g tol pp R a g)) := by
  have hg := o.1
  have R128 : R < 128 := by have := two7 hg; omega
  intro d
  induction d with
  | zero =>
    intro b fuel hb hf
    obtain ⟨f, rfl⟩ : ∃ f, fuel = f + 1 := ⟨fuel - 1, by omega⟩
    have : b = g := by omega
    subst this
    rw [hX8_join_47, h.2.1, if_pos (Int32.le_refl _), cell2]
    simp only [al49, al50, inb_nI (show 7 * R + a < 896 by omega) (by decide), cl_nI (show 7 * R + a < 2 ^ 31 by omega), gd, if_true, stp, ltt, nI_1]
  | succ d ih =>
    intro b fuel hb hf
    obtain ⟨f, rfl⟩ : ∃ f, fuel = f + 1 := ⟨fuel - 1, by omega⟩
    have hbg : b < g := by omega
    have nx := ih (b + 1) f (by omega) (by omega)
    rw [hX8_join_47, h.2.1, if_neg (nle_nI hbg (by omega))]
    simp only [shr_1 (show b < 32 by omega), tb_nI R (show b < 32 by omega), map o h ha hbg, Option.bind_some, far_ap o ha hbg, bit_nI (show b < 16 by omega), fb_xorI, cell2, ltt, al49, al50, gd, jX8_join_143, jX8_join_142, nI_1]
    rw [← nx, WL_s R128 (by omega), LL_s R128 (by omega)]
    by_cases c1 : R.testBit b = true
    · rw [if_pos c1]
      by_cases c2 : gp pp a b ≤ tol
      · have lt := flp_lt R128 (by omega) c1
        have q := hT (R ^^^ 2 ^ b) b hbg (Or.inl lt)
        rw [if_neg (fun z => z c2), inb_nI (show 7 * (R ^^^ 2 ^ b) + b < 896 by omega) (by decide), if_pos (show true = true from rfl), if_pos (show true = true from rfl), cl_nI (show 7 * (R ^^^ 2 ^ b) + b < 2 ^ 31 by omega), q.1, q.2, if_pos c2, if_pos (show R.testBit b = true ∧ gp pp a b ≤ tol from ⟨c1, c2⟩), if_pos (show R.testBit b = true ∧ gp pp a b ≤ tol from ⟨c1, c2⟩)]
        split <;> rfl
      · rw [if_pos c2, if_neg (fun z => c2 z.2), if_neg (fun z => c2 z.2)]
    · rw [if_neg c1, if_neg (fun z => c1 z.1), if_neg (fun z => c1 z.1)]
theorem TM_put {g R a : Nat} {tol : Int32} {pp : Nat → Nat → Int32} {U : vs} (hg : g ≤ 7) (ha : a < g) (hT : TM g tol pp U R a) : TM g tol pp (s2 (s2 U (0, 49) (7 * R + a) (LL g tol pp R a g)) (0, 50) (7 * R + a) (WL g tol pp R a g)) R (a + 1) := by
  intro R' a' h1 h2
  by_cases e : R' = R ∧ a' = a
  · obtain ⟨rfl, rfl⟩ := e
    simp [s2_at]
  · have ne : ¬ 7 * R' + a' = 7 * R + a := fun z => e (by omega)
    have := hT R' a' h1 (by omega)
    simp [s2_at, ne, this]
theorem scr_49 (j : Nat) : scr (0, 49) j := by unfold scr; simp
theorem scr_50 (j : Nat) : scr (0, 50) j := by unfold scr; simp
theorem scr_20 (j : Nat) : scr (0, 20) j := by unfold scr; simp
theorem scr_21 (j : Nat) : scr (0, 21) j := by unfold scr; simp
theorem mj14 {F g R : Nat} {tol : Int32} {pp : Nat → Nat → Int32} {k2 : Int32 → vs → Option vs} (o : OkP g tol pp) (hF : 100 ≤ F) (hR : R < 2 ^ g) : ∀ (d a fuel : Nat) (U : vs), a + d = g → d < fuel → MP g tol pp U → TM g tol pp U R a → ∃ U', hX8_join_14 k2 F (nI R) fuel (nI a) U = k2 (nI (R + 1)) U' ∧ Ag scr U U' ∧ TM g tol pp U' (R + 1) 0 := by
  have hg := o.1
  intro d
  induction d with
  | zero =>
    intro a fuel U ha hf h hT
    obtain ⟨f, rfl⟩ : ∃ f, fuel = f + 1 := ⟨fuel - 1, by omega⟩
    have : a = g := by omega
    subst this
    refine ⟨U, ?_, Ag.rf U, fun R' a' h1 h2 => hT R' a' h1 (by omega)⟩
    rw [hX8_join_14, h.2.1, if_pos (Int32.le_refl _)]
    simp only [ltt, nI_1]
  | succ d ih =>
    intro a fuel U ha hf h hT
    obtain ⟨f, rfl⟩ : ∃ f, fuel = f + 1 := ⟨fuel - 1, by omega⟩
    have hag : a < g := by omega
    have ag : Ag scr U (s2 (s2 U (0, 49) (7 * R + a) (LL g tol pp R a g)) (0, 50) (7 * R + a) (WL g tol pp R a g)) := (Ag.put (scr_49 _)).tr (Ag.put (scr_50 _))
    obtain ⟨U', e, g1, g2⟩ := ih (a + 1) f _ (by omega) (by omega) (h.ag ag) (TM_put hg hag hT)
    refine ⟨U', ?_, ag.tr g1, g2⟩
    have q := mj47 (F := F) (k2 := k2) (k14 := hX8_join_14 k2 F (nI R) f) o h hR hag hT g 0 F (by omega) (by omega)
    rw [nI_0] at q
    rw [hX8_join_14, h.2.1, if_neg (nle_nI hag (by omega)), ← e, ← q, LL_0, WL_0]
    simp only [jX8_join_32, jX8_join_42]
    have e0 : nI R = 0 ↔ R = 0 := nI_eq (a := R) (b := 0) (by have := two7 hg; omega) (by decide)
    by_cases c : R = 0
    · rw [if_pos (e0.mpr c), if_pos (e0.mpr c), if_pos c, if_pos c]
    · rw [if_neg (fun z => c (e0.mp z)), if_neg (fun z => c (e0.mp z)), if_neg c, if_neg c]
theorem mj2 {F g : Nat} {tol : Int32} {pp : Nat → Nat → Int32} (o : OkP g tol pp) (hF : 100 ≤ F) : ∀ (d R fuel : Nat) (U : vs), R + d = 2 ^ g → d < fuel → MP g tol pp U → TM g tol pp U R 0 → ∃ U', hX8_join_2 F fuel (nI R) U = some U' ∧ Ag scr U U' ∧ TM g tol pp U' (2 ^ g) 0 := by
  have hg := o.1
  have h7 := two7 hg
  intro d
  induction d with
  | zero =>
    intro R fuel U hR hf h hT
    obtain ⟨f, rfl⟩ : ∃ f, fuel = f + 1 := ⟨fuel - 1, by omega⟩
    have : R = 2 ^ g := by omega
    subst this
    refine ⟨U, ?_, Ag.rf U, hT⟩
    rw [hX8_join_2, h.2.1, bit_nI (by omega), if_pos (Int32.le_refl _)]
  | succ d ih =>
    intro R fuel U hR hf h hT
    obtain ⟨f, rfl⟩ : ∃ f, fuel = f + 1 := ⟨fuel - 1, by omega⟩
    obtain ⟨U', e, g1, g2⟩ := mj14 (F := F) (k2 := hX8_join_2 F f) o hF (show R < 2 ^ g by omega) g 0 F U (by omega) (by omega) h hT
    obtain ⟨U'', e', g1', g2'⟩ := ih (R + 1) f U' (by omega) (by omega) (h.ag g1) g2
    refine ⟨U'', ?_, g1.tr g1', g2'⟩
    rw [nI_0] at e
    rw [hX8_join_2, h.2.1, bit_nI (by omega), if_neg (nle_nI (show R < 2 ^ g by omega) (by omega)), e, e']
theorem mJoin {F g : Nat} {tol : Int32} {pp : Nat → Nat → Int32} {U : vs} (o : OkP g tol pp) (h : MP g tol pp U) (hF : 200 ≤ F) : ∃ U', fX8_join F U = some U' ∧ Ag scr U U' ∧ TM g tol pp U' (2 ^ g) 0 := by
  have h7 := two7 o.1
  exact mj2 o (by omega) (2 ^ g) 0 F U (by omega) (by omega) h (fun R' a' _ z => by omega)
-- the class
def TC (g : Nat) (tol : Int32) (pp : Nat → Nat → Int32) (U : vs) (r a : Nat) : Prop := ∀ r' a', a' < g → r' < 2 ^ g → r'.testBit a' = false → (r' < r ∨ (r' = r ∧ a' < a)) → U.1 (0, 20) (7 * (2 ^ g - 1 - r') + a') = WL g tol pp r' a' g ∧ U.1 (0, 21) (7 * (2 ^ g - 1 - r') + a') = nn (LL g tol pp r' a' g)
theorem cHolds {F g r p : Nat} {S : vs} (hg : g ≤ 7) (hr : r < 2 ^ g) (hp : p < g) : fX7_holds F (nI (2 ^ g - 1 - r)) (nI p) S = some (b01 (!r.testBit p)) := by
  unfold fX7_holds
  simp only [and_bit (show p < 32 by omega), tb_nI _ (show p < 32 by omega), all_bit hg hr hp]
  cases r.testBit p <;> rfl
theorem cCan {F g r a p : Nat} {tol : Int32} {pp : Nat → Nat → Int32} {S : vs} (o : OkP g tol pp) (h : RP g tol pp S) (hr : r < 2 ^ g) (ha : a < g) (hp : p < g) : fX1_canFollow F (nI (2 ^ g - 1 - r)) (nI a) (nI p) S = some (b01 (r.testBit p && decide (gp pp a p ≤ tol))) := by
  unfold fX1_canFollow
  simp only [cHolds o.1 hr hp, Option.bind_some, b01_ite, cgap o h ha hp, h.1]
  cases r.testBit p
  · rfl
  · simp only [Bool.not_true, Bool.false_eq_true, if_false, Bool.true_and]
    by_cases c : gp pp a p ≤ tol
    · rw [if_neg (fun z => by rw [fa_lt] at z; rw [fa_le] at c; omega), decide_eq_true c]; rfl
    · rw [if_pos (by rw [fa_lt]; rw [fa_le] at c; omega), decide_eq_false c]; rfl
theorem cw26 {F g r a : Nat} {tol : Int32} {pp : Nat → Nat → Int32} {U : vs} (o : OkP g tol pp) (h : RP g tol pp U) (hr : r < 2 ^ g) (ha : a < g) (hT : TC g tol pp U r a) : ∀ (d p fuel : Nat), p + d = g → d < fuel → hX1_weigh_26 F (nI (2 ^ g - 1 - r)) (nI a) fuel (WL g tol pp r a p) (nn (LL g tol pp r a p)) (nI p) U = some (s2 (s2 U (0, 20) (7 * (2 ^ g - 1 - r) + a) (WL g tol pp r a g)) (0, 21) (7 * (2 ^ g - 1 - r) + a) (nn (LL g tol pp r a g))) := by
  have hg := o.1
  have h7 := two7 hg
  have r128 : r < 128 := by omega
  intro d
  induction d with
  | zero =>
    intro p fuel hp hf
    obtain ⟨f, rfl⟩ : ∃ f, fuel = f + 1 := ⟨fuel - 1, by omega⟩
    have : p = g := by omega
    subst this
    rw [hX1_weigh_26, h.2.1, if_pos (Int32.le_refl _)]
    simp only [fX1_cell, cell1, Option.bind_some, al20, al21, inb_nI (show 7 * (2 ^ p - 1 - r) + a < 896 by omega) (by decide), cl_nI (show 7 * (2 ^ p - 1 - r) + a < 2 ^ 31 by omega), gd, if_true, stp]
  | succ d ih =>
    intro p fuel hp hf
    obtain ⟨f, rfl⟩ : ∃ f, fuel = f + 1 := ⟨fuel - 1, by omega⟩
    have hpg : p < g := by omega
    have nx := ih (p + 1) f (by omega) (by omega)
    rw [hX1_weigh_26, h.2.1, if_neg (nle_nI hpg (by omega))]
    simp only [cCan o h hr ha hpg, Option.bind_some, b01_ite, bit_nI (show p < 16 by omega), fa_or, fX1_cell, cell1, ltt, al20, al21, gd, jX1_weigh_130, jX1_weigh_113, nI_1, cgap o h ha hpg]
    rw [← nx, WL_s r128 (by omega), LL_s r128 (by omega)]
    by_cases c : r.testBit p = true ∧ gp pp a p ≤ tol
    · obtain ⟨c1, c2⟩ := c
      have lt := flp_lt r128 (by omega) c1
      have q := hT (r ^^^ 2 ^ p) p hpg (by omega) (by rw [fb_bit_flip, c1]; simp) (Or.inl lt)
      rw [if_pos (by rw [c1, decide_eq_true c2]; rfl), all_or hg hr hpg c1, inb_nI (show 7 * (2 ^ g - 1 - (r ^^^ 2 ^ p)) + p < 896 by omega) (by decide), if_pos (show true = true from rfl), if_pos (show true = true from rfl), cl_nI (show 7 * (2 ^ g - 1 - (r ^^^ 2 ^ p)) + p < 2 ^ 31 by omega), q.1, q.2, if_pos (show r.testBit p = true ∧ gp pp a p ≤ tol from ⟨c1, c2⟩), if_pos (show r.testBit p = true ∧ gp pp a p ≤ tol from ⟨c1, c2⟩)]
      have b1 := LL_bd o (R := r ^^^ 2 ^ p) (k := g) (a := p) (by omega) hpg (Nat.le_refl _)
      have b2 := LL_bd o (R := r) (k := p) (a := a) r128 ha (by omega)
      have gb := gp_b o ha hpg
      generalize LL g tol pp (r ^^^ 2 ^ p) p g = x at b1 ⊢
      generalize LL g tol pp r a p = y at b2 ⊢
      have e : (gp pp a p + x).toInt = (gp pp a p).toInt + x.toInt := fb_addI (by omega) (by omega)
      by_cases c3 : x.toInt = 1000000
      · rw [if_pos ((nn_9 b1.1).mpr c3), if_pos (by rw [fa_le, e]; omega)]
      · rw [if_neg (fun z => c3 ((nn_9 b1.1).mp z)), nn_s c3]
        by_cases c4 : y.toInt = 1000000
        · rw [if_pos ((nn_9 b2.1).mpr c4), if_pos (show true = true from rfl), if_neg (show ¬ y ≤ gp pp a p + x by rw [fa_le, e]; omega), nn_s (by rw [e]; omega)]
        · rw [if_neg (fun z => c4 ((nn_9 b2.1).mp z)), nn_s c4]
          by_cases c5 : y ≤ gp pp a p + x
          · rw [if_pos c5, if_pos c5, nn_s c4]
          · rw [if_neg c5, if_neg c5, if_pos (show true = true from rfl), nn_s (by rw [e]; omega)]
    · rw [if_neg (fun z => c (by simpa using z)), if_neg c, if_neg c]
theorem cWeigh {F g r a : Nat} {tol : Int32} {pp : Nat → Nat → Int32} {U : vs} (o : OkP g tol pp) (h : RP g tol pp U) (hr : r < 2 ^ g) (ha : a < g) (hT : TC g tol pp U r a) (hF : 100 ≤ F) : fX1_weigh F (nI (2 ^ g - 1 - r)) (nI a) (if r = 0 then 1 else 0) U = some (s2 (s2 U (0, 20) (7 * (2 ^ g - 1 - r) + a) (WL g tol pp r a g)) (0, 21) (7 * (2 ^ g - 1 - r) + a) (nn (LL g tol pp r a g))) := by
  have q := cw26 (F := F) o h hr ha hT g 0 F (by omega) (by have := o.1; omega)
  rw [← q, WL_0, LL_0, nI_0]
  unfold fX1_weigh jX1_weigh_9 jX1_weigh_21
  by_cases c : r = 0
  · simp only [c, if_true, show ((1 : Int32) = 0) = False by decide, if_false]; rfl
  · simp only [c, if_false, if_true]; rfl
theorem TC_put {g r a : Nat} {tol : Int32} {pp : Nat → Nat → Int32} {U : vs} (hg : g ≤ 7) (hr : r < 2 ^ g) (ha : a < g) (hT : TC g tol pp U r a) : TC g tol pp (s2 (s2 U (0, 20) (7 * (2 ^ g - 1 - r) + a) (WL g tol pp r a g)) (0, 21) (7 * (2 ^ g - 1 - r) + a) (nn (LL g tol pp r a g))) r (a + 1) := by
  intro r' a' h1 h2 h3 h4
  by_cases e : r' = r ∧ a' = a
  · obtain ⟨rfl, rfl⟩ := e
    simp [s2_at]
  · have ne : ¬ 7 * (2 ^ g - 1 - r') + a' = 7 * (2 ^ g - 1 - r) + a := fun z => e (by omega)
    have := hT r' a' h1 h2 h3 (by omega)
    simp [s2_at, ne, this]
theorem nI_m1' (a : Nat) : nI (a + 1) + (-1) = nI a := by rw [← nI_pred a, Int32.sub_eq_add_neg]
theorem cw17 {F g r : Nat} {tol : Int32} {pp : Nat → Nat → Int32} {k11 : Int32 → vs → Option vs} (o : OkP g tol pp) (hF : 100 ≤ F) (hr : r + 1 < 2 ^ g) : ∀ (d a fuel : Nat) (U : vs), a + d = g → d < fuel → RP g tol pp U → TC g tol pp U r a → ∃ U', hX1_weighAll_17 k11 F (nI (2 ^ g - 1)) (nI (2 ^ g - 1 - r)) fuel (nI a) U = k11 (nI (2 ^ g - 1 - (r + 1))) U' ∧ Ag scr U U' ∧ TC g tol pp U' (r + 1) 0 := by
  have hg := o.1
  have h7 := two7 hg
  intro d
  induction d with
  | zero =>
    intro a fuel U ha hf h hT
    obtain ⟨f, rfl⟩ : ∃ f, fuel = f + 1 := ⟨fuel - 1, by omega⟩
    have : a = g := by omega
    subst this
    refine ⟨U, ?_, Ag.rf U, fun r' a' h1 h2 h3 h4 => hT r' a' h1 h2 h3 (by omega)⟩
    rw [hX1_weighAll_17, h.2.1, if_pos (Int32.le_refl _), show 2 ^ a - 1 - r = (2 ^ a - 1 - (r + 1)) + 1 by omega, nI_m1']
    rfl
  | succ d ih =>
    intro a fuel U ha hf h hT
    obtain ⟨f, rfl⟩ : ∃ f, fuel = f + 1 := ⟨fuel - 1, by omega⟩
    have hag : a < g := by omega
    by_cases c : r.testBit a = true
    · obtain ⟨U', e, g1, g2⟩ := ih (a + 1) f U (by omega) (by omega) h (fun r' a' h1 h2 h3 h4 => by
        by_cases z : r' = r ∧ a' = a
        · obtain ⟨rfl, rfl⟩ := z; rw [c] at h3; exact absurd h3 (by decide)
        · exact hT r' a' h1 h2 h3 (by omega))
      refine ⟨U', ?_, g1, g2⟩
      rw [hX1_weighAll_17, h.2.1, if_neg (nle_nI hag (by omega)), cHolds hg (by omega) hag, c]
      simp only [Option.bind_some, b01_ite, Bool.not_true, Bool.false_eq_true, if_false, jX1_weighAll_49, ltt, nI_1]
      exact e
    · have ag : Ag scr U (s2 (s2 U (0, 20) (7 * (2 ^ g - 1 - r) + a) (WL g tol pp r a g)) (0, 21) (7 * (2 ^ g - 1 - r) + a) (nn (LL g tol pp r a g))) := (Ag.put (scr_20 _)).tr (Ag.put (scr_21 _))
      obtain ⟨U', e, g1, g2⟩ := ih (a + 1) f _ (by omega) (by omega) (h.ag ag) (TC_put hg (by omega) hag hT)
      refine ⟨U', ?_, ag.tr g1, g2⟩
      have q := cWeigh (F := F) o h (show r < 2 ^ g by omega) hag hT hF
      have e0 : nI (2 ^ g - 1 - r) = nI (2 ^ g - 1) ↔ r = 0 := by
        rw [nI_eq (by omega) (by omega)]
        omega
      rw [hX1_weighAll_17, h.2.1, if_neg (nle_nI hag (by omega)), cHolds hg (by omega) hag, Bool.eq_false_iff.mpr c]
      simp only [Option.bind_some, b01_ite, Bool.not_false, if_true, jX1_weighAll_49, jX1_weighAll_46, ltt, nI_1]
      by_cases c0 : r = 0
      · rw [if_pos (e0.mpr c0)]
        rw [if_pos c0] at q
        rw [q]
        exact e
      · rw [if_neg (fun z => c0 (e0.mp z))]
        rw [if_neg c0] at q
        rw [q]
        exact e
theorem cw11 {F g : Nat} {tol : Int32} {pp : Nat → Nat → Int32} (o : OkP g tol pp) (hF : 100 ≤ F) : ∀ (d r fuel : Nat) (U : vs), r + d = 2 ^ g - 1 → d < fuel → RP g tol pp U → TC g tol pp U r 0 → ∃ U', hX1_weighAll_11 F (nI (2 ^ g - 1)) fuel (nI (2 ^ g - 1 - r)) U = some U' ∧ Ag scr U U' ∧ TC g tol pp U' (2 ^ g - 1) 0 := by
  have hg := o.1
  have h7 := two7 hg
  intro d
  induction d with
  | zero =>
    intro r fuel U hr hf h hT
    obtain ⟨f, rfl⟩ : ∃ f, fuel = f + 1 := ⟨fuel - 1, by omega⟩
    have : r = 2 ^ g - 1 := by omega
    subst this
    refine ⟨U, ?_, Ag.rf U, hT⟩
    rw [hX1_weighAll_11, Nat.sub_self, if_pos (show nI 0 ≤ 0 from Int32.le_refl _)]
  | succ d ih =>
    intro r fuel U hr hf h hT
    obtain ⟨f, rfl⟩ : ∃ f, fuel = f + 1 := ⟨fuel - 1, by omega⟩
    obtain ⟨U', e, g1, g2⟩ := cw17 (F := F) (k11 := hX1_weighAll_11 F (nI (2 ^ g - 1)) f) o hF (show r + 1 < 2 ^ g by omega) g 0 F U (by omega) (by omega) h hT
    obtain ⟨U'', e', g1', g2'⟩ := ih (r + 1) f U' (by omega) (by omega) (h.ag g1) g2
    refine ⟨U'', ?_, g1.tr g1', g2'⟩
    rw [nI_0] at e
    rw [hX1_weighAll_11, if_neg (show ¬ nI (2 ^ g - 1 - r) ≤ 0 from nI_nle (by omega) (by omega)), e, e']
theorem cAll {F g : Nat} {tol : Int32} {pp : Nat → Nat → Int32} {U : vs} (o : OkP g tol pp) (h : RP g tol pp U) (hF : 200 ≤ F) : ∃ U', fX1_weighAll F U = some U' ∧ Ag scr U U' ∧ TC g tol pp U' (2 ^ g - 1) 0 := by
  have hg := o.1
  have h7 := two7 o.1
  have q := cw11 (F := F) o (by omega) (2 ^ g - 1) 0 F U (by omega) (by omega) h (fun r' a' _ _ _ z => by omega)
  unfold fX1_weighAll
  rw [h.2.1, bit_nI (by omega), show nI (2 ^ g) - 1 = nI (2 ^ g - 1) by rw [show 2 ^ g = (2 ^ g - 1) + 1 by omega, nI_pred]; simp]
  exact q
