/-! rows, misfit, inRow -/
def ot (g p : Nat) : Nat := 2 ^ g - 1 - 2 ^ p
theorem cell_c {g p : Nat} {tol : Int32} {pp : Nat → Nat → Int32} {U : vs} (hg : g ≤ 7) (hp : p < g) (h : TC g tol pp U (2 ^ g - 1) 0) : U.1 (0, 20) (7 * 2 ^ p + p) = WL g tol pp (ot g p) p g ∧ U.1 (0, 21) (7 * 2 ^ p + p) = nn (LL g tol pp (ot g p) p g) := by
  obtain ⟨h1, h2, h3, h4⟩ := all_one hg hp
  have p1 : 1 ≤ 2 ^ p := Nat.one_le_two_pow
  have p2 : 2 ^ p < 2 ^ g := Nat.pow_lt_pow_right (by decide) hp
  have := h (ot g p) p hp h2 h4 (Or.inl (by unfold ot; omega))
  unfold ot at this
  rw [h3] at this
  exact this
theorem cell_m {g p : Nat} {tol : Int32} {pp : Nat → Nat → Int32} {U : vs} (hg : g ≤ 7) (hp : p < g) (h : TM g tol pp U (2 ^ g) 0) : U.1 (0, 49) (7 * ot g p + p) = LL g tol pp (ot g p) p g ∧ U.1 (0, 50) (7 * ot g p + p) = WL g tol pp (ot g p) p g := h (ot g p) p hp (Or.inl (all_one hg hp).2.1)
theorem mOth {F g p : Nat} {tol : Int32} {pp : Nat → Nat → Int32} {U : vs} (o : OkP g tol pp) (h : MP g tol pp U) (hp : p < g) : fX8_others F (nI p) U = some (nI (ot g p)) := by
  have hg := o.1
  have h7 := two7 hg
  unfold fX8_others
  rw [h.2.1, bit_nI (by omega), bit_nI (by omega), show nI (2 ^ g) - 1 = nI (2 ^ g - 1) by rw [show 2 ^ g = (2 ^ g - 1) + 1 by omega, nI_pred]; simp, fb_xorI, (all_one hg hp).1]
  rfl
theorem ot_lt {g p : Nat} (hg : g ≤ 7) : ot g p < 128 := by
  have := two7 hg
  exact Nat.lt_of_le_of_lt (Nat.sub_le _ _) (by omega)
def rsm (g : Nat) (tol : Int32) (pp : Nat → Nat → Int32) : Nat → Int32
  | 0 => 0
  | k + 1 => rsm g tol pp k + WL g tol pp (ot g k) k g
theorem p128 {p : Nat} (h : p < 7) : 2 ^ p < 128 := by
  have : ∀ p : Fin 7, 2 ^ p.val < 128 := by decide +kernel
  exact this ⟨p, h⟩
theorem crs {F g : Nat} {tol : Int32} {pp : Nat → Nat → Int32} {U : vs} (o : OkP g tol pp) (h : RP g tol pp U) (hT : TC g tol pp U (2 ^ g - 1) 0) : ∀ (d k fuel : Nat), k + d = g → d < fuel → hX1_countRows_8 F fuel (rsm g tol pp k) (nI k) U = some (rsm g tol pp g, U) := by
  have hg := o.1
  intro d
  induction d with
  | zero =>
    intro k fuel hk hf
    obtain ⟨f, rfl⟩ : ∃ f, fuel = f + 1 := ⟨fuel - 1, by omega⟩
    have : k = g := by omega
    subst this
    rw [hX1_countRows_8, h.2.1, if_pos (Int32.le_refl _)]
  | succ d ih =>
    intro k fuel hk hf
    obtain ⟨f, rfl⟩ : ∃ f, fuel = f + 1 := ⟨fuel - 1, by omega⟩
    have hkg : k < g := by omega
    have nx := ih (k + 1) f (by omega) (by omega)
    have := p128 (show k < 7 by omega)
    rw [hX1_countRows_8, h.2.1, if_neg (nle_nI hkg (by omega))]
    simp only [fX1_cell, bit_nI (show k < 16 by omega), cell1, Option.bind_some, al20, inb_nI (show 7 * 2 ^ k + k < 896 by omega) (by decide), cl_nI (show 7 * 2 ^ k + k < 2 ^ 31 by omega), gd, if_true, ltt, nI_1, (cell_c hg hkg hT).1]
    exact nx
theorem mrs {F g : Nat} {tol : Int32} {pp : Nat → Nat → Int32} {U : vs} (o : OkP g tol pp) (h : MP g tol pp U) (hT : TM g tol pp U (2 ^ g) 0) : ∀ (d k fuel : Nat), k + d = g → d < fuel → hX8_rows_13 F fuel (rsm g tol pp k) (nI k) U = some (rsm g tol pp g, U) := by
  have hg := o.1
  intro d
  induction d with
  | zero =>
    intro k fuel hk hf
    obtain ⟨f, rfl⟩ : ∃ f, fuel = f + 1 := ⟨fuel - 1, by omega⟩
    have : k = g := by omega
    subst this
    rw [hX8_rows_13, h.2.1, if_pos (Int32.le_refl _)]
  | succ d ih =>
    intro k fuel hk hf
    obtain ⟨f, rfl⟩ : ∃ f, fuel = f + 1 := ⟨fuel - 1, by omega⟩
    have hkg : k < g := by omega
    have nx := ih (k + 1) f (by omega) (by omega)
    have := ot_lt hg (p := k)
    rw [hX8_rows_13, h.2.1, if_neg (nle_nI hkg (by omega))]
    simp only [mOth o h hkg, cell2, Option.bind_some, al50, inb_nI (show 7 * ot g k + k < 896 by omega) (by decide), cl_nI (show 7 * ot g k + k < 2 ^ 31 by omega), gd, if_true, ltt, nI_1, (cell_m hg hkg hT).2]
    exact nx
theorem pst17 (F : Nat) (hF : 200 ≤ F) : St17 F Inv := by
  intro S hI
  obtain ⟨g, tol, pp, oP, rP, mP⟩ := hI.p
  have hg := oP.1
  obtain ⟨U1, e1, g1, t1⟩ := cAll (F := F) oP rP hF
  have ag1 : Ag scr S (T0 U1) := g1.tr (T0_ag U1)
  obtain ⟨U2, e2, g2, t2⟩ := mJoin (F := F) oP (mP.ag ag1) hF
  have c1 := crs (F := F) oP (rP.ag g1) t1 g 0 F (by omega) (by omega)
  have m1 := mrs (F := F) oP (mP.ag (ag1.tr g2)) t2 g 0 F (by omega) (by omega)
  rw [show rsm g tol pp 0 = 0 from rfl, nI_0] at c1 m1
  refine ⟨rsm g tol pp g, U1, U2, ?_, ?_, hI.ag (ag1.tr g2)⟩
  · simp [fX7_rows, fX1_countRows, e1, c1]
  · simp [fX8_rows, stp, e2, m1]
-- misfit
def bst (g : Nat) (tol : Int32) (pp : Nat → Nat → Int32) : Nat → Int32
  | 0 => 1000000
  | k + 1 => if bst g tol pp k ≤ LL g tol pp (ot g k) k g then bst g tol pp k else LL g tol pp (ot g k) k g
def fsp (g : Nat) (tol : Int32) (pp : Nat → Nat → Int32) : Nat → Option Nat
  | 0 => none
  | k + 1 => if bst g tol pp k ≤ LL g tol pp (ot g k) k g then fsp g tol pp k else some k
def isB (g : Nat) (tol : Int32) (pp : Nat → Nat → Int32) (k : Nat) : Option Nat → Prop
  | none => (bst g tol pp k).toInt = 1000000
  | some f => f < k ∧ LL g tol pp (ot g f) f g = bst g tol pp k ∧ (0 ≤ (bst g tol pp k).toInt ∧ (bst g tol pp k).toInt ≤ 12573) ∧ ∀ a, a < f → (bst g tol pp k).toInt < (LL g tol pp (ot g a) a g).toInt
theorem fsp_ok {g : Nat} {tol : Int32} {pp : Nat → Nat → Int32} (o : OkP g tol pp) : ∀ k, k ≤ g → isB g tol pp k (fsp g tol pp k) ∧ ∀ a, a < k → (bst g tol pp k).toInt ≤ (LL g tol pp (ot g a) a g).toInt
  | 0, _ => ⟨rfl, fun a h => by omega⟩
  | k + 1, hk => by
    obtain ⟨ih, ih2⟩ := fsp_ok o k (by omega)
    have lb := LL_bd o (R := ot g k) (k := g) (a := k) (ot_lt o.1) (by omega) (Nat.le_refl _)
    rw [fsp]
    by_cases c : bst g tol pp k ≤ LL g tol pp (ot g k) k g
    · have eb : bst g tol pp (k + 1) = bst g tol pp k := by rw [bst, if_pos c]
      rw [if_pos c]
      rw [fa_le] at c
      refine ⟨?_, fun a ha => ?_⟩
      · cases e : fsp g tol pp k with
        | none => rw [e] at ih; show (bst g tol pp (k + 1)).toInt = 1000000; rw [eb]; exact ih
        | some f =>
          rw [e] at ih
          obtain ⟨i1, i2, i3, i4⟩ := ih
          exact ⟨by omega, by rw [eb]; exact i2, by rw [eb]; exact i3, by rw [eb]; exact i4⟩
      · rw [eb]
        by_cases z : a = k
        · rw [z]; exact c
        · exact ih2 a (by omega)
    · have eb : bst g tol pp (k + 1) = LL g tol pp (ot g k) k g := by rw [bst, if_neg c]
      rw [if_neg c]
      rw [fa_le] at c
      have b6 : (bst g tol pp k).toInt ≤ 1000000 := by
        cases e : fsp g tol pp k with
        | none => rw [e] at ih; have : (bst g tol pp k).toInt = 1000000 := ih; omega
        | some f => rw [e] at ih; have := ih.2.2.1; omega
      refine ⟨⟨by omega, eb.symm, by rw [eb]; omega, fun a ha => by rw [eb]; have := ih2 a ha; omega⟩, fun a ha => ?_⟩
      rw [eb]
      by_cases z : a = k
      · rw [z]; exact Int.le_refl _
      · have := ih2 a (by omega); omega
theorem cfp {F g : Nat} {tol : Int32} {pp : Nat → Nat → Int32} {U : vs} (o : OkP g tol pp) (h : RP g tol pp U) (hT : TC g tol pp U (2 ^ g - 1) 0) : ∀ (d k fuel : Nat), k + d = g → d < fuel → hX1_firstPiece_12 F fuel (oI (fsp g tol pp k)) (nn (bst g tol pp k)) (nI k) U = some (oI (fsp g tol pp g), U) := by
  have hg := o.1
  intro d
  induction d with
  | zero =>
    intro k fuel hk hf
    obtain ⟨f, rfl⟩ : ∃ f, fuel = f + 1 := ⟨fuel - 1, by omega⟩
    have : k = g := by omega
    subst this
    rw [hX1_firstPiece_12, h.2.1, if_pos (Int32.le_refl _)]
  | succ d ih =>
    intro k fuel hk hf
    obtain ⟨f, rfl⟩ : ∃ f, fuel = f + 1 := ⟨fuel - 1, by omega⟩
    have hkg : k < g := by omega
    have nx := ih (k + 1) f (by omega) (by omega)
    have := p128 (show k < 7 by omega)
    rw [hX1_firstPiece_12, h.2.1, if_neg (nle_nI hkg (by omega))]
    simp only [fX1_cell, bit_nI (show k < 16 by omega), cell1, Option.bind_some, al21, inb_nI (show 7 * 2 ^ k + k < 896 by omega) (by decide), cl_nI (show 7 * 2 ^ k + k < 2 ^ 31 by omega), gd, if_true, ltt, nI_1, (cell_c hg hkg hT).2, jX1_firstPiece_58, jX1_firstPiece_53]
    rw [← nx, fsp, bst]
    have lb := LL_bd o (R := ot g k) (k := g) (a := k) (ot_lt o.1) hkg (Nat.le_refl _)
    have ok := (fsp_ok o k (by omega)).1
    generalize LL g tol pp (ot g k) k g = x at lb ⊢
    cases e : fsp g tol pp k with
    | none =>
      rw [e] at ok
      have ok : (bst g tol pp k).toInt = 1000000 := ok
      generalize bst g tol pp k = y at ok ⊢
      by_cases c3 : x.toInt = 1000000
      · rw [if_pos ((nn_9 lb.1).mpr c3), if_pos (show y ≤ x by rw [fa_le]; omega), if_pos (show y ≤ x by rw [fa_le]; omega)]
      · rw [if_neg (fun z => c3 ((nn_9 lb.1).mp z)), if_pos (show oI none = -9 from rfl), if_neg (show ¬ y ≤ x by rw [fa_le]; omega), if_neg (show ¬ y ≤ x by rw [fa_le]; omega)]
        rfl
    | some q =>
      rw [e] at ok
      obtain ⟨i1, -, i3, -⟩ := ok
      generalize bst g tol pp k = y at i3 ⊢
      by_cases c3 : x.toInt = 1000000
      · rw [if_pos ((nn_9 lb.1).mpr c3), if_pos (show y ≤ x by rw [fa_le]; omega), if_pos (show y ≤ x by rw [fa_le]; omega)]
      · rw [if_neg (fun z => c3 ((nn_9 lb.1).mp z)), if_neg (show ¬ oI (some q) = -9 from nI_nm9t (by omega)), nn_s c3, nn_s (show y.toInt ≠ 1000000 by omega)]
        by_cases c4 : y ≤ x
        · rw [if_pos c4, if_pos c4, if_pos c4, nn_s (show y.toInt ≠ 1000000 by omega)]
        · rw [if_neg c4, if_neg c4, if_neg c4, nn_s c3]
          rfl
theorem cFirst {F g : Nat} {tol : Int32} {pp : Nat → Nat → Int32} {S : vs} (o : OkP g tol pp) (h : RP g tol pp S) (hF : 200 ≤ F) : ∃ U, fX1_firstPiece F S = some (oI (fsp g tol pp g), U) ∧ Ag scr S U ∧ TC g tol pp U (2 ^ g - 1) 0 := by
  have hg := o.1
  obtain ⟨U1, e1, g1, t1⟩ := cAll (F := F) o h hF
  have c1 := cfp (F := F) o (h.ag g1) t1 g 0 F (by omega) (by omega)
  rw [show oI (fsp g tol pp 0) = -9 from rfl, show nn (bst g tol pp 0) = -9 from rfl, nI_0] at c1
  exact ⟨U1, by unfold fX1_firstPiece; rw [e1]; exact c1, g1, t1⟩
theorem mlo {F g : Nat} {tol : Int32} {pp : Nat → Nat → Int32} {U : vs} (o : OkP g tol pp) (h : MP g tol pp U) (hT : TM g tol pp U (2 ^ g) 0) : ∀ (d k fuel : Nat), k + d = g → d < fuel → hX8_leastOf_9 F fuel (bst g tol pp k) (nI k) U = some (bst g tol pp g, U) := by
  have hg := o.1
  intro d
  induction d with
  | zero =>
    intro k fuel hk hf
    obtain ⟨f, rfl⟩ : ∃ f, fuel = f + 1 := ⟨fuel - 1, by omega⟩
    have : k = g := by omega
    subst this
    rw [hX8_leastOf_9, h.2.1, if_pos (Int32.le_refl _)]
  | succ d ih =>
    intro k fuel hk hf
    obtain ⟨f, rfl⟩ : ∃ f, fuel = f + 1 := ⟨fuel - 1, by omega⟩
    have hkg : k < g := by omega
    have nx := ih (k + 1) f (by omega) (by omega)
    have := ot_lt hg (p := k)
    rw [hX8_leastOf_9, h.2.1, if_neg (nle_nI hkg (by omega))]
    simp only [mOth o h hkg, cell2, Option.bind_some, al49, inb_nI (show 7 * ot g k + k < 896 by omega) (by decide), cl_nI (show 7 * ot g k + k < 2 ^ 31 by omega), gd, if_true, ltt, nI_1, (cell_m hg hkg hT).1, jX8_leastOf_55]
    rw [← nx, bst]
    split <;> rfl
theorem mLeast {F g : Nat} {tol : Int32} {pp : Nat → Nat → Int32} {S : vs} (o : OkP g tol pp) (h : MP g tol pp S) (hF : 200 ≤ F) : ∃ U, fX8_leastOf F S = some (bst g tol pp g, U) ∧ Ag scr S U ∧ TM g tol pp U (2 ^ g) 0 := by
  have hg := o.1
  obtain ⟨U1, e1, g1, t1⟩ := mJoin (F := F) o h hF
  have c1 := mlo (F := F) o (h.ag g1) t1 g 0 F (by omega) (by omega)
  rw [show bst g tol pp 0 = 1000000 from rfl, nI_0] at c1
  exact ⟨U1, by unfold fX8_leastOf; rw [e1]; exact c1, g1, t1⟩
theorem pst18 (F : Nat) (hF : 200 ≤ F) : St18 F Inv := by
  intro S hI
  obtain ⟨g, tol, pp, oP, rP, mP⟩ := hI.p
  have hg := oP.1
  obtain ⟨U1, e1, g1, t1⟩ := cFirst (F := F) oP rP hF
  have ag1 : Ag scr S (T0 U1) := g1.tr (T0_ag U1)
  obtain ⟨U2, e2, g2, t2⟩ := mLeast (F := F) oP (mP.ag ag1) hF
  have ok := (fsp_ok oP g (Nat.le_refl _)).1
  cases e : fsp g tol pp g with
  | none =>
    rw [e] at ok e1
    have ok : (bst g tol pp g).toInt = 1000000 := ok
    refine ⟨-9, U1, U2, ?_, ?_, hI.ag (ag1.tr g2)⟩
    · simp [fX7_misfit, fX1_leastMisfit, e1, show oI none = -9 from rfl]
    · simp only [fX8_misfit, stp, e2, Option.bind_some]
      rw [if_neg (show ¬ bst g tol pp g < 1000000 by rw [fa_lt, ok]; decide)]
  | some f =>
    rw [e] at ok e1
    obtain ⟨i1, i2, i3, -⟩ := ok
    have := p128 (show f < 7 by omega)
    refine ⟨bst g tol pp g, U1, U2, ?_, ?_, hI.ag (ag1.tr g2)⟩
    · simp only [fX7_misfit, fX1_leastMisfit, e1, Option.bind_some]
      rw [show oI (some f) = nI f from rfl, if_neg (nI_nm9t (show f < 2 ^ 31 by omega)), bit_nI (by omega)]
      simp only [fX1_cell, cell1, Option.bind_some, al21, inb_nI (show 7 * 2 ^ f + f < 896 by omega) (by decide), cl_nI (show 7 * 2 ^ f + f < 2 ^ 31 by omega), gd, if_true, (cell_c hg i1 t1).2, i2]
      rw [nn_s (by omega)]
    · simp only [fX8_misfit, stp, e2, Option.bind_some]
      rw [if_pos (show bst g tol pp g < 1000000 by rw [fa_lt, show (1000000 : Int32).toInt = 1000000 from rfl]; omega)]
