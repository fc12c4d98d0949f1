def WR (sd : Nat → Nat → Int32) (s m Y : Nat) (f : Nat → Nat) (U : vs) : Prop := (U.1 (0, 1) 33).toInt = vS (svI sd s) m Y f ∧ (∀ y, y < 3 → (U.1 (0, 48) y).toInt = if y < Y then uS (lhI sd s) (nhI sd s) m f y else 0) ∧ ∀ p, p < m → U.1 (0, 47) p = if f p = 2 * Y then (-9) else nI (f p)
theorem WI.r {sd : Nat → Nat → Int32} {s m Y : Nat} {f : Nat → Nat} {U : vs} (h : WI sd s m Y f 0 U) : WR sd s m Y f U := by
  obtain ⟨h1, h2, h3⟩ := h
  refine ⟨?_, fun y hy => ?_, fun p hp => h3 p (by omega) hp⟩
  · rw [h1, show smI (gF (svI sd s) Y f) 0 = 0 from rfl, Int.sub_zero]; rfl
  · rw [h2 y hy, show smI (uF (lhI sd s) (nhI sd s) Y f y) 0 = 0 from rfl, Int.sub_zero]
    by_cases c : y < Y
    · rw [if_pos c, uF_lo c]
    · rw [if_neg c, uF_hi (by omega)]
theorem mw7 {F n s Y c : Nat} {yr : Int32} {sd : Nat → Nat → Int32} {S : vs} (oS : OkS n yr sd) (hS : MS n yr sd S) (h6 : pcs s n ≤ 6) (hY : 1 ≤ Y ∧ Y ≤ 3) (hc : c < 2 ^ 31) (hF : 100 ≤ F) : ∀ (d k fuel : Nat) (U : vs), k + d = 3 → d < fuel → Ag scr S U → MB (pcs s n) s U → U.1 (0, 1) 33 = 0 → (∀ y, y < k → U.1 (0, 48) y = 0) → ∃ U', hX8_weigh_7 F (nI c) (nI Y) fuel (nI k) U = some U' ∧ Ag scr S U' ∧ MB (pcs s n) s U' ∧ WR sd s (pcs s n) Y (dg (2 * Y + 1) (pcs s n) c) U' := by
  intro d
  induction d with
  | zero =>
    intro k fuel U hk hf hA hM h33 h48
    obtain ⟨f, rfl⟩ : ∃ f, fuel = f + 1 := ⟨fuel - 1, by omega⟩
    have : k = 3 := by omega
    subst this
    obtain ⟨U', e, g1, g2, g3⟩ := mw35 (F := F) (c := c) oS hS h6 hY hc (pcs s n) F U (Nat.le_refl _) (by omega) hA hM ⟨by rw [h33, Int.sub_self]; rfl, fun y hy => by rw [h48 y hy, Int.sub_self]; rfl, fun p h1 h2 => by omega⟩
    refine ⟨U', ?_, g1, g2, g3.r⟩
    rw [hX8_weigh_7, if_pos (by decide), hM.1]
    simp only [ltt, Int32.sub_eq_add_neg]
    rw [Nat.sub_self, Nat.pow_zero, Nat.div_one] at e
    exact e
  | succ d ih =>
    intro k fuel U hk hf hA hM h33 h48
    obtain ⟨f, rfl⟩ : ∃ f, fuel = f + 1 := ⟨fuel - 1, by omega⟩
    obtain ⟨U', e, g⟩ := ih (k + 1) f (s2 U (0, 48) k 0) (by omega) (by omega) (hA.tr (Ag.put (scr_w _ _ (by omega)))) (hM.ag (by simp [s2_at]) (fun p => by simp [s2_at])) (by simp [s2_at]; exact h33) (fun y hy => by
      rw [s2_at]
      by_cases c : y = k
      · rw [if_pos ⟨rfl, c⟩]
      · rw [if_neg (fun z => c z.2)]; exact h48 y (by omega))
    refine ⟨U', ?_, g⟩
    rw [hX8_weigh_7, if_neg (show ¬ (3 : Int32) ≤ nI k from nle_nI (b := 3) (by omega) (by decide)), al48, inb_nI (show k < 3 by omega) (by decide), cl_nI (show k < 2 ^ 31 by omega)]
    simp only [gd, if_true, stp, ltt, nI_1]
    exact e
theorem mWeigh {F n s Y c : Nat} {yr : Int32} {sd : Nat → Nat → Int32} {S U : vs} (oS : OkS n yr sd) (hS : MS n yr sd S) (h6 : pcs s n ≤ 6) (hY : 1 ≤ Y ∧ Y ≤ 3) (hc : c < 2 ^ 31) (hF : 100 ≤ F) (hA : Ag scr S U) (hM : MB (pcs s n) s U) : ∃ U', fX8_weigh F (nI c) (nI Y) U = some U' ∧ Ag scr S U' ∧ MB (pcs s n) s U' ∧ WR sd s (pcs s n) Y (dg (2 * Y + 1) (pcs s n) c) U' := by
  obtain ⟨U', e, g⟩ := mw7 (F := F) (c := c) oS hS h6 hY hc hF 3 0 F (s2 U (0, 1) 33 0) (by omega) (by omega) (hA.tr (Ag.put (scr_s _ (by omega)))) (hM.ag (by simp [s2_at]) (fun p => by simp [s2_at])) (by simp [s2_at]) (fun y hy => by omega)
  exact ⟨U', e, g⟩
/-- no year needs more -/
def uM (lh nh : Nat → Int) (m Y : Nat) (f : Nat → Nat) (v : Int) : Prop := 0 ≤ v ∧ ∀ H : Int, 0 ≤ H → (v ≤ H ↔ ∀ y, y < Y → uS lh nh m f y ≤ H)
theorem mMost {F n s Y : Nat} {yr : Int32} {sd : Nat → Nat → Int32} {f : Nat → Nat} {U : vs} (oS : OkS n yr sd) (h6 : pcs s n ≤ 6) (hY : 1 ≤ Y ∧ Y ≤ 3) (hW : WR sd s (pcs s n) Y f U) : ∃ r, fX8_most F U = some r ∧ uM (lhI sd s) (nhI sd s) (pcs s n) Y f r.toInt := by
  obtain ⟨-, h2, -⟩ := hW
  have b : ∀ y, y < 3 → 0 ≤ (U.1 (0, 48) y).toInt := fun y hy => by
    rw [h2 y hy]
    by_cases c : y < Y
    · rw [if_pos c, ← uF_lo c]
      have := tl_b (k := 0) (uF_b (y := y) (f := f) (sd := sd) oS h6 hY) (by omega)
      rw [show ∀ g : Nat → Int, smI g 0 = 0 from fun g => rfl] at this
      omega
    · rw [if_neg c]; exact Int.le_refl _
  have b0 := b 0 (by decide)
  have b1 := b 1 (by decide)
  have b2 := b 2 (by decide)
  have key : ∀ r : Int32, 0 ≤ r.toInt → (∀ H : Int, r.toInt ≤ H ↔ (U.1 (0, 48) 0).toInt ≤ H ∧ (U.1 (0, 48) 1).toInt ≤ H ∧ (U.1 (0, 48) 2).toInt ≤ H) → uM (lhI sd s) (nhI sd s) (pcs s n) Y f r.toInt := fun r r0 hr => by
    refine ⟨r0, fun H hH => ?_⟩
    rw [hr H]
    constructor
    · intro h y hy
      have := h2 y (by omega)
      rw [if_pos hy] at this
      rw [← this]
      rcases (show y = 0 ∨ y = 1 ∨ y = 2 by omega) with e | e | e <;> rw [e]
      · exact h.1
      · exact h.2.1
      · exact h.2.2
    · intro h
      have q : ∀ y, y < 3 → (U.1 (0, 48) y).toInt ≤ H := fun y hy => by
        rw [h2 y hy]
        by_cases c : y < Y
        · rw [if_pos c]; exact h y c
        · rw [if_neg c]; exact hH
      exact ⟨q 0 (by decide), q 1 (by decide), q 2 (by decide)⟩
  unfold fX8_most jX8_most_30
  rw [al48, show inb 0 3 = true from rfl, show inb 1 3 = true from rfl, show inb 2 3 = true from rfl, show Int32.toNatClampNeg 0 = 0 from rfl, show Int32.toNatClampNeg 1 = 1 from rfl, show Int32.toNatClampNeg 2 = 2 from rfl]
  simp only [gd, if_true, fa_le]
  generalize U.1 (0, 48) 0 = a0 at *
  generalize U.1 (0, 48) 1 = a1 at *
  generalize U.1 (0, 48) 2 = a2 at *
  by_cases c1 : a0.toInt ≤ a1.toInt
  · rw [if_pos c1]
    by_cases c2 : a1.toInt ≤ a2.toInt
    · rw [if_pos c2]; exact ⟨_, rfl, key _ (by omega) (fun H => by omega)⟩
    · rw [if_neg c2]; exact ⟨_, rfl, key _ (by omega) (fun H => by omega)⟩
  · rw [if_neg c1]
    by_cases c2 : a0.toInt ≤ a2.toInt
    · rw [if_pos c2]; exact ⟨_, rfl, key _ (by omega) (fun H => by omega)⟩
    · rw [if_neg c2]; exact ⟨_, rfl, key _ (by omega) (fun H => by omega)⟩
theorem mg7 {F n s : Nat} {yr : Int32} {sd : Nat → Nat → Int32} {S : vs} (oS : OkS n yr sd) (hS : MS n yr sd S) (h6 : pcs s n ≤ 6) (hs : s < 65536) : ∀ (d i fuel : Nat) (U : vs), i + d = n → d < fuel → Ag scr S U → MB (pcs s i) s U → ∃ U', hX8_gather_7 F (nI s) fuel (nI i) U = some U' ∧ Ag scr S U' ∧ MB (pcs s n) s U' := by
  have hn := oS.1
  intro d
  induction d with
  | zero =>
    intro i fuel U hi hf hA hM
    obtain ⟨f, rfl⟩ : ∃ f, fuel = f + 1 := ⟨fuel - 1, by omega⟩
    have : i = n := by omega
    subst this
    exact ⟨U, by rw [hX8_gather_7, (hS.ag hA).1, if_pos (Int32.le_refl _)], hA, hM⟩
  | succ d ih =>
    intro i fuel U hi hf hA hM
    obtain ⟨f, rfl⟩ : ∃ f, fuel = f + 1 := ⟨fuel - 1, by omega⟩
    have hin : i < n := by omega
    rw [hX8_gather_7, (hS.ag hA).1, if_neg (nle_nI hin (by omega)), shr_v hs (show i < 32 by omega)]
    by_cases c : s.testBit i = true
    · have lt := pcs_lt s hin c
      have em : mm s 16 (pcs s i) = i := mm_eq c 16 (by omega)
      rw [if_pos c, if_pos (show nI 1 = (1 : Int32) from rfl), hM.1, al46, inb_nI (show pcs s i < 6 by omega) (by decide), cl_nI (show pcs s i < 2 ^ 31 by omega)]
      have c0 : (s2 U (0, 46) (pcs s i) (nI i)).1 (0, 1) 30 = nI (pcs s i) := by simp [s2_at]; exact hM.1
      simp only [gd, if_true, stp, c0, jX8_gather_44, ltt, nI_1]
      refine ih (i + 1) f _ (by omega) (by omega) ((hA.tr (Ag.put (scr_w _ _ (by omega)))).tr (Ag.put (scr_s _ (by omega)))) ⟨?_, fun p hp => ?_⟩
      · rw [s2_at, if_pos ⟨rfl, rfl⟩, show pcs s (i + 1) = pcs s i + (if s.testBit i = true then 1 else 0) from rfl, if_pos c]
      · rw [show pcs s (i + 1) = pcs s i + (if s.testBit i = true then 1 else 0) from rfl, if_pos c] at hp
        rw [s2_at, if_neg (by simp), s2_at]
        by_cases c2 : p = pcs s i
        · rw [if_pos ⟨rfl, c2⟩, c2, em]
        · rw [if_neg (fun z => c2 z.2)]; exact hM.2 p (by omega)
    · rw [if_neg c, if_neg (show ¬ nI 0 = (1 : Int32) by decide)]
      simp only [jX8_gather_44, ltt, nI_1]
      exact ih (i + 1) f U (by omega) (by omega) hA (by rw [pcs, if_neg c]; exact hM)
theorem mGather {F n s : Nat} {yr : Int32} {sd : Nat → Nat → Int32} {S : vs} (oS : OkS n yr sd) (hS : MS n yr sd S) (h6 : pcs s n ≤ 6) (hs : s < 65536) (hF : 100 ≤ F) : ∃ U', fX8_gather F (nI s) S = some U' ∧ Ag scr S U' ∧ MB (pcs s n) s U' := by
  have hn := oS.1
  obtain ⟨U', e, g⟩ := mg7 (F := F) oS hS h6 hs n 0 F (s2 S (0, 1) 30 0) (by omega) (by omega) (Ag.put (scr_s _ (by omega))) ⟨by simp [s2_at]; rfl, fun p hp => by simp [pcs] at hp⟩
  exact ⟨U', e, g⟩
theorem mc4 {F m Y : Nat} {U : vs} (h : U.1 (0, 1) 30 = nI m) (hm : m ≤ 6) : ∀ (d k fuel : Nat), k + d = m → d < fuel → hX8_codes_4 F U (nI Y) fuel (nI ((2 * Y + 1) ^ k)) (nI k) = some (nI ((2 * Y + 1) ^ m)) := by
  intro d
  induction d with
  | zero =>
    intro k fuel hk hf
    obtain ⟨f, rfl⟩ : ∃ f, fuel = f + 1 := ⟨fuel - 1, by omega⟩
    have : k = m := by omega
    subst this
    rw [hX8_codes_4, h, if_pos (Int32.le_refl _)]
  | succ d ih =>
    intro k fuel hk hf
    obtain ⟨f, rfl⟩ : ∃ f, fuel = f + 1 := ⟨fuel - 1, by omega⟩
    have nx := ih (k + 1) f (by omega) (by omega)
    rw [hX8_codes_4, h, if_neg (nle_nI (show k < m by omega) (by omega)), B_eq, nI_mul, ← Nat.pow_succ]
    simp only [ltt, nI_1]
    exact nx
theorem mCodes {F m s Y : Nat} {U : vs} (h : MB m s U) (hm : m ≤ 6) (hF : 100 ≤ F) : fX8_codes F (nI Y) U = some (nI ((2 * Y + 1) ^ m)) := by
  have := mc4 (F := F) (Y := Y) h.1 hm m 0 F (by omega) (by omega)
  exact this
