theorem gF_b {n s Y : Nat} {yr : Int32} {sd : Nat → Nat → Int32} {f : Nat → Nat} (oS : OkS n yr sd) (h6 : pcs s n ≤ 6) (hY : 1 ≤ Y ∧ Y ≤ 3) : ∀ i, i < pcs s n → 0 ≤ gF (svI sd s) Y f i ∧ gF (svI sd s) Y f i ≤ (100000 : Nat) := fun i hi => by
  have := (PB_M (sd := sd) oS h6 hY).2.2 i hi
  unfold gF
  by_cases c : f i < 2 * Y
  · rw [if_pos c]; exact this.2.2 (f i)
  · rw [if_neg c]; omega
theorem uF_b {n s Y y : Nat} {yr : Int32} {sd : Nat → Nat → Int32} {f : Nat → Nat} (oS : OkS n yr sd) (h6 : pcs s n ≤ 6) (hY : 1 ≤ Y ∧ Y ≤ 3) : ∀ i, i < pcs s n → 0 ≤ uF (lhI sd s) (nhI sd s) Y f y i ∧ uF (lhI sd s) (nhI sd s) Y f y i ≤ (1000 : Nat) := fun i hi => by
  have := (PB_M (sd := sd) oS h6 hY).2.2 i hi
  have h1 := this.1
  have h2 := this.2.1
  unfold rg at h1 h2
  unfold uF hO
  by_cases c : f i < 2 * Y ∧ f i / 2 = y
  · rw [if_pos c]
    show 0 ≤ (if f i % 2 = 0 then (lhM sd s i).toInt else (nhM sd s i).toInt) ∧ (if f i % 2 = 0 then (lhM sd s i).toInt else (nhM sd s i).toInt) ≤ _
    split <;> omega
  · rw [if_neg c]; omega
theorem tl_b {g : Nat → Int} {c m k : Nat} (h : ∀ i, i < m → 0 ≤ g i ∧ g i ≤ (c : Nat)) (hk : k ≤ m) : 0 ≤ smI g m - smI g k ∧ smI g m - smI g k ≤ (m * c : Nat) := by
  have h1 := smI_b m h
  have h2 := smI_b k (fun i hi => h i (by omega))
  have h3 := smI_mono m (fun i hi => (h i hi).1) hk
  omega
theorem MB.ag {m s : Nat} {U U' : vs} (h : MB m s U) (h1 : U'.1 (0, 1) 30 = U.1 (0, 1) 30) (h2 : ∀ p, U'.1 (0, 46) p = U.1 (0, 46) p) : MB m s U' := ⟨by rw [h1]; exact h.1, fun p hp => by rw [h2]; exact h.2 p hp⟩
theorem nI_nn {k : Nat} (h : k < 2 ^ 31) : ¬ nI k < 0 := by
  rw [fa_lt, nI_toInt h, show (0 : Int32).toInt = 0 from rfl]
  omega
theorem dI_neg : dI 0 < 0 := by decide
theorem mw35 {F n s Y c : Nat} {yr : Int32} {sd : Nat → Nat → Int32} {S : vs} (oS : OkS n yr sd) (hS : MS n yr sd S) (h6 : pcs s n ≤ 6) (hY : 1 ≤ Y ∧ Y ≤ 3) (hc : c < 2 ^ 31) : ∀ (k fuel : Nat) (U : vs), k ≤ pcs s n → k < fuel → Ag scr S U → MB (pcs s n) s U → WI sd s (pcs s n) Y (dg (2 * Y + 1) (pcs s n) c) k U → ∃ U', hX8_weigh_35 F (nI Y) fuel (nI (c / (2 * Y + 1) ^ (pcs s n - k))) (dI k) U = some U' ∧ Ag scr S U' ∧ MB (pcs s n) s U' ∧ WI sd s (pcs s n) Y (dg (2 * Y + 1) (pcs s n) c) 0 U' := by
  intro k
  induction k with
  | zero =>
    intro fuel U hk hf hA hM hW
    obtain ⟨f, rfl⟩ : ∃ f, fuel = f + 1 := ⟨fuel - 1, by omega⟩
    exact ⟨U, by rw [hX8_weigh_35, if_pos dI_neg], hA, hM, hW⟩
  | succ k ih =>
    intro fuel U hk hf hA hM hW
    obtain ⟨f, rfl⟩ : ∃ f, fuel = f + 1 := ⟨fuel - 1, by omega⟩
    have hU := hS.ag hA
    generalize hm : pcs s n = m at *
    have hB : 0 < 2 * Y + 1 := by omega
    have ex : m - 1 - k = m - (k + 1) := by omega
    have hr : c / (2 * Y + 1) ^ (m - (k + 1)) < 2 ^ 31 := Nat.lt_of_le_of_lt (Nat.div_le_self _ _) hc
    have er := pk_rem (a := c / (2 * Y + 1) ^ (m - (k + 1))) (d := 2 * Y + 1) hr hB (by omega)
    have ed := pk_div (a := c / (2 * Y + 1) ^ (m - (k + 1))) (d := 2 * Y + 1) hr hB (by omega)
    have en : c / (2 * Y + 1) ^ (m - (k + 1)) / (2 * Y + 1) = c / (2 * Y + 1) ^ (m - k) := by
      rw [Nat.div_div_eq_div_mul, ← Nat.pow_succ, show (m - (k + 1)).succ = m - k by omega]
    have eg : c / (2 * Y + 1) ^ (m - (k + 1)) % (2 * Y + 1) = dg (2 * Y + 1) m c k := by unfold dg; rw [ex]
    have lt := dg_lt (B := 2 * Y + 1) (m := m) (c := c) (p := k) hB
    rw [eg] at er
    rw [en] at ed
    rw [ed] at er
    have nz1 : nz (nI (2 * Y + 1)) = true := by
      unfold nz
      rw [decide_eq_true_eq, show (0 : Int32) = nI 0 from rfl]
      intro e
      have := (nI_eq (show 2 * Y + 1 < 2 ^ 31 by omega) (by decide)).mp e
      omega
    obtain ⟨w1, w2, w3⟩ := hW
    have st : ∀ g : Nat → Int, smI g (k + 1) = smI g k + g k := fun g => rfl
    have hin := (mm_is (s := s) (k := k) oS.1 (by rw [hm]; omega)).1
    rw [hX8_weigh_35, dI_s, if_neg (show ¬ nI k < 0 from nI_nn (by omega)), B_eq, nz1]
    simp only [gd, if_true, ltt, er, ed]
    generalize hd : dg (2 * Y + 1) m c k = d at *
    by_cases e : d = 2 * Y
    · rw [if_pos (by rw [e, m2_eq]), e, mw78n (by omega)]
      refine ih f _ (by omega) (by omega) (hA.tr (Ag.put (scr_w _ _ (by omega)))) (hM.ag (by simp [s2_at]) (fun p => by simp [s2_at])) ⟨?_, fun y hy => ?_, fun p h1 h2 => ?_⟩
      · rw [s2_at, if_neg (by simp), w1, st]
        have : gF (svI sd s) Y (dg (2 * Y + 1) m c) k = 0 := by unfold gF; rw [hd, if_neg (by omega)]
        omega
      · rw [s2_at, if_neg (by simp), w2 y hy, st]
        have : uF (lhI sd s) (nhI sd s) Y (dg (2 * Y + 1) m c) y k = 0 := by unfold uF; rw [hd, if_neg (by omega)]
        omega
      · rw [s2_at]
        by_cases c2 : p = k
        · rw [if_pos ⟨rfl, c2⟩, c2, hd, if_pos e]
        · rw [if_neg (fun z => c2 z.2)]; exact w3 p (by omega) h2
    · have dl : d < 2 * Y := by omega
      rw [if_neg (show ¬ nI d = 2 * nI Y by
        rw [m2_eq]
        intro z
        exact e ((nI_eq (by omega) (by omega)).mp z)), mw78 (n := n) (yr := yr) (sd := sd) (i := mm s 16 k) oS hU (by omega) hin (hM.2 k (by omega)) hY.2 dl]
      have gk : gF (svI sd s) Y (dg (2 * Y + 1) m c) k = (svF sd (mm s 16 k) d).toInt := by unfold gF; rw [hd, if_pos dl]; rfl
      have gb := gF_b (f := dg (2 * Y + 1) m c) oS (by rw [hm]; exact h6) hY (sd := sd)
      rw [hm] at gb
      have tb1 := tl_b (k := k) gb (by omega)
      have ub := fun y => uF_b (y := y) (f := dg (2 * Y + 1) m c) oS (by rw [hm]; exact h6) hY (sd := sd)
      rw [hm] at ub
      have tb2 := fun y => tl_b (k := k) (ub y) (by omega)
      refine ih f _ (by omega) (by omega) (((hA.tr (Ag.put (scr_w _ _ (by omega)))).tr (Ag.put (scr_s _ (by omega)))).tr (Ag.put (scr_w _ _ (by omega)))) (hM.ag (by simp [s2_at]) (fun p => by simp [s2_at])) ⟨?_, fun y hy => ?_, fun p h1 h2 => ?_⟩
      · rw [s2_at, if_neg (by simp), s2_at, if_pos ⟨rfl, rfl⟩]
        rw [st, gk] at w1
        rw [fb_addI (by omega) (by omega)]
        omega
      · rw [s2_at]
        have wy := w2 y hy
        rw [st] at wy
        by_cases c2 : y = d / 2
        · rw [if_pos ⟨rfl, c2⟩, ← c2]
          have uk : uF (lhI sd s) (nhI sd s) Y (dg (2 * Y + 1) m c) y k = (if d % 2 = 0 then sd (mm s 16 k) 4 else sd (mm s 16 k) 5).toInt := by
            unfold uF hO
            rw [hd, if_pos ⟨dl, c2.symm⟩]
            by_cases c3 : d % 2 = 0
            · rw [if_pos c3, if_pos c3]; rfl
            · rw [if_neg c3, if_neg c3]; rfl
          have := tb2 y
          rw [uk] at wy
          rw [fb_addI (by omega) (by omega)]
          omega
        · rw [if_neg (fun z => c2 z.2), s2_at, if_neg (by simp), s2_at, if_neg (by simp), wy]
          have : uF (lhI sd s) (nhI sd s) Y (dg (2 * Y + 1) m c) y k = 0 := by unfold uF; rw [hd, if_neg (fun z => c2 z.2.symm)]
          omega
      · rw [s2_at, if_neg (by simp), s2_at, if_neg (by simp), s2_at]
        by_cases c2 : p = k
        · rw [if_pos ⟨rfl, c2⟩, c2, hd, if_neg e]
        · rw [if_neg (fun z => c2 z.2)]; exact w3 p (by omega) h2
