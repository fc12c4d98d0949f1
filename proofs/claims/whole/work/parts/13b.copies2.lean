set_option maxHeartbeats 2000000 in
theorem pst26 (F : Nat) (hF : 100 ≤ F) : St26 F Inv := by
  intro S hI x1 x2
  obtain ⟨n, yr, sd, oS, rS, mS⟩ := hI.s
  have hn := oS.1
  have e7 : ∀ x, fX7_isSide F x S = _ := fun x => isSide_eq (F := F) (x := x) rS.2.1 (by omega)
  have mT : MS n yr sd (T0 S) := mS.ag (T0_ag S)
  have e8 : ∀ x S', MS n yr sd S' → fX8_noSide F x S' = _ := fun x S' h => noSide_eq (F := F) (x := x) h.1 (by omega)
  by_cases c1 : wi 0 ((n : Int) - 1) x1 = true
  · obtain ⟨i, hi, rfl⟩ := wi_side c1
    have s8 : S.1 (1, i) 8 = sd i 8 := rS.2.2.2.2 i 8 hi (by decide)
    have hin : inb (nI i) 16 = true := inb_nI (by omega) (by decide)
    have hcl : (nI i).toNatClampNeg = i := cl_nI (by omega)
    have r1 : RS n yr (up2 sd i 8 x2) (s2 S (1, i) 8 x2) := rS.put
    have m1 : MS n yr sd (s2 S (1, i) 8 x2) := mS.fr (by simp) (by simp)
    have m2 : MS n yr sd (T0 (s2 S (1, i) 8 x2)) := m1.fr (by simp) (by simp)
    have h31 : (T0 (s2 S (1, i) 8 x2)).1 (0, 31) i = sd i 8 := m2.2.2.1 i 8 hi (by decide)
    have m3 := MS.put (j := 8) (x := x2) m2 hi (show 31 = mk 8 from rfl) (by decide)
    have r3 : RS n yr (up2 sd i 8 x2) (s2 (T0 (s2 S (1, i) 8 x2)) (0, 31) i x2) := (r1.fr (by simp) (by simp)).fr (by simp) (by simp)
    have i3 : I3s (s2 (T0 (s2 S (1, i) 8 x2)) (0, 31) i x2) := ((hI.i3s.fr (k3s_side _ _)).fr k3s_T0).fr (k3s_ms _ (by decide))
    by_cases c2 : x2 = (-9)
    · refine ⟨sd i 8, s2 S (1, i) 8 x2, s2 (T0 (s2 S (1, i) 8 x2)) (0, 31) i x2, ?_, ?_, Inv.sides (ok_up8 oS hi (Or.inl c2)) r3 m3 i3⟩
      · simp [fX7_copy, jX7_copy_24, e7, c1, b01_ite, c2, cSt9 oS rS hF hi, rg2 rS hn hi, gd, alv1 rS hi, ltt, stp, s8]
      · subst c2
        simp [fX8_copy, jX8_copy_29, jX8_copy_49, stp, e8 _ _ m2, c1, b01_ite, al31, hin, gd, hcl, ltt, h31]
    · by_cases c3 : wi 0 ((n : Int) - 1) x2 = true
      · obtain ⟨j, hj, rfl⟩ := wi_side c3
        by_cases c4 : stq sd j i n 0 = (-9)
        · refine ⟨sd i 8, s2 S (1, i) 8 (nI j), s2 (T0 (s2 S (1, i) 8 (nI j))) (0, 31) i (nI j), ?_, ?_, Inv.sides (ok_up8 oS hi (Or.inr ⟨j, hj, rfl, c4⟩)) r3 m3 i3⟩
          · simp [fX7_copy, jX7_copy_24, e7, c1, c3, b01_ite, c2, cSt oS rS hj hi hF, c4, rg2 rS hn hi, gd, alv1 rS hi, ltt, stp, s8]
          · simp only [fX8_copy, jX8_copy_29, jX8_copy_49, stp, e8 _ _ m2, c1, c3, b01_ite, Option.bind_some, Bool.not_true, Bool.false_eq_true, if_false, c2, mSt oS m2 hj hi hF, c4, if_true, al31, hin, gd, hcl, ltt, h31]
        · refine ⟨-3, S, T0 S, ?_, ?_, hI.ag (T0_ag S)⟩
          · simp [fX7_copy, jX7_copy_24, e7, c1, c3, b01_ite, c2, cSt oS rS hj hi hF, c4]
          · simp [fX8_copy, jX8_copy_29, stp, e8 _ _ mT, c1, c3, b01_ite, c2, mSt oS mT hj hi hF, c4]
      · refine ⟨-1, S, T0 S, ?_, ?_, hI.ag (T0_ag S)⟩
        · simp [fX7_copy, e7, c1, c3, b01_ite, c2]
        · simp [fX8_copy, stp, e8 _ _ mT, c1, c3, b01_ite, c2]
  · refine ⟨-1, S, T0 S, ?_, ?_, hI.ag (T0_ag S)⟩
    · simp [fX7_copy, e7, c1, b01_ite]
    · simp [fX8_copy, stp, e8 _ _ mT, c1, b01_ite]
-- copies
def cps2 (sd : Nat → Nat → Int32) (n t : Nat) : Nat → Int32
  | 0 => 0
  | k + 1 => if stq sd k t n 0 = (-9) then cps2 sd n t k else cps2 sd n t k ||| ((1 : Int32) <<< (nI k &&& 31))
theorem ccp {F n t : Nat} {yr : Int32} {sd : Nat → Nat → Int32} {S : vs} (o : OkS n yr sd) (h : RS n yr sd S) (ht : t < n) (hF : 100 ≤ F) : ∀ (d k fuel : Nat), k + d = n → d < fuel → hX7_copies_14 F S (nI t) fuel (cps2 sd n t k) (nI k) = some (cps2 sd n t n) := by
  have hn := o.1
  intro d
  induction d with
  | zero =>
    intro k fuel hk hf
    obtain ⟨f, rfl⟩ : ∃ f, fuel = f + 1 := ⟨fuel - 1, by omega⟩
    have : k = n := by omega
    subst this
    rw [hX7_copies_14, h.2.1, if_pos (Int32.le_refl _)]
  | succ d ih =>
    intro k fuel hk hf
    obtain ⟨f, rfl⟩ : ∃ f, fuel = f + 1 := ⟨fuel - 1, by omega⟩
    have hkn : k < n := by omega
    have nx := ih (k + 1) f (by omega) (by omega)
    rw [hX7_copies_14, h.2.1, if_neg (nle_nI hkn (by omega)), cSt o h hkn ht hF]
    simp only [Option.bind_some, jX7_copies_39, ltt, nI_1]
    rw [← nx, cps2]
    by_cases e : stq sd k t n 0 = (-9) <;> simp [e]
theorem mcp {F n t : Nat} {yr : Int32} {sd : Nat → Nat → Int32} {S : vs} (o : OkS n yr sd) (h : MS n yr sd S) (ht : t < n) (hF : 100 ≤ F) : ∀ (d k fuel : Nat), k + d = n → d < fuel → hX8_copies_19 F (nI t) fuel (cps2 sd n t k) (nI k) S = some (cps2 sd n t n, S) := by
  have hn := o.1
  intro d
  induction d with
  | zero =>
    intro k fuel hk hf
    obtain ⟨f, rfl⟩ : ∃ f, fuel = f + 1 := ⟨fuel - 1, by omega⟩
    have : k = n := by omega
    subst this
    rw [hX8_copies_19, if_pos (by rw [h.1]; exact Int32.le_refl _)]
  | succ d ih =>
    intro k fuel hk hf
    obtain ⟨f, rfl⟩ : ∃ f, fuel = f + 1 := ⟨fuel - 1, by omega⟩
    have hkn : k < n := by omega
    have nx := ih (k + 1) f (by omega) (by omega)
    rw [hX8_copies_19, if_neg (by rw [h.1]; exact nle_nI hkn (by omega)), mSt o h hkn ht hF]
    simp only [Option.bind_some, jX8_copies_46, ltt, nI_1]
    rw [← nx, cps2]
    by_cases e : stq sd k t n 0 = (-9) <;> simp [e]
theorem pst27 (F : Nat) (hF : 100 ≤ F) : St27 F Inv := by
  intro S hI x1
  obtain ⟨n, yr, sd, oS, rS, mS⟩ := hI.s
  have hn := oS.1
  have e7 := isSide_eq (F := F) (x := x1) rS.2.1 (by omega)
  have mT : MS n yr sd (T0 S) := mS.ag (T0_ag S)
  have e8 := noSide_eq (F := F) (x := x1) mT.1 (by omega)
  by_cases c1 : wi 0 ((n : Int) - 1) x1 = true
  · obtain ⟨i, hi, rfl⟩ := wi_side c1
    have q7 := ccp (F := F) oS rS hi hF n 0 F (by omega) (by omega)
    have q8 := mcp (F := F) oS mT hi hF n 0 F (by omega) (by omega)
    rw [show cps2 sd n i 0 = 0 from rfl, nI_0] at q7 q8
    refine ⟨cps2 sd n i n, T0 S, ?_, ?_, hI.ag (T0_ag S)⟩
    · simp [fX7_copies, e7, c1, b01_ite, q7]
    · simp [fX8_copies, stp, e8, c1, b01_ite, q8]
  · refine ⟨-1, T0 S, ?_, ?_, hI.ag (T0_ag S)⟩
    · simp [fX7_copies, e7, c1, b01_ite]
    · simp [fX8_copies, stp, e8, c1, b01_ite]
-- clearest
/-- a better one comes -/
def clb (sd : Nat → Nat → Int32) (n t b k : Nat) : Nat := if stq sd k t n 0 = (-9) then b else if (sd b 3).toInt < (sd k 3).toInt then k else if (sd b 3).toInt = (sd k 3).toInt ∧ (stq sd k t n 0).toInt < (stq sd b t n 0).toInt then k else b
def clr (sd : Nat → Nat → Int32) (n t : Nat) : Nat → Nat
  | 0 => t
  | k + 1 => clb sd n t (clr sd n t k) k
theorem clr_or (sd : Nat → Nat → Int32) (n t : Nat) : ∀ k, clr sd n t k = t ∨ clr sd n t k < k
  | 0 => Or.inl rfl
  | k + 1 => by
    have ih := clr_or sd n t k
    rw [clr]
    unfold clb
    repeat' split
    all_goals omega
theorem sub3 {n : Nat} {yr : Int32} {sd : Nat → Nat → Int32} (o : OkS n yr sd) {a b : Nat} (ha : a < n) (hb : b < n) : (sd a 3 - sd b 3).toInt = (sd a 3).toInt - (sd b 3).toInt := by
  have h1 := (o.2.2.1 a ha).2.2.2.1
  have h2 := (o.2.2.1 b hb).2.2.2.1
  exact fb_subI (by have := h1.1; have := h2.2; omega) (by have := h1.2; have := h2.1; omega)
theorem ccr {F n t : Nat} {yr : Int32} {sd : Nat → Nat → Int32} {S : vs} (o : OkS n yr sd) (h : RS n yr sd S) (ht : t < n) (hF : 100 ≤ F) : ∀ (d k fuel : Nat), k + d = n → d < fuel → hX7_clearest_17 F S (nI t) fuel (nI (clr sd n t k)) (stq sd (clr sd n t k) t n 0) (nI k) = some (nI (clr sd n t n)) := by
  have hn := o.1
  intro d
  induction d with
  | zero =>
    intro k fuel hk hf
    obtain ⟨f, rfl⟩ : ∃ f, fuel = f + 1 := ⟨fuel - 1, by omega⟩
    have : k = n := by omega
    subst this
    rw [hX7_clearest_17, h.2.1, if_pos (Int32.le_refl _)]
  | succ d ih =>
    intro k fuel hk hf
    obtain ⟨f, rfl⟩ : ∃ f, fuel = f + 1 := ⟨fuel - 1, by omega⟩
    have hkn : k < n := by omega
    have nx := ih (k + 1) f (by omega) (by omega)
    have hb : clr sd n t k < n := by have := clr_or sd n t k; omega
    rw [hX7_clearest_17, h.2.1, if_neg (nle_nI hkn (by omega)), cSt o h hkn ht hF]
    rw [clr] at nx
    generalize clr sd n t k = b at nx hb
    simp only [Option.bind_some, jX7_clearest_89, jX7_clearest_83, ltt, nI_1, rg2 h hn hkn, rg2 h hn hb, alv1 h hkn, alv1 h hb, gd, if_true, h.2.2.2.2 k 3 hkn (by decide), h.2.2.2.2 b 3 hb (by decide)]
    rw [← nx]
    simp only [fa_lt, fa_le, fa_eq _ (0 : Int32), sub3 o hkn hb, show (0 : Int32).toInt = 0 from rfl]
    unfold clb
    by_cases e : stq sd k t n 0 = (-9)
    · simp [e]
    · by_cases e1 : (sd b 3).toInt < (sd k 3).toInt
      · simp [e, e1, show 0 < (sd k 3).toInt - (sd b 3).toInt by omega]
      · by_cases e2 : (sd b 3).toInt = (sd k 3).toInt
        · by_cases e3 : (stq sd k t n 0).toInt < (stq sd b t n 0).toInt
          · simp [e, e2, e3, show ¬ (stq sd b t n 0).toInt ≤ (stq sd k t n 0).toInt by omega]
          · simp [e, e2, e3, show (stq sd b t n 0).toInt ≤ (stq sd k t n 0).toInt by omega]
        · simp [e, e1, e2, show ¬ 0 < (sd k 3).toInt - (sd b 3).toInt by omega, show ¬ (sd k 3).toInt - (sd b 3).toInt = 0 by omega]
theorem stq_self {sd : Nat → Nat → Int32} {n t : Nat} (h : 0 < n) : stq sd t t n 0 = 0 := by
  obtain ⟨m, rfl⟩ : ∃ m, n = m + 1 := ⟨n - 1, by omega⟩
  rw [stq, show chn sd t 0 = some t from rfl]
  simp
  rfl
theorem stq_0 {sd : Nat → Nat → Int32} {n k t : Nat} (hn : n ≤ 16) (h : stq sd k t n 0 = 0) : k = t := by
  cases n with
  | zero => exact absurd h (show ¬ (-9 : Int32) = 0 by decide)
  | succ m =>
    rw [stq, show chn sd k 0 = some k from rfl] at h
    simp only [reduceCtorEq, if_false, Option.some.injEq] at h
    by_cases e : k = t
    · exact e
    · rw [if_neg e] at h
      rcases stq_or sd k t m (0 + 1) with q | ⟨j, h1, h2, h3, -⟩
      · rw [q] at h; exact absurd h (by decide)
      · rw [h3] at h
        exact absurd h (nI_ne0 (by omega) (by omega))
theorem mcr {F n t : Nat} {yr : Int32} {sd : Nat → Nat → Int32} {S : vs} (o : OkS n yr sd) (h : MS n yr sd S) (ht : t < n) (hF : 100 ≤ F) : ∀ (d k fuel : Nat), k + d = n → d < fuel → hX8_clearest_19 F (nI t) fuel (nI (clr sd n t k)) (nI k) S = some (nI (clr sd n t n), S) := by
  have hn := o.1
  intro d
  induction d with
  | zero =>
    intro k fuel hk hf
    obtain ⟨f, rfl⟩ : ∃ f, fuel = f + 1 := ⟨fuel - 1, by omega⟩
    have : k = n := by omega
    subst this
    rw [hX8_clearest_19, if_pos (by rw [h.1]; exact Int32.le_refl _)]
  | succ d ih =>
    intro k fuel hk hf
    obtain ⟨f, rfl⟩ : ∃ f, fuel = f + 1 := ⟨fuel - 1, by omega⟩
    have hkn : k < n := by omega
    have nx := ih (k + 1) f (by omega) (by omega)
    have hor := clr_or sd n t k
    have hb : clr sd n t k < n := by omega
    rw [clr] at nx
    generalize clr sd n t k = b at nx hb hor
    have hk3 : S.1 (0, 24) k = sd k 3 := h.2.2.1 k 3 hkn (by decide)
    have hb3 : S.1 (0, 24) b = sd b 3 := h.2.2.1 b 3 hb (by decide)
    rw [hX8_clearest_19, if_neg (by rw [h.1]; exact nle_nI hkn (by omega)), mSt o h hkn ht hF, mSt o h hb ht hF]
    simp only [Option.bind_some, jX8_clearest_101, jX8_clearest_99, ltt, nI_1, al24, inb_nI (show k < 16 by omega) (by decide), inb_nI (show b < 16 by omega) (by decide), cl_nI (show k < 2 ^ 31 by omega), cl_nI (show b < 2 ^ 31 by omega), gd, if_true, hk3, hb3]
    rw [← nx]
    have key : stq sd k t n 0 = stq sd b t n 0 → stq sd k t n 0 ≠ (-9) → nI b ≤ nI k := fun e _ => by
      refine nI_le ?_ (by omega)
      rcases hor with hbt | hlt
      · rw [hbt, stq_self (by omega)] at e
        have := stq_0 hn e
        omega
      · omega
    unfold clb
    by_cases e : stq sd k t n 0 = (-9)
    · simp [e]
    · rw [if_neg e, if_neg e]
      by_cases e1 : sd b 3 < sd k 3
      · rw [if_pos e1, if_pos ((fa_lt _ _).mp e1)]
      · rw [if_neg e1, if_neg (fun z => e1 ((fa_lt _ _).mpr z))]
        by_cases e2 : sd k 3 = sd b 3
        · rw [if_pos e2]
          by_cases e3 : stq sd k t n 0 < stq sd b t n 0
          · rw [if_pos e3, if_pos ⟨by rw [e2], (fa_lt _ _).mp e3⟩]
          · rw [if_neg e3]
            by_cases e4 : stq sd k t n 0 = stq sd b t n 0
            · rw [if_pos e4, if_pos (key e4 e), if_neg (fun z => e3 ((fa_lt _ _).mpr z.2))]
            · rw [if_neg e4, if_neg (fun z => e3 ((fa_lt _ _).mpr z.2))]
        · rw [if_neg e2, if_neg (fun z => e2 ((fa_eq _ _).mpr z.1.symm))]
theorem pst28 (F : Nat) (hF : 100 ≤ F) : St28 F Inv := by
  intro S hI x1
  obtain ⟨n, yr, sd, oS, rS, mS⟩ := hI.s
  have hn := oS.1
  have e7 := isSide_eq (F := F) (x := x1) rS.2.1 (by omega)
  have mT : MS n yr sd (T0 S) := mS.ag (T0_ag S)
  have e8 := noSide_eq (F := F) (x := x1) mT.1 (by omega)
  by_cases c1 : wi 0 ((n : Int) - 1) x1 = true
  · obtain ⟨i, hi, rfl⟩ := wi_side c1
    have q7 := ccr (F := F) oS rS hi hF n 0 F (by omega) (by omega)
    have q8 := mcr (F := F) oS mT hi hF n 0 F (by omega) (by omega)
    rw [show clr sd n i 0 = i from rfl, nI_0] at q7 q8
    rw [stq_self (by omega)] at q7
    refine ⟨nI (clr sd n i n), T0 S, ?_, ?_, hI.ag (T0_ag S)⟩
    · simp [fX7_clearest, e7, c1, b01_ite, q7]
    · simp [fX8_clearest, stp, e8, c1, b01_ite, q8]
  · refine ⟨-1, T0 S, ?_, ?_, hI.ag (T0_ag S)⟩
    · simp [fX7_clearest, e7, c1, b01_ite]
    · simp [fX8_clearest, stp, e8, c1, b01_ite]
