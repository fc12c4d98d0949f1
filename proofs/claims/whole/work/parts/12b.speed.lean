/-! speed, quarrels -/
def spn (sg : Nat → Nat → Int32) (s : Int32) (g : Nat) (b : Int32) : Int32 := if b = (-9) then 0 else wsm sg s b g
def spd (sg : Nat → Nat → Int32) (s : Int32) (g : Nat) : Nat → Int32
  | 0 => -9
  | k + 1 => if lvs sg s k = true then (if spn sg s g (spd sg s g k) < wsm sg s (sg k 1) g then sg k 1 else if wsm sg s (sg k 1) g = spn sg s g (spd sg s g k) then (if spd sg s g k ≤ sg k 1 then spd sg s g k else sg k 1) else spd sg s g k) else spd sg s g k
theorem low_ne {g k : Nat} {sg : Nat → Nat → Int32} (o : OkG g sg) (hk : k < g) : ¬ sg k 1 = (-9) := fun e => by
  have := (o.2 k hk).1.1
  rw [e] at this
  exact absurd this (by decide)
theorem csp {F g : Nat} {sg : Nat → Nat → Int32} {S : vs} {s : Int32} (o : OkG g sg) (h : RG g sg S) (hF : 100 ≤ F) : ∀ (d k fuel : Nat), k + d = g → d < fuel → hX4_leastHeaviest_8 F S s fuel (spd sg s g k) (spn sg s g (spd sg s g k)) (nI k) = some (spd sg s g g) := by
  have hg := o.1
  intro d
  induction d with
  | zero =>
    intro k fuel hk hf
    obtain ⟨f, rfl⟩ : ∃ f, fuel = f + 1 := ⟨fuel - 1, by omega⟩
    rw [hX4_leastHeaviest_8, h.2.1]
    have : k = g := by omega
    subst this
    rw [if_pos (Int32.le_refl _)]
  | succ d ih =>
    intro k fuel hk hf
    obtain ⟨f, rfl⟩ : ∃ f, fuel = f + 1 := ⟨fuel - 1, by omega⟩
    have hkg : k < g := by omega
    have nx := ih (k + 1) f (by omega) (by omega)
    have hl := low_ne o hkg
    rw [hX4_leastHeaviest_8, h.2.1, if_neg (nle_nI hkg (by omega)), rg3 h hg hkg]
    simp only [Option.bind_some, alv2 h hkg, gd, if_true, cOf h hkg, b01_ite, jX4_leastHeaviest_79, jX4_leastHeaviest_73, ltt, nI_1, h.2.2.2 k 1 hkg (by decide), cW o h hF]
    rw [← nx]
    have e : spn sg s g (sg k 1) = wsm sg s (sg k 1) g := if_neg hl
    rw [spd]
    by_cases h1 : lvs sg s k = true
    · by_cases h2 : spn sg s g (spd sg s g k) < wsm sg s (sg k 1) g
      · simp [h1, h2, e]
      · by_cases h3 : wsm sg s (sg k 1) g = spn sg s g (spd sg s g k)
        · by_cases h4 : spd sg s g k ≤ sg k 1
          · simp [h1, h2, h3, h4]
          · simp [h1, h3, h4, e]
        · simp [h1, h2, h3]
    · simp [h1]
theorem cSpd {F g : Nat} {sg : Nat → Nat → Int32} {S : vs} {s : Int32} (o : OkG g sg) (h : RG g sg S) (hF : 100 ≤ F) : fX4_leastHeaviest F s S = some (spd sg s g g) := csp o h hF g 0 F (by omega) (by have := o.1; omega)
theorem msp {F g : Nat} {sg : Nat → Nat → Int32} {S : vs} {s : Int32} (o : OkG g sg) (h : MG g sg S) (hF : 100 ≤ F) : ∀ (d k fuel : Nat), k + d = g → d < fuel → hX8_speedOf_5 F S s fuel (spd sg s g k) (nI k) = some (spd sg s g g) := by
  have hg := o.1
  intro d
  induction d with
  | zero =>
    intro k fuel hk hf
    obtain ⟨f, rfl⟩ : ∃ f, fuel = f + 1 := ⟨fuel - 1, by omega⟩
    rw [hX8_speedOf_5, h.1]
    have : k = g := by omega
    subst this
    rw [if_pos (Int32.le_refl _)]
  | succ d ih =>
    intro k fuel hk hf
    obtain ⟨f, rfl⟩ : ∃ f, fuel = f + 1 := ⟨fuel - 1, by omega⟩
    have hkg : k < g := by omega
    have nx := ih (k + 1) f (by omega) (by omega)
    have hin : inb (nI k) 60 = true := inb_nI (by omega) (by decide)
    have hcl : (nI k).toNatClampNeg = k := cl_nI (by omega)
    have h35 : S.1 (0, 35) k = sg k 1 := h.2.1 k 1 hkg (by decide)
    rw [hX8_speedOf_5, h.1, if_neg (nle_nI hkg (by omega)), mOf o h hkg]
    simp only [Option.bind_some, al35, hin, hcl, h35, gd, if_true, b01_ite, jX8_speedOf_88, jX8_speedOf_87, jX8_speedOf_77, jX8_speedOf_86, jX8_speedOf_51, ltt, nI_1, mW o h hF]
    rw [← nx, spd]
    generalize spd sg s g k = b
    unfold spn
    by_cases h1 : lvs sg s k = true
    · by_cases h0 : b = (-9)
      · subst h0
        by_cases h2 : 0 < wsm sg s (sg k 1) g
        · simp [h1, h2]
        · by_cases h3 : wsm sg s (sg k 1) g = 0
          · by_cases h4 : (-9) ≤ sg k 1 <;> simp [h1, h3, h4]
          · simp [h1, h2, h3]
      · by_cases h2 : wsm sg s b g < wsm sg s (sg k 1) g
        · simp [h1, h0, h2]
        · by_cases h3 : wsm sg s (sg k 1) g = wsm sg s b g
          · by_cases h4 : b ≤ sg k 1 <;> simp [h1, h0, h3, h4]
          · simp [h1, h0, h2, h3]
    · simp [h1]
theorem mSpd {F g : Nat} {sg : Nat → Nat → Int32} {S : vs} {s : Int32} (o : OkG g sg) (h : MG g sg S) (hF : 100 ≤ F) : fX8_speedOf F s S = some (spd sg s g g) := msp o h hF g 0 F (by omega) (by have := o.1; omega)
theorem pst10 (F : Nat) (hF : 100 ≤ F) : St10 F Inv := by
  intro S hI x1
  obtain ⟨n, yr, sd, oS, rS, mS⟩ := hI.s
  obtain ⟨g, sg, oG, rG, mG⟩ := hI.g
  have hn := oS.1
  have e7 := isSide_eq (F := F) (x := x1) rS.2.1 (by omega)
  have mT : MS n yr sd (T0 S) := mS.ag (T0_ag S)
  have mGT : MG g sg (T0 S) := mG.ag (T0_ag S)
  have e8 := noSide_eq (F := F) (x := x1) mT.1 (by omega)
  by_cases c1 : wi 0 ((n : Int) - 1) x1 = true
  · refine ⟨spd sg x1 g g, T0 S, ?_, ?_, hI.ag (T0_ag S)⟩
    · simp [fX7_speed, e7, c1, b01_ite, cSpd oG rG hF]
    · simp [fX8_speed, stp, e8, c1, b01_ite, mSpd oG mGT hF]
  · refine ⟨-1, T0 S, ?_, ?_, hI.ag (T0_ag S)⟩
    · simp [fX7_speed, e7, c1, b01_ite]
    · simp [fX8_speed, stp, e8, c1, b01_ite]
-- quarrels
def qrl (sg : Nat → Nat → Int32) (s : Int32) (a b : Nat) : Bool := lvs sg s a && lvs sg s b && (decide ((sg a 2).toInt < (sg b 1).toInt) || decide ((sg b 2).toInt < (sg a 1).toInt))
def qri (sg : Nat → Nat → Int32) (s : Int32) (a : Nat) : Nat → Int32 → Int32
  | 0, x => x
  | b + 1, x => qri sg s a b x + (if qrl sg s a b = true then 1 else 0)
def qro (sg : Nat → Nat → Int32) (s : Int32) : Nat → Int32
  | 0 => 0
  | a + 1 => qri sg s a a (qro sg s a)
theorem qri_no {sg : Nat → Nat → Int32} {s : Int32} {a : Nat} (h : ¬ lvs sg s a = true) (x : Int32) : ∀ b, qri sg s a b x = x
  | 0 => rfl
  | b + 1 => by
    rw [qri, qri_no h x b, if_neg (by unfold qrl; simp [h])]
    simp
theorem cqi {F g a : Nat} {sg : Nat → Nat → Int32} {S : vs} {s x : Int32} (o : OkG g sg) (h : RG g sg S) (ha : a < g) (kk : Int32 → Int32 → Option Int32) : ∀ (d b fuel : Nat), b + d = a → d < fuel → hX4_pairsApart_15 kk F S s (nI a) fuel (qri sg s a b x) (nI b) = kk (qri sg s a a x) (nI (a + 1)) := by
  have hg := o.1
  intro d
  induction d with
  | zero =>
    intro b fuel hb hf
    obtain ⟨f, rfl⟩ : ∃ f, fuel = f + 1 := ⟨fuel - 1, by omega⟩
    have : b = a := by omega
    subst this
    rw [hX4_pairsApart_15, if_pos (Int32.le_refl _)]
    simp only [jX4_pairsApart_76, ltt, nI_1]
  | succ d ih =>
    intro b fuel hb hf
    obtain ⟨f, rfl⟩ : ∃ f, fuel = f + 1 := ⟨fuel - 1, by omega⟩
    have hba : b < a := by omega
    have nx := ih (b + 1) f (by omega) (by omega)
    rw [hX4_pairsApart_15, if_neg (nle_nI hba (by omega)), rg3 h hg ha]
    simp only [Option.bind_some, alv2 h ha, gd, if_true, cOf h ha, b01_ite, jX4_pairsApart_76, ltt, nI_1]
    by_cases h1 : lvs sg s a = true
    · rw [if_pos h1, rg3 h hg (show b < g by omega)]
      simp only [Option.bind_some, alv2 h (show b < g by omega), gd, if_true, cOf h (show b < g by omega), b01_ite, jX4_pairsApart_70, ltt, nI_1, fX3_isApartFrom, alv2 h ha, jX3_isApartFrom_22, h.2.2.2 a 1 ha (by decide), h.2.2.2 a 2 ha (by decide), h.2.2.2 b 1 (show b < g by omega) (by decide), h.2.2.2 b 2 (show b < g by omega) (by decide)]
      rw [← nx, qri]
      unfold qrl
      simp only [fa_lt, fa_le]
      by_cases h2 : lvs sg s b = true
      · by_cases h3 : (sg a 2).toInt < (sg b 1).toInt
        · simp [h1, h2, h3]
        · by_cases h4 : (sg a 1).toInt ≤ (sg b 2).toInt
          · simp [h1, h2, h3, h4, show ¬ (sg b 2).toInt < (sg a 1).toInt by omega]
          · simp [h1, h2, h3, h4, show (sg b 2).toInt < (sg a 1).toInt by omega]
      · simp [h1, h2]
    · rw [if_neg h1, qri_no h1, qri_no h1]
theorem cqo {F g : Nat} {sg : Nat → Nat → Int32} {S : vs} {s : Int32} (o : OkG g sg) (h : RG g sg S) (hF : 100 ≤ F) : ∀ (d a fuel : Nat), a + d = g → d < fuel → hX4_pairsApart_4 F S s fuel (qro sg s a) (nI a) = some (qro sg s g) := by
  have hg := o.1
  intro d
  induction d with
  | zero =>
    intro k fuel hk hf
    obtain ⟨f, rfl⟩ : ∃ f, fuel = f + 1 := ⟨fuel - 1, by omega⟩
    rw [hX4_pairsApart_4, h.2.1]
    have : k = g := by omega
    subst this
    rw [if_pos (Int32.le_refl _)]
  | succ d ih =>
    intro k fuel hk hf
    obtain ⟨f, rfl⟩ : ∃ f, fuel = f + 1 := ⟨fuel - 1, by omega⟩
    have hkg : k < g := by omega
    have nx := ih (k + 1) f (by omega) (by omega)
    rw [hX4_pairsApart_4, h.2.1, if_neg (nle_nI hkg (by omega))]
    have := cqi (F := F) (s := s) (x := qro sg s k) o h hkg (hX4_pairsApart_4 F S s f) k 0 F (by omega) (by omega)
    rw [show qri sg s k 0 (qro sg s k) = qro sg s k from rfl] at this
    rw [show (0 : Int32) = nI 0 from rfl, this]
    exact nx
theorem mqi {F g a : Nat} {sg : Nat → Nat → Int32} {S : vs} {s x : Int32} (o : OkG g sg) (h : MG g sg S) (ha : a < g) (kk : Int32 → Int32 → vs → Option (Int32 × vs)) : ∀ (d b fuel : Nat), b + d = a → d < fuel → hX8_quarrels_30 kk F s (nI a) fuel (qri sg s a b x) (nI b) S = kk (qri sg s a a x) (nI (a + 1)) S := by
  have hg := o.1
  intro d
  induction d with
  | zero =>
    intro b fuel hb hf
    obtain ⟨f, rfl⟩ : ∃ f, fuel = f + 1 := ⟨fuel - 1, by omega⟩
    have : b = a := by omega
    subst this
    rw [hX8_quarrels_30, if_pos (Int32.le_refl _)]
    simp only [ltt, nI_1]
  | succ d ih =>
    intro b fuel hb hf
    obtain ⟨f, rfl⟩ : ∃ f, fuel = f + 1 := ⟨fuel - 1, by omega⟩
    have hba : b < a := by omega
    have hbg : b < g := by omega
    have nx := ih (b + 1) f (by omega) (by omega)
    have hina : inb (nI a) 60 = true := inb_nI (by omega) (by decide)
    have hcla : (nI a).toNatClampNeg = a := cl_nI (by omega)
    have hinb : inb (nI b) 60 = true := inb_nI (by omega) (by decide)
    have hclb : (nI b).toNatClampNeg = b := cl_nI (by omega)
    have a1 : S.1 (0, 35) a = sg a 1 := h.2.1 a 1 ha (by decide)
    have a2 : S.1 (0, 36) a = sg a 2 := h.2.1 a 2 ha (by decide)
    have b1 : S.1 (0, 35) b = sg b 1 := h.2.1 b 1 hbg (by decide)
    have b2 : S.1 (0, 36) b = sg b 2 := h.2.1 b 2 hbg (by decide)
    rw [hX8_quarrels_30, if_neg (nle_nI hba (by omega)), mOf o h ha]
    simp only [Option.bind_some, gd, if_true, mOf o h hbg, b01_ite, jX8_quarrels_92, jX8_quarrels_88, jX8_quarrels_93, ltt, nI_1, al35, al36, hina, hcla, hinb, hclb, a1, a2, b1, b2]
    rw [← nx, qri]
    unfold qrl
    simp only [fa_lt, fa_le]
    by_cases h1 : lvs sg s a = true
    · by_cases h2 : lvs sg s b = true
      · by_cases h3 : (sg a 2).toInt < (sg b 1).toInt
        · simp [h1, h2, h3]
        · by_cases h4 : (sg a 1).toInt ≤ (sg b 2).toInt
          · simp [h1, h2, h3, h4, show ¬ (sg b 2).toInt < (sg a 1).toInt by omega]
          · simp [h1, h2, h3, h4, show (sg b 2).toInt < (sg a 1).toInt by omega]
      · simp [h1, h2]
    · simp [h1]
theorem mqo {F g : Nat} {sg : Nat → Nat → Int32} {S : vs} {s : Int32} (o : OkG g sg) (h : MG g sg S) (hF : 100 ≤ F) : ∀ (d a fuel : Nat), a + d = g → d < fuel → hX8_quarrels_19 F s fuel (qro sg s a) (nI a) S = some (qro sg s g, S) := by
  have hg := o.1
  intro d
  induction d with
  | zero =>
    intro k fuel hk hf
    obtain ⟨f, rfl⟩ : ∃ f, fuel = f + 1 := ⟨fuel - 1, by omega⟩
    rw [hX8_quarrels_19, h.1]
    have : k = g := by omega
    subst this
    rw [if_pos (Int32.le_refl _)]
  | succ d ih =>
    intro k fuel hk hf
    obtain ⟨f, rfl⟩ : ∃ f, fuel = f + 1 := ⟨fuel - 1, by omega⟩
    have hkg : k < g := by omega
    have nx := ih (k + 1) f (by omega) (by omega)
    rw [hX8_quarrels_19, h.1, if_neg (nle_nI hkg (by omega))]
    have := mqi (F := F) (s := s) (x := qro sg s k) o h hkg (hX8_quarrels_19 F s f) k 0 F (by omega) (by omega)
    rw [show qri sg s k 0 (qro sg s k) = qro sg s k from rfl] at this
    rw [show (0 : Int32) = nI 0 from rfl, this]
    exact nx
theorem pst13 (F : Nat) (hF : 100 ≤ F) : St13 F Inv := by
  intro S hI x1
  obtain ⟨n, yr, sd, oS, rS, mS⟩ := hI.s
  obtain ⟨g, sg, oG, rG, mG⟩ := hI.g
  have hn := oS.1
  have e7 := isSide_eq (F := F) (x := x1) rS.2.1 (by omega)
  have mT : MS n yr sd (T0 S) := mS.ag (T0_ag S)
  have mGT : MG g sg (T0 S) := mG.ag (T0_ag S)
  have e8 := noSide_eq (F := F) (x := x1) mT.1 (by omega)
  have q7 := cqo (F := F) (s := x1) oG rG hF g 0 F (by omega) (by have := oG.1; omega)
  have q8 := mqo (F := F) (s := x1) oG mGT hF g 0 F (by omega) (by have := oG.1; omega)
  rw [show qro sg x1 0 = 0 from rfl, nI_0] at q7 q8
  by_cases c1 : wi 0 ((n : Int) - 1) x1 = true
  · refine ⟨qro sg x1 g, T0 S, ?_, ?_, hI.ag (T0_ag S)⟩
    · simp [fX7_quarrels, fX4_pairsApart, e7, c1, b01_ite, q7]
    · simp [fX8_quarrels, stp, e8, c1, b01_ite, q8]
  · refine ⟨-1, T0 S, ?_, ?_, hI.ag (T0_ag S)⟩
    · simp [fX7_quarrels, e7, c1, b01_ite]
    · simp [fX8_quarrels, stp, e8, c1, b01_ite]
