/-! SIGNS -/
theorem Inv.signs {S : vs} {g : Nat} {sg : Nat → Nat → Int32} (a : OkG g sg) (b : RG g sg S) (c : MG g sg S) (d : I3g S) : Inv S := Inv.of d.1 ⟨g, sg, a, b, c⟩ d.2.1 d.2.2
theorem RG.put {g : Nat} {sg : Nat → Nat → Int32} {S : vs} {i j : Nat} {x : Int32} (h : RG g sg S) : RG g (up2 sg i j x) (s2 S (2, i) j x) := by
  obtain ⟨a, b, c, d⟩ := h
  refine ⟨a, ?_, c, fun i' j' hi hj => ?_⟩
  · rw [s2_at, if_neg (fun q => by have := q.1; simp at this)]; exact b
  · rw [s2_at]
    unfold up2
    by_cases q : i' = i ∧ j' = j
    · rw [if_pos q, if_pos ⟨by rw [q.1], q.2⟩]
    · rw [if_neg q, if_neg (fun z => q ⟨by have := z.1; simp at this; exact this, z.2⟩)]
      exact d i' j' hi hj
theorem k3g_T0 : sok (0, 1) 0 ∧ pok (0, 1) 0 ∧ tok (0, 1) 0 := by simp [sok, pok, tok]
theorem k3g_sign (i j : Nat) : sok (2, i) j ∧ pok (2, i) j ∧ tok (2, i) j := by simp [sok, pok, tok]
theorem k3g_ms {a : Nat} (j : Nat) (h : 34 ≤ a ∧ a ≤ 38) : sok (0, a) j ∧ pok (0, a) j ∧ tok (0, a) j := by
  refine ⟨⟨⟨by simp, fun q => by simp at q; omega⟩, fun _ => by simp; omega, fun q => by simp at q; omega⟩, ⟨⟨fun q => by simp at q; omega, fun q => by simp at q; omega, fun q => by simp at q; omega⟩, fun q => by simp at q; omega, fun q => by simp at q; omega, fun q => by simp at q; omega⟩, ⟨by simp, fun q => by simp at q; omega⟩, fun _ => by simp; omega, fun q => by simp at q; omega⟩
set_option maxHeartbeats 2000000 in
theorem pst9 (F : Nat) : St9 F Inv := by
  intro S hI x1
  obtain ⟨g, sg, oG, rG, mG⟩ := hI.g
  have hg := oG.1
  have e7 := has_eq (F := F) (x := x1) rG.2.1 (by omega)
  by_cases c1 : wi 0 ((g : Int) - 1) x1 = true
  · obtain ⟨i, hi, rfl⟩ := wi_side c1
    have r1 : RG g (up2 sg i 4 0) (s2 S (2, i) 4 0) := rG.put
    have s4 : S.1 (2, i) 4 = sg i 4 := rG.2.2.2 i 4 hi (by decide)
    have m1 : MG g sg (s2 S (2, i) 4 0) := mG.fr (by simp) (by simp)
    have m2 : MG g sg (T0 (s2 S (2, i) 4 0)) := m1.fr (by simp) (by simp)
    have i3 := ((hI.i3g).fr (x := 0) (k3g_sign i 4)).fr (x := 0) k3g_T0
    have e8 : fX8_in F (nI i).toInt64 0 (((T0 (s2 S (2, i) 4 0)).1 (0, 1) 14 - 1).toInt64) (T0 (s2 S (2, i) 4 0)) = some (b01 (wi 0 ((g : Int) - 1) (nI i))) := in_eq 0 ((g : Int) - 1) rfl (by rw [m2.1]; exact nI_m1 (by omega))
    have h38 : (T0 (s2 S (2, i) 4 0)).1 (0, 38) i = 1 - sg i 4 := m2.2.2.1 i hi
    have hin : inb (nI i) 60 = true := inb_nI (by omega) (by decide)
    have hcl : (nI i).toNatClampNeg = i := cl_nI (by omega)
    have ok' : OkG g (up2 sg i 4 0) := ⟨hg, fun q hq => by
      obtain ⟨a1, a2, a3, a4, a5⟩ := oG.2 q hq
      rw [up2_j sg 0 (show (1 : Nat) ≠ 4 by decide), up2_j sg 0 (show (2 : Nat) ≠ 4 by decide), up2_j sg 0 (show (3 : Nat) ≠ 4 by decide)]
      refine ⟨a1, a2, a3, a4, ?_⟩
      by_cases e : q = i
      · rw [e, up2_s]; exact Or.inl rfl
      · rw [up2_i sg 0 e]; exact a5⟩
    rcases (oG.2 i hi).2.2.2.2 with c2 | c2
    · refine ⟨-3, s2 S (2, i) 4 0, T0 (s2 S (2, i) 4 0), ?_, ?_, ?_⟩
      · simp [fX7_drop, fX4_takeOut, ltt, stp, e7, c1, b01_ite, rg3 rG hg hi, gd, alv2 rG hi, s4, c2, show zb 0 = true from rfl]
      · simp [fX8_drop, stp, e8, c1, b01_ite, gd, al38, hin, hcl, h38, c2]
      · refine Inv.signs ok' (r1.fr (by simp) (by simp)) ⟨m2.1, fun q j hq hj => ?_, fun q hq => ?_, m2.2.2.2⟩ i3
        · rw [up2_j sg 0 (by omega)]; exact m2.2.1 q j hq hj
        · by_cases e : q = i
          · subst e; rw [up2_s, h38, c2]
          · rw [up2_i sg 0 e]; exact m2.2.2.1 q hq
    · refine ⟨1, s2 S (2, i) 4 0, s2 (T0 (s2 S (2, i) 4 0)) (0, 38) i 1, ?_, ?_, ?_⟩
      · simp [fX7_drop, fX4_takeOut, ltt, stp, e7, c1, b01_ite, rg3 rG hg hi, gd, alv2 rG hi, s4, c2, show zb 1 = true from rfl]
      · simp [fX8_drop, stp, e8, c1, b01_ite, gd, al38, hin, hcl, h38, c2]
      · refine Inv.signs ok' ((r1.fr (by simp) (by simp)).fr (by simp) (by simp)) ⟨?_, fun q j hq hj => ?_, fun q hq => ?_, fun q hq => ?_⟩ (i3.fr (k3g_ms _ (by decide)))
        · rw [s2_at, if_neg (by simp)]; exact m2.1
        · rw [up2_j sg 0 (by omega), s2_at, if_neg (fun z => by have := z.1; simp at this; omega)]; exact m2.2.1 q j hq hj
        · by_cases e : q = i
          · subst e; rw [up2_s, s2_at, if_pos ⟨rfl, rfl⟩]; rfl
          · rw [up2_i sg 0 e, s2_at, if_neg (fun z => e z.2)]; exact m2.2.2.1 q hq
        · rw [s2_at, if_neg (fun z => by have := z.2; omega)]; exact m2.2.2.2 q hq
  · have mT : MG g sg (T0 S) := mG.ag (T0_ag S)
    have e8 : fX8_in F x1.toInt64 0 (((T0 S).1 (0, 1) 14 - 1).toInt64) (T0 S) = some (b01 (wi 0 ((g : Int) - 1) x1)) := in_eq 0 ((g : Int) - 1) rfl (by rw [mT.1]; exact nI_m1 (by omega))
    refine ⟨-1, S, T0 S, ?_, ?_, hI.ag (T0_ag S)⟩
    · simp [fX7_drop, e7, c1, b01_ite]
    · simp [fX8_drop, stp, e8, c1, b01_ite]
-- what the signs weigh
def lvs (sg : Nat → Nat → Int32) (s : Int32) (q : Nat) : Bool := decide (¬ sg q 4 = 0) && decide (sg q 0 = s)
def hld (sg : Nat → Nat → Int32) (s v : Int32) (q : Nat) : Bool := lvs sg s q && wi (sg q 1).toInt (sg q 2).toInt v
def wsm (sg : Nat → Nat → Int32) (s v : Int32) : Nat → Int32
  | 0 => 0
  | k + 1 => wsm sg s v k + (if hld sg s v k = true then sg k 3 else 0)
theorem cOf {F g q : Nat} {sg : Nat → Nat → Int32} {S : vs} {s : Int32} (h : RG g sg S) (hq : q < g) : fX3_isOf F q s S = some (b01 (lvs sg s q)) := by
  unfold fX3_isOf
  rw [h.2.2.2 q 4 hq (by decide), h.2.2.2 q 0 hq (by decide), alv2 h hq]
  unfold lvs b01 gd
  by_cases h1 : sg q 4 = 0 <;> by_cases h2 : sg q 0 = s <;> simp [h1, h2]
theorem mOf {F g q : Nat} {sg : Nat → Nat → Int32} {S : vs} {s : Int32} (o : OkG g sg) (h : MG g sg S) (hq : q < g) : fX8_isOf F (nI q) s S = some (b01 (lvs sg s q)) := by
  have hin : inb (nI q) 60 = true := inb_nI (by have := o.1; omega) (by decide)
  have hcl : (nI q).toNatClampNeg = q := cl_nI (by have := o.1; omega)
  have h34 : S.1 (0, 34) q = sg q 0 := h.2.1 q 0 hq (by decide)
  unfold fX8_isOf
  simp only [al34, al38, hin, hcl, gd, if_true, h34, h.2.2.1 q hq]
  unfold lvs b01
  rcases (o.2 q hq).2.2.2.2 with h1 | h1 <;> by_cases h2 : sg q 0 = s <;> simp [h1, h2]
theorem nle_nI {a b : Nat} (h : a < b) (hb : b < 2 ^ 31) : ¬ nI b ≤ nI a := nI_ge h hb
theorem cwt {F g : Nat} {sg : Nat → Nat → Int32} {S : vs} {s v : Int32} (o : OkG g sg) (h : RG g sg S) : ∀ (d k fuel : Nat), k + d = g → d < fuel → hX4_weightAt_5 F S s v fuel (wsm sg s v k) (nI k) = some (wsm sg s v g) := by
  have hg := o.1
  intro d
  induction d with
  | zero =>
    intro k fuel hk hf
    obtain ⟨f, rfl⟩ : ∃ f, fuel = f + 1 := ⟨fuel - 1, by omega⟩
    rw [hX4_weightAt_5, h.2.1]
    have : k = g := by omega
    subst this
    rw [if_pos (Int32.le_refl _)]
  | succ d ih =>
    intro k fuel hk hf
    obtain ⟨f, rfl⟩ : ∃ f, fuel = f + 1 := ⟨fuel - 1, by omega⟩
    have hkg : k < g := by omega
    have nx := ih (k + 1) f (by omega) (by omega)
    rw [hX4_weightAt_5, h.2.1, if_neg (nle_nI hkg (by omega)), rg3 h hg hkg]
    simp only [Option.bind_some, alv2 h hkg, gd, if_true, cOf h hkg, b01_ite, jX4_weightAt_58, ltt, nI_1, h.2.2.2 k 1 hkg (by decide), h.2.2.2 k 2 hkg (by decide), h.2.2.2 k 3 hkg (by decide)]
    rw [← nx, wsm]
    unfold hld wi
    simp only [fa_lt]
    by_cases h1 : lvs sg s k = true
    · by_cases h2 : v.toInt < (sg k 1).toInt
      · simp [h1, h2, show ¬ (sg k 1).toInt ≤ v.toInt by omega]
      · by_cases h3 : (sg k 2).toInt < v.toInt
        · simp [h1, h2, h3, show ¬ v.toInt ≤ (sg k 2).toInt by omega]
        · simp [h1, h2, h3, show (sg k 1).toInt ≤ v.toInt by omega, show v.toInt ≤ (sg k 2).toInt by omega]
    · simp [h1]
theorem cW {F g : Nat} {sg : Nat → Nat → Int32} {S : vs} {s v : Int32} (o : OkG g sg) (h : RG g sg S) (hF : 100 ≤ F) : fX4_weightAt F s v S = some (wsm sg s v g) := cwt o h g 0 F (by omega) (by have := o.1; omega)
theorem mwt {F g : Nat} {sg : Nat → Nat → Int32} {S : vs} {s v : Int32} (o : OkG g sg) (h : MG g sg S) : ∀ (d k fuel : Nat), k + d = g → d < fuel → hX8_weighsOf_5 F S s v fuel (wsm sg s v k) (nI k) = some (wsm sg s v g) := by
  have hg := o.1
  intro d
  induction d with
  | zero =>
    intro k fuel hk hf
    obtain ⟨f, rfl⟩ : ∃ f, fuel = f + 1 := ⟨fuel - 1, by omega⟩
    rw [hX8_weighsOf_5, h.1]
    have : k = g := by omega
    subst this
    rw [if_pos (Int32.le_refl _)]
  | succ d ih =>
    intro k fuel hk hf
    obtain ⟨f, rfl⟩ : ∃ f, fuel = f + 1 := ⟨fuel - 1, by omega⟩
    have hkg : k < g := by omega
    have nx := ih (k + 1) f (by omega) (by omega)
    have hin : inb (nI k) 60 = true := inb_nI (by omega) (by decide)
    have hcl : (nI k).toNatClampNeg = k := cl_nI (by omega)
    have h35 : S.1 (0, 35) k = sg k 1 := h.2.1 k 1 hkg (by decide)
    have h36 : S.1 (0, 36) k = sg k 2 := h.2.1 k 2 hkg (by decide)
    have h37 : S.1 (0, 37) k = sg k 3 := h.2.1 k 3 hkg (by decide)
    rw [hX8_weighsOf_5, h.1, if_neg (nle_nI hkg (by omega)), mOf o h hkg]
    simp only [Option.bind_some, al35, al36, al37, hin, hcl, h35, h36, h37, gd, if_true, b01_ite, jX8_weighsOf_59, jX8_weighsOf_60, ltt, nI_1, in_eq (sg k 1).toInt (sg k 2).toInt (Int32.toInt_toInt64 _) (Int32.toInt_toInt64 _)]
    rw [← nx, wsm]
    unfold hld
    by_cases h1 : lvs sg s k = true <;> by_cases h2 : wi (sg k 1).toInt (sg k 2).toInt v = true <;> simp [h1, h2]
theorem mW {F g : Nat} {sg : Nat → Nat → Int32} {S : vs} {s v : Int32} (o : OkG g sg) (h : MG g sg S) (hF : 100 ≤ F) : fX8_weighsOf F s v S = some (wsm sg s v g) := mwt o h g 0 F (by omega) (by have := o.1; omega)
theorem pst12 (F : Nat) (hF : 100 ≤ F) : St12 F Inv := by
  intro S hI x1 x2
  obtain ⟨n, yr, sd, oS, rS, mS⟩ := hI.s
  obtain ⟨g, sg, oG, rG, mG⟩ := hI.g
  have hn := oS.1
  have e7 := isSide_eq (F := F) (x := x1) rS.2.1 (by omega)
  have mT : MS n yr sd (T0 S) := mS.ag (T0_ag S)
  have mGT : MG g sg (T0 S) := mG.ag (T0_ag S)
  have e8 := noSide_eq (F := F) (x := x1) mT.1 (by omega)
  by_cases c1 : wi 0 ((n : Int) - 1) x1 = true
  · by_cases c2 : wi 1 30000 x2 = true
    · refine ⟨wsm sg x1 x2 g, T0 S, ?_, ?_, hI.ag (T0_ag S)⟩
      · simp [fX7_weighs, e7, w1_30000, c1, c2, b01_ite, cW oG rG hF]
      · simp [fX8_weighs, stp, e8, i1_30000, c1, c2, b01_ite, mW oG mGT hF]
    · refine ⟨-2, T0 S, ?_, ?_, hI.ag (T0_ag S)⟩
      · simp [fX7_weighs, e7, w1_30000, c1, c2, b01_ite]
      · simp [fX8_weighs, stp, e8, i1_30000, c1, c2, b01_ite]
  · refine ⟨-1, T0 S, ?_, ?_, hI.ag (T0_ag S)⟩
    · simp [fX7_weighs, e7, c1, b01_ite]
    · simp [fX8_weighs, stp, e8, c1, b01_ite]
