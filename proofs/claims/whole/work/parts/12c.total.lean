/-! total, pass -/
def lct (sg : Nat → Nat → Int32) : Nat → Int32
  | 0 => 0
  | k + 1 => lct sg k + (if sg k 4 = 0 then 0 else 1)
def asm (sd : Nat → Nat → Int32) : Nat → Int32
  | 0 => 0
  | k + 1 => asm sd k + sd k 3
theorem ccl {F g : Nat} {sg : Nat → Nat → Int32} {S : vs} (o : OkG g sg) (h : RG g sg S) : ∀ (d k fuel : Nat), k + d = g → d < fuel → hX4_countLive_4 F S fuel (lct sg k) (nI k) = some (lct sg g) := by
  have hg := o.1
  intro d
  induction d with
  | zero =>
    intro k fuel hk hf
    obtain ⟨f, rfl⟩ : ∃ f, fuel = f + 1 := ⟨fuel - 1, by omega⟩
    rw [hX4_countLive_4, h.2.1]
    have : k = g := by omega
    subst this
    rw [if_pos (Int32.le_refl _)]
  | succ d ih =>
    intro k fuel hk hf
    obtain ⟨f, rfl⟩ : ∃ f, fuel = f + 1 := ⟨fuel - 1, by omega⟩
    have hkg : k < g := by omega
    have nx := ih (k + 1) f (by omega) (by omega)
    rw [hX4_countLive_4, h.2.1, if_neg (nle_nI hkg (by omega)), rg3 h hg hkg]
    simp only [Option.bind_some, alv2 h hkg, gd, if_true, jX4_countLive_27, ltt, nI_1, h.2.2.2 k 4 hkg (by decide)]
    rw [← nx, lct]
    by_cases h1 : sg k 4 = 0 <;> simp [h1]
theorem cas {F n : Nat} {yr : Int32} {sd : Nat → Nat → Int32} {S : vs} (hn : n ≤ 16) (h : RS n yr sd S) : ∀ (d k fuel : Nat), k + d = n → d < fuel → hX7_allSound_4 F S fuel (asm sd k) (nI k) = some (asm sd n) := by
  intro d
  induction d with
  | zero =>
    intro k fuel hk hf
    obtain ⟨f, rfl⟩ : ∃ f, fuel = f + 1 := ⟨fuel - 1, by omega⟩
    rw [hX7_allSound_4, h.2.1]
    have : k = n := by omega
    subst this
    rw [if_pos (Int32.le_refl _)]
  | succ d ih =>
    intro k fuel hk hf
    obtain ⟨f, rfl⟩ : ∃ f, fuel = f + 1 := ⟨fuel - 1, by omega⟩
    have hkn : k < n := by omega
    have nx := ih (k + 1) f (by omega) (by omega)
    rw [hX7_allSound_4, h.2.1, if_neg (nle_nI hkn (by omega)), rg2 h hn hkn]
    simp only [Option.bind_some, alv1 h hkn, gd, if_true, ltt, nI_1, h.2.2.2.2 k 3 hkn (by decide)]
    rw [← nx, asm]
theorem mas {F n : Nat} {yr x1 x2 : Int32} {sd : Nat → Nat → Int32} {S : vs} (hn : n ≤ 16) (h : MS n yr sd S) : ∀ (d k fuel : Nat), k + d = n → d < fuel → hX8_total_48 F x1 x2 fuel (asm sd k) (nI k) S = some ((if x1 = 0 then S.1 (0, 1) 1 else if x1 = 1 then S.1 (0, 1) 2 else if x1 = 2 then x2 else if x1 = 3 then S.1 (0, 1) 20 else if x1 = 4 then S.1 (0, 1) 24 else if x1 = 5 then asm sd n else -2), S) := by
  intro d
  induction d with
  | zero =>
    intro k fuel hk hf
    obtain ⟨f, rfl⟩ : ∃ f, fuel = f + 1 := ⟨fuel - 1, by omega⟩
    rw [hX8_total_48]
    have : k = n := by omega
    subst this
    rw [if_pos (by rw [h.1]; exact Int32.le_refl _)]
    repeat' split
    all_goals rfl
  | succ d ih =>
    intro k fuel hk hf
    obtain ⟨f, rfl⟩ : ∃ f, fuel = f + 1 := ⟨fuel - 1, by omega⟩
    have hkn : k < n := by omega
    have nx := ih (k + 1) f (by omega) (by omega)
    have hin : inb (nI k) 16 = true := inb_nI (by omega) (by decide)
    have hcl : (nI k).toNatClampNeg = k := cl_nI (by omega)
    have h24 : S.1 (0, 24) k = sd k 3 := h.2.2.1 k 3 hkn (by decide)
    rw [hX8_total_48, if_neg (by rw [h.1]; exact nle_nI hkn (by omega))]
    simp only [al24, hin, hcl, gd, if_true, ltt, nI_1, h24]
    rw [← nx, asm]
theorem mcl {F g : Nat} {x1 x3 : Int32} {sg : Nat → Nat → Int32} {S : vs} (o : OkG g sg) (h : MG g sg S) : ∀ (d k fuel : Nat), k + d = g → d < fuel → hX8_total_12 F x1 x3 fuel (lct sg k) (nI k) S = hX8_total_48 F x1 (lct sg g) F x3 0 S := by
  have hg := o.1
  intro d
  induction d with
  | zero =>
    intro k fuel hk hf
    obtain ⟨f, rfl⟩ : ∃ f, fuel = f + 1 := ⟨fuel - 1, by omega⟩
    rw [hX8_total_12]
    have : k = g := by omega
    subst this
    rw [if_pos (by rw [h.1]; exact Int32.le_refl _)]
  | succ d ih =>
    intro k fuel hk hf
    obtain ⟨f, rfl⟩ : ∃ f, fuel = f + 1 := ⟨fuel - 1, by omega⟩
    have hkg : k < g := by omega
    have nx := ih (k + 1) f (by omega) (by omega)
    have hin : inb (nI k) 60 = true := inb_nI (by omega) (by decide)
    have hcl : (nI k).toNatClampNeg = k := cl_nI (by omega)
    rw [hX8_total_12, if_neg (by rw [h.1]; exact nle_nI hkg (by omega))]
    simp only [al38, hin, hcl, gd, if_true, jX8_total_37, ltt, nI_1, h.2.2.1 k hkg]
    rw [← nx, lct]
    rcases (o.2 k hkg).2.2.2.2 with h1 | h1 <;> simp [h1]
theorem pst29 (F : Nat) (hF : 100 ≤ F) : St29 F Inv := by
  intro S hI x1
  obtain ⟨n, yr, sd, oS, rS, mS⟩ := hI.s
  obtain ⟨g, sg, oG, rG, mG⟩ := hI.g
  obtain ⟨pc, tol, pp, oP, rP, mP⟩ := hI.p
  obtain ⟨tc, tx, pm, oT, rT, mT⟩ := hI.t
  have hn := oS.1
  have hg := oG.1
  have mS' : MS n yr sd (T0 S) := mS.ag (T0_ag S)
  have mG' : MG g sg (T0 S) := mG.ag (T0_ag S)
  have mP' : MP pc tol pp (T0 S) := mP.ag (T0_ag S)
  have mT' : MT tc tx (T0 S) := mT.ag (T0_ag S)
  have q2 := ccl (F := F) oG rG g 0 F (by omega) (by omega)
  have q5 := cas (F := F) hn rS n 0 F (by omega) (by omega)
  have p2 := mcl (F := F) (x1 := x1) (x3 := 0) oG mG' g 0 F (by omega) (by omega)
  have p5 := mas (F := F) (x1 := x1) (x2 := lct sg g) hn mS' n 0 F (by omega) (by omega)
  rw [show lct sg 0 = 0 from rfl, nI_0] at q2 p2
  rw [show asm sd 0 = 0 from rfl, nI_0] at q5 p5
  refine ⟨if x1 = 0 then nI n else if x1 = 1 then yr else if x1 = 2 then lct sg g else if x1 = 3 then nI pc else if x1 = 4 then nI tc else if x1 = 5 then asm sd n else -2, T0 S, ?_, ?_, hI.ag (T0_ag S)⟩
  · simp only [fX7_total, fX4_countLive, fX7_allSound, q2, q5, Option.bind_some, rS.2.1, rS.2.2.1, rP.2.1, rT.2.1]
    repeat' split
    all_goals rfl
  · simp only [fX8_total, stp]
    rw [p2, p5, mS'.1, mS'.2.1, mP'.2.1, mT'.1]
-- pass
/-- what is left of each SIDE when n years go by: the first k sides done -/
def psd (sd : Nat → Nat → Int32) (y : Int32) (k : Nat) : Nat → Nat → Int32 := fun i j => if i < k ∧ j = 3 then lo0 (sd i 3 - sd i 2 * y) else sd i j
theorem psd_s (sd : Nat → Nat → Int32) (y : Int32) (k : Nat) : up2 (psd sd y k) k 3 (lo0 (sd k 3 - sd k 2 * y)) = psd sd y (k + 1) := by
  funext i j
  unfold up2 psd
  by_cases h : i = k ∧ j = 3
  · rw [if_pos h, if_pos ⟨by omega, h.2⟩, h.1]
  · rw [if_neg h]
    by_cases h2 : i < k ∧ j = 3
    · rw [if_pos h2, if_pos ⟨by omega, h2.2⟩]
    · rw [if_neg h2, if_neg (by omega)]
theorem cps {F n : Nat} {yr y : Int32} {sd : Nat → Nat → Int32} (hn : n ≤ 16) : ∀ (d k fuel : Nat) (S : vs), k + d = n → d < fuel → RS n yr (psd sd y k) S → ∃ S1, hX7_pass_30 F y fuel (nI k) S = some (yr + y, S1) ∧ RS n (yr + y) (psd sd y n) S1 ∧ (∀ {m : Nat} {z : Int32} {e : Nat → Nat → Int32}, MS m z e S → MS m z e S1) ∧ (I3s S → I3s S1) := by
  intro d
  induction d with
  | zero =>
    intro k fuel S hk hf h
    obtain ⟨f, rfl⟩ : ∃ f, fuel = f + 1 := ⟨fuel - 1, by omega⟩
    have : k = n := by omega
    subst this
    refine ⟨s2 S (0, 0) 2 (yr + y), ?_, h.year, fun m => m.fr (by simp) (by simp), fun i => i.fr (by simp [gok, pok, tok])⟩
    rw [hX7_pass_30, if_pos (by rw [h.2.1]; exact Int32.le_refl _)]
    simp only [stp, h.2.2.1]
    rw [s2_at, if_pos ⟨rfl, rfl⟩]
  | succ d ih =>
    intro k fuel S hk hf h
    obtain ⟨f, rfl⟩ : ∃ f, fuel = f + 1 := ⟨fuel - 1, by omega⟩
    have hkn : k < n := by omega
    have a3 : S.1 (1, k) 3 = sd k 3 := (h.2.2.2.2 k 3 hkn (by decide)).trans (by unfold psd; rw [if_neg (by omega)])
    have a2 : S.1 (1, k) 2 = sd k 2 := (h.2.2.2.2 k 2 hkn (by decide)).trans (by unfold psd; rw [if_neg (by omega)])
    have h2 : RS n yr (psd sd y (k + 1)) (s2 S (1, k) 3 (lo0 (sd k 3 - sd k 2 * y))) := by rw [← psd_s]; exact h.put
    obtain ⟨S1, e1, r1, m1, i1⟩ := ih (k + 1) f _ (by omega) (by omega) h2
    refine ⟨S1, ?_, r1, fun m => m1 (m.fr (by simp) (by simp)), fun i => i1 (i.fr (k3s_side _ _))⟩
    rw [hX7_pass_30, if_neg (by rw [h.2.1]; exact nle_nI hkn (by omega)), rg2 h hn hkn]
    simp only [Option.bind_some, alv1 h hkn, gd, if_true, fX2_lose, stp, a3, a2, ltt, nI_1]
    exact e1
theorem mps {F n : Nat} {yr y : Int32} {sd : Nat → Nat → Int32} (hn : n ≤ 16) : ∀ (d k fuel : Nat) (S : vs), k + d = n → d < fuel → MS n yr (psd sd y k) S → ∃ S1, hX8_pass_47 F y fuel (nI k) S = some (yr, S1) ∧ MS n yr (psd sd y n) S1 ∧ (∀ {m : Nat} {z : Int32} {e : Nat → Nat → Int32}, RS m z e S → RS m z e S1) ∧ (I3s S → I3s S1) := by
  intro d
  induction d with
  | zero =>
    intro k fuel S hk hf h
    obtain ⟨f, rfl⟩ : ∃ f, fuel = f + 1 := ⟨fuel - 1, by omega⟩
    have : k = n := by omega
    subst this
    refine ⟨S, ?_, h, fun m => m, fun i => i⟩
    rw [hX8_pass_47, if_pos (by rw [h.1]; exact Int32.le_refl _), h.2.1]
  | succ d ih =>
    intro k fuel S hk hf h
    obtain ⟨f, rfl⟩ : ∃ f, fuel = f + 1 := ⟨fuel - 1, by omega⟩
    have hkn : k < n := by omega
    have hin : inb (nI k) 16 = true := inb_nI (by omega) (by decide)
    have hcl : (nI k).toNatClampNeg = k := cl_nI (by omega)
    have a3 : S.1 (0, 24) k = sd k 3 := (h.2.2.1 k 3 hkn (by decide)).trans (by unfold psd; rw [if_neg (by omega)])
    have a2 : S.1 (0, 26) k = sd k 2 := (h.2.2.1 k 2 hkn (by decide)).trans (by unfold psd; rw [if_neg (by omega)])
    have h2 : MS n yr (psd sd y (k + 1)) (s2 S (0, 24) k (lo0 (sd k 3 - sd k 2 * y))) := by rw [← psd_s]; exact h.put hkn (show 24 = mk 3 from rfl) (by decide)
    obtain ⟨S1, e1, r1, m1, i1⟩ := ih (k + 1) f _ (by omega) (by omega) h2
    refine ⟨S1, ?_, r1, fun m => m1 (m.fr (by simp) (by simp)), fun i => i1 (i.fr (k3s_ms _ (by decide)))⟩
    rw [hX8_pass_47, if_neg (by rw [h.1]; exact nle_nI hkn (by omega))]
    simp only [al24, al26, hin, hcl, gd, if_true, aln_eq, Option.bind_some, stp, a3, a2, ltt, nI_1]
    rw [Int32.mul_comm y (sd k 2)]
    exact e1
set_option maxHeartbeats 1000000 in
theorem pst4 (F : Nat) (hF : 100 ≤ F) : St4 F Inv := by
  intro S hI x1
  obtain ⟨n, yr, sd, oS, rS, mS⟩ := hI.s
  have hn := oS.1
  have mT : MS n yr sd (T0 S) := mS.ag (T0_ag S)
  by_cases c1 : wi 1 100 x1 = true
  · by_cases c2 : yr + x1 ≤ 1000
    · have p0 : psd sd x1 0 = sd := by
        funext i j
        unfold psd
        rw [if_neg (by omega)]
      obtain ⟨S1, e1, r1, f1, i1⟩ := cps (F := F) (y := x1) (sd := sd) hn n 0 F S (by omega) (by omega) (by rw [p0]; exact rS)
      have m1 : MS n yr sd S1 := f1 mS
      have m2 : MS n (yr + x1) (psd sd x1 0) (s2 (T0 S1) (0, 1) 2 (yr + x1)) := by rw [p0]; exact (m1.fr (by simp) (by simp)).year
      obtain ⟨S2, e2, r2, f2, i2⟩ := mps (F := F) (y := x1) (sd := sd) hn n 0 F _ (by omega) (by omega) m2
      have hy1 : (T0 S1).1 (0, 1) 2 = yr := (MS.fr (k := (0, 1)) (j := 0) (x := 0) m1 (by simp) (by simp)).2.1
      have hx := wi_t.mp c1
      have hyr := oS.2.1
      have ey : (yr + x1).toInt = yr.toInt + x1.toInt := fb_addI (by have := hx.1; have := hyr.1; omega) (by have := hx.2; have := hyr.2; omega)
      refine ⟨yr + x1, S1, S2, ?_, ?_, ?_⟩
      · simp only [fX7_pass, w1_100, c1, b01_ite, Option.bind_some, if_true, rS.2.2.1, c2]
        rw [nI_0] at e1
        exact e1
      · simp only [fX8_pass, stp, i1_100, c1, b01_ite, Option.bind_some, if_true, hy1, c2]
        rw [nI_0] at e2
        exact e2
      · refine Inv.sides ⟨hn, ⟨?_, ?_⟩, fun i hi => ?_, fun i hi => ?_⟩ (f2 ((r1.fr (by simp) (by simp)).fr (by simp) (by simp))) r2 (i2 ((I3s.fr (I3s.fr (i1 hI.i3s) k3s_T0)) (by simp [gok, pok, tok])))
        · rw [ey]; have := hx.1; have := hyr.1; omega
        · rw [fa_le] at c2; exact c2
        · obtain ⟨c0, c1', c2', c3, c4, c5, c9, c10, c8⟩ := oS.2.2.1 i hi
          have e3 : psd sd x1 n i 3 = lo0 (sd i 3 - sd i 2 * x1) := if_pos ⟨hi, rfl⟩
          have ee : ∀ j, j ≠ 3 → psd sd x1 n i j = sd i j := fun j hj => if_neg (by omega)
          rw [e3, ee 0 (by decide), ee 1 (by decide), ee 2 (by decide), ee 4 (by decide), ee 5 (by decide), ee 9 (by decide), ee 10 (by decide), ee 8 (by decide)]
          have b1 : 0 ≤ (sd i 2).toInt * x1.toInt := Int.mul_nonneg c2'.1 (by have := hx.1; omega)
          have b2 : (sd i 2).toInt * x1.toInt ≤ 100 * 100 := Int.mul_le_mul c2'.2 hx.2 (by have := hx.1; omega) (by decide)
          have em : (sd i 2 * x1).toInt = (sd i 2).toInt * x1.toInt := fb_mulI (by omega) (by omega)
          exact ⟨c0, c1', c2', lo0_rg c3 ⟨by rw [em]; exact b1, by rw [em]; omega⟩, c4, c5, c9, c10, c8⟩
        · obtain ⟨m, hm⟩ := oS.2.2.2 i hi
          exact ⟨m, by rw [chn_cong (fun i => if_neg (by omega))]; exact hm⟩
    · refine ⟨-4, S, T0 S, ?_, ?_, hI.ag (T0_ag S)⟩
      · simp only [fX7_pass, w1_100, c1, b01_ite, Option.bind_some, if_true, rS.2.2.1, c2, if_false]
      · simp only [fX8_pass, stp, i1_100, c1, b01_ite, Option.bind_some, if_true, mT.2.1, c2, if_false]
  · refine ⟨-2, S, T0 S, ?_, ?_, hI.ag (T0_ag S)⟩
    · simp [fX7_pass, w1_100, c1, b01_ite]
    · simp [fX8_pass, stp, i1_100, c1, b01_ite]
