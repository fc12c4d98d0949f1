/-! the small methods -/
theorem lgc_lt (x y : Int64) : (lg_cmp x y < 0) ↔ x < y := by
  have h := lg_cmp_ge x y
  constructor
  · intro q
    rcases Int64.lt_or_le x y with e | e
    · exact e
    · have := h.mpr e
      rw [fa_le] at this
      rw [fa_lt] at q
      omega
  · intro q
    rw [← Int32.not_le]
    intro e
    have := h.mp e
    rw [fa_le64] at this
    rw [fa_lt64] at q
    omega
theorem lgc_gt (x y : Int64) : (0 < lg_cmp x y) ↔ y < x := by
  unfold lg_cmp
  by_cases h : x > y
  · rw [if_pos h]; exact ⟨fun _ => h, fun _ => by decide⟩
  · rw [if_neg h]
    by_cases h2 : x = y
    · rw [if_pos h2]; exact ⟨fun q => absurd q (by decide), fun q => absurd q h⟩
    · rw [if_neg h2]; exact ⟨fun q => absurd q (by decide), fun q => absurd q h⟩
/-- 1 where x lies within, 0 else -/
def wi (lo hi : Int) (x : Int32) : Bool := decide (lo ≤ x.toInt) && decide (x.toInt ≤ hi)
theorem wi_t {lo hi : Int} {x : Int32} : wi lo hi x = true ↔ rg lo hi x := by
  unfold wi rg
  rw [Bool.and_eq_true, decide_eq_true_eq, decide_eq_true_eq]
theorem wi_f {lo hi : Int} {x : Int32} : wi lo hi x = false ↔ ¬ rg lo hi x := by
  rw [← wi_t]
  cases wi lo hi x <;> simp
def b01 (b : Bool) : Int32 := if b = true then 1 else 0
theorem in_eq {F : Nat} {x : Int32} {a b : Int64} {S : vs} (lo hi : Int) (ha : a.toInt = lo) (hb : b.toInt = hi) : fX8_in F x.toInt64 a b S = some (b01 (wi lo hi x)) := by
  unfold fX8_in
  simp only [lgc_lt, lgc_gt, fa_lt64, Int32.toInt_toInt64, ha, hb]
  unfold b01 wi
  by_cases h1 : x.toInt < lo
  · rw [if_pos h1, if_neg (by simp; omega)]
  · rw [if_neg h1]
    by_cases h2 : hi < x.toInt
    · rw [if_pos h2, if_neg (by simp; omega)]
    · rw [if_neg h2, if_pos (by simp; omega)]
theorem wi_eq {F : Nat} {x a b : Int32} {S : vs} (lo hi : Int) (ha : a.toInt = lo) (hb : b.toInt = hi) : fX7_within F x a b S = some (b01 (wi lo hi x)) := by
  unfold fX7_within
  simp only [fa_lt, ha, hb]
  unfold b01 wi
  by_cases h1 : x.toInt < lo
  · rw [if_pos h1, if_neg (by simp; omega)]
  · rw [if_neg h1]
    by_cases h2 : hi < x.toInt
    · rw [if_pos h2, if_neg (by simp; omega)]
    · rw [if_neg h2, if_pos (by simp; omega)]
theorem b01_z (b : Bool) : zb (b01 b) = true := by cases b <;> rfl
theorem b01_0 (b : Bool) : (b01 b = 0) ↔ b = false := by cases b <;> simp [b01]
theorem b01_ite {α : Type} (b : Bool) (x y : α) : (if b01 b = 0 then x else y) = if b = true then y else x := by cases b <;> simp [b01]
theorem isSong_eq {F : Nat} {x : Int32} {S : vs} : fX7_isSong F x S = some (b01 (wi 0 3 x)) := by
  unfold fX7_isSong; rw [wi_eq 0 3 rfl rfl]; simp [gd, b01_z]
theorem isFamily_eq {F : Nat} {x : Int32} {S : vs} : fX7_isFamily F x S = some (b01 (wi 0 7 x)) := by
  unfold fX7_isFamily; rw [wi_eq 0 7 rfl rfl]; simp [gd, b01_z]
theorem isHearer_eq {F : Nat} {x : Int32} {S : vs} : fX7_isHearer F x S = some (b01 (wi 0 5 x)) := by
  unfold fX7_isHearer; rw [wi_eq 0 5 rfl rfl]; simp [gd, b01_z]
theorem isDay_eq {F : Nat} {x : Int32} {S : vs} : fX7_isDay F x S = some (b01 (wi 0 9999 x)) := by
  unfold fX7_isDay; rw [wi_eq 0 9999 rfl rfl]; simp [gd, b01_z]
theorem noDay_eq {F : Nat} {x : Int32} {S : vs} : fX8_noDay F x S = some (b01 (!wi 0 9999 x)) := by
  unfold fX8_noDay; rw [in_eq 0 9999 rfl rfl]; cases wi 0 9999 x <;> simp [b01]
theorem isSide_eq {F n : Nat} {x : Int32} {S : vs} (h : S.1 (0, 0) 1 = nI n) (hn : n < 2 ^ 31) : fX7_isSide F x S = some (b01 (wi 0 ((n : Int) - 1) x)) := by
  unfold fX7_isSide
  simp only [h, fa_lt, fa_le, nI_toInt hn, show (0 : Int32).toInt = 0 from rfl]
  unfold b01 wi
  by_cases h1 : x.toInt < 0
  · rw [if_pos h1, if_neg (by simp; omega)]
  · rw [if_neg h1]
    by_cases h2 : (n : Int) ≤ x.toInt
    · rw [if_pos h2, if_neg (by simp; omega)]
    · rw [if_neg h2, if_pos (by simp; omega)]
theorem has_eq {F n : Nat} {x : Int32} {S : vs} (h : S.1 (0, 3) 1 = nI n) (hn : n < 2 ^ 31) : fX4_has F x S = some (b01 (wi 0 ((n : Int) - 1) x)) := by
  unfold fX4_has
  simp only [h, fa_lt, fa_le, nI_toInt hn, show (0 : Int32).toInt = 0 from rfl]
  unfold b01 wi
  by_cases h1 : x.toInt < 0
  · rw [if_pos h1, if_neg (by simp; omega)]
  · rw [if_neg h1]
    by_cases h2 : (n : Int) ≤ x.toInt
    · rw [if_pos h2, if_neg (by simp; omega)]
    · rw [if_neg h2, if_pos (by simp; omega)]
theorem nI_m1 {n : Nat} (hn : n < 2 ^ 30) : ((nI n - 1).toInt64).toInt = (n : Int) - 1 := by
  rw [Int32.toInt_toInt64]
  exact pk_sub_toInt hn (by decide)
theorem noSide_eq {F n : Nat} {x : Int32} {S : vs} (h : S.1 (0, 1) 1 = nI n) (hn : n < 2 ^ 30) : fX8_noSide F x S = some (b01 (!wi 0 ((n : Int) - 1) x)) := by
  unfold fX8_noSide
  rw [h, in_eq 0 ((n : Int) - 1) rfl (nI_m1 hn)]
  cases wi 0 ((n : Int) - 1) x <;> simp [b01]
/-- within gives a number -/
theorem wi_side {n : Nat} {x : Int32} (h : wi 0 ((n : Int) - 1) x = true) : ∃ i, i < n ∧ x = nI i := rg_of1 (wi_t.mp h)
theorem inb_nI {i n : Nat} (h : i < n) (hn : n < 2 ^ 31) : inb (nI i) n = true := by
  unfold inb
  rw [Bool.and_eq_true, decide_eq_true_eq, decide_eq_true_eq, nI_clamp (by omega)]
  exact ⟨nI_pos' (by omega), h⟩
theorem cl_nI {i : Nat} (h : i < 2 ^ 31) : (nI i).toNatClampNeg = i := nI_clamp h
-- the lengths of the fixed arrays
theorem al0 (a N : Nat) (d : Nat × Nat × Nat) (h : shp (0, a) = some (.inr (0, N, none))) : alen 0 d (0, a) = N := by
  unfold alen; rw [if_pos (show alv d (0, a) = true from rfl), h]; rfl
theorem al1 (a N : Nat) (d : Nat × Nat × Nat) (h : shp (0, a) = some (.inr (1, N, none))) : alen 1 d (0, a) = N := by
  unfold alen; rw [if_pos (show alv d (0, a) = true from rfl), h]; rfl
theorem al4 {i : Nat} (d : Nat × Nat × Nat) (h : i < 6) : alen 0 d (4, i) = 6 := by
  unfold alen; rw [if_pos (show alv d (4, i) = true from decide_eq_true h)]; rfl
theorem rg2 {S : vs} {i n : Nat} {yr : Int32} {sd : Nat → Nat → Int32} (h : RS n yr sd S) (hn : n ≤ 16) (hi : i < n) : rget 2 S (0, 6) (nI i) = some i := by
  unfold rget
  rw [if_pos (show alv S.2.2 (0, 6) = true from rfl), sh0_6]
  simp only [inb_nI (show i < 16 by omega) (by decide), and_self, if_true]
  rw [cl_nI (by omega)]
  exact h.2.2.2.1 i hi
theorem alv1 {S : vs} {i n : Nat} {yr : Int32} {sd : Nat → Nat → Int32} (h : RS n yr sd S) (hi : i < n) : alv S.2.2 (1, i) = true := by
  show decide (i < S.2.2.1) = true
  rw [h.1]; exact decide_eq_true hi
theorem rg3 {S : vs} {i g : Nat} {sg : Nat → Nat → Int32} (h : RG g sg S) (hg : g ≤ 60) (hi : i < g) : rget 3 S (0, 17) (nI i) = some i := by
  unfold rget
  rw [if_pos (show alv S.2.2 (0, 17) = true from rfl), sh0_17]
  simp only [inb_nI (show i < 60 by omega) (by decide), and_self, if_true]
  rw [cl_nI (by omega)]
  exact h.2.2.1 i hi
theorem alv2 {S : vs} {i g : Nat} {sg : Nat → Nat → Int32} (h : RG g sg S) (hi : i < g) : alv S.2.2 (2, i) = true := by
  show decide (i < S.2.2.2.1) = true
  rw [h.1]; exact decide_eq_true hi
theorem rg4 {S : vs} {i tc : Nat} {tx : Nat → Nat → Int32} {pm : Nat → Nat} (h : RT tc tx pm S) (hg : tc ≤ 60) (hi : i < tc) : rget 4 S (0, 22) (nI i) = some (pm i) := by
  unfold rget
  rw [if_pos (show alv S.2.2 (0, 22) = true from rfl), sh0_22]
  simp only [inb_nI (show i < 60 by omega) (by decide), and_self, if_true]
  rw [cl_nI (by omega)]
  exact h.2.2.1 i hi
theorem alv3 {S : vs} {i tc : Nat} {tx : Nat → Nat → Int32} {pm : Nat → Nat} (h : RT tc tx pm S) (hi : i < tc) : alv S.2.2 (3, i) = true := by
  show decide (i < S.2.2.2.2) = true
  rw [h.1]; exact decide_eq_true hi
