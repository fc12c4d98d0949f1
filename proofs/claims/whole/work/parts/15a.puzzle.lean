/-! the puzzle: what the tables hold -/
theorem tb_nI (m : Nat) {i : Nat} (hi : i < 32) : tb (nI m) i = m.testBit i := by
  show (BitVec.ofNat 32 m).getLsbD i = _
  rw [BitVec.getLsbD_ofNat]
  simp [hi]
theorem bit_nI {p : Nat} (hp : p < 16) : (1 : Int32) <<< (nI p &&& 31) = nI (2 ^ p) := by
  have : ∀ p : Fin 16, (1 : Int32) <<< (nI p.val &&& 31) = nI (2 ^ p.val) := by decide +kernel
  exact this ⟨p, hp⟩
theorem nI_mul (a b : Nat) : nI a * nI b = nI (a * b) := (Int32.ofNat_mul a b).symm
theorem cell1 (m p : Nat) : nI m * 7 + nI p = nI (7 * m + p) := by
  rw [show (7 : Int32) = nI 7 from rfl, nI_mul, nI_add, Nat.mul_comm]
theorem cell2 (m p : Nat) : 7 * nI m + nI p = nI (7 * m + p) := by
  rw [show (7 : Int32) = nI 7 from rfl, nI_mul, nI_add]
theorem flp_lt {R k : Nat} (hR : R < 128) (hk : k < 7) (h : R.testBit k = true) : R ^^^ 2 ^ k < R := by
  have : ∀ R : Fin 128, ∀ k : Fin 7, R.val.testBit k.val = true → R.val ^^^ 2 ^ k.val < R.val := by decide +kernel
  exact this ⟨R, hR⟩ ⟨k, hk⟩ h
theorem two7 {g : Nat} (hg : g ≤ 7) : 2 ^ g ≤ 128 ∧ 1 ≤ 2 ^ g := by
  have : ∀ g : Fin 8, 2 ^ g.val ≤ 128 ∧ 1 ≤ 2 ^ g.val := by decide +kernel
  exact this ⟨g, by omega⟩
theorem all_bit {g r p : Nat} (hg : g ≤ 7) (hr : r < 2 ^ g) (hp : p < g) : (2 ^ g - 1 - r).testBit p = !r.testBit p := by
  have : ∀ g : Fin 8, ∀ r : Fin 128, ∀ p : Fin 7, r.val < 2 ^ g.val → p.val < g.val → (2 ^ g.val - 1 - r.val).testBit p.val = !r.val.testBit p.val := by decide +kernel
  exact this ⟨g, by omega⟩ ⟨r, by have := two7 hg; omega⟩ ⟨p, by omega⟩ hr hp
theorem all_or {g r p : Nat} (hg : g ≤ 7) (hr : r < 2 ^ g) (hp : p < g) (h : r.testBit p = true) : (2 ^ g - 1 - r) ||| 2 ^ p = 2 ^ g - 1 - (r ^^^ 2 ^ p) := by
  have : ∀ g : Fin 8, ∀ r : Fin 128, ∀ p : Fin 7, r.val < 2 ^ g.val → p.val < g.val → r.val.testBit p.val = true → (2 ^ g.val - 1 - r.val) ||| 2 ^ p.val = 2 ^ g.val - 1 - (r.val ^^^ 2 ^ p.val) := by decide +kernel
  exact this ⟨g, by omega⟩ ⟨r, by have := two7 hg; omega⟩ ⟨p, by omega⟩ hr hp h
theorem all_one {g p : Nat} (hg : g ≤ 7) (hp : p < g) : (2 ^ g - 1) ^^^ 2 ^ p = 2 ^ g - 1 - 2 ^ p ∧ 2 ^ g - 1 - 2 ^ p < 2 ^ g ∧ 2 ^ g - 1 - (2 ^ g - 1 - 2 ^ p) = 2 ^ p ∧ (2 ^ g - 1 - 2 ^ p).testBit p = false := by
  have : ∀ g : Fin 8, ∀ p : Fin 7, p.val < g.val → (2 ^ g.val - 1) ^^^ 2 ^ p.val = 2 ^ g.val - 1 - 2 ^ p.val ∧ 2 ^ g.val - 1 - 2 ^ p.val < 2 ^ g.val ∧ 2 ^ g.val - 1 - (2 ^ g.val - 1 - 2 ^ p.val) = 2 ^ p.val ∧ (2 ^ g.val - 1 - 2 ^ p.val).testBit p.val = false := by decide +kernel
  exact this ⟨g, by omega⟩ ⟨p, by omega⟩ hp
def gp (pp : Nat → Nat → Int32) (a b : Nat) : Int32 := if 0 ≤ pp a 1 - pp b 0 then pp a 1 - pp b 0 else 0 - (pp a 1 - pp b 0)
theorem gp_b {g : Nat} {tol : Int32} {pp : Nat → Nat → Int32} (o : OkP g tol pp) {a b : Nat} (ha : a < g) (hb : b < g) : 0 ≤ (gp pp a b).toInt ∧ (gp pp a b).toInt ≤ 99 := by
  have h1 := (o.2.2 a ha).2
  have h2 := (o.2.2 b hb).1
  have := h1.1
  have := h1.2
  have := h2.1
  have := h2.2
  have e : (pp a 1 - pp b 0).toInt = (pp a 1).toInt - (pp b 0).toInt := sub_toInt (by omega) (by omega) (by omega) (by omega)
  unfold gp
  by_cases c : 0 ≤ pp a 1 - pp b 0
  · rw [if_pos c]
    rw [fa_le, show (0 : Int32).toInt = 0 from rfl] at c
    omega
  · rw [if_neg c]
    rw [fa_le, show (0 : Int32).toInt = 0 from rfl] at c
    rw [fb_subI (by rw [show (0 : Int32).toInt = 0 from rfl]; omega) (by rw [show (0 : Int32).toInt = 0 from rfl]; omega), show (0 : Int32).toInt = 0 from rfl]
    omega
def WL (g : Nat) (tol : Int32) (pp : Nat → Nat → Int32) (R a : Nat) : Nat → Int32
  | 0 => if R = 0 then 1 else 0
  | k + 1 => WL g tol pp R a k + (if _h : R ^^^ 2 ^ k < R then (if R.testBit k = true ∧ gp pp a k ≤ tol then WL g tol pp (R ^^^ 2 ^ k) k g else 0) else 0)
termination_by k => (R, k)
def LL (g : Nat) (tol : Int32) (pp : Nat → Nat → Int32) (R a : Nat) : Nat → Int32
  | 0 => if R = 0 then 0 else 1000000
  | k + 1 => if _h : R ^^^ 2 ^ k < R then (if R.testBit k = true ∧ gp pp a k ≤ tol then (if LL g tol pp R a k ≤ gp pp a k + LL g tol pp (R ^^^ 2 ^ k) k g then LL g tol pp R a k else gp pp a k + LL g tol pp (R ^^^ 2 ^ k) k g) else LL g tol pp R a k) else LL g tol pp R a k
termination_by k => (R, k)
theorem WL_0 {g : Nat} {tol : Int32} {pp : Nat → Nat → Int32} {R a : Nat} : WL g tol pp R a 0 = if R = 0 then 1 else 0 := by rw [WL]
theorem WL_s {g : Nat} {tol : Int32} {pp : Nat → Nat → Int32} {R a k : Nat} (hR : R < 128) (hk : k < 7) : WL g tol pp R a (k + 1) = if R.testBit k = true ∧ gp pp a k ≤ tol then WL g tol pp R a k + WL g tol pp (R ^^^ 2 ^ k) k g else WL g tol pp R a k := by
  rw [WL]
  by_cases c : R.testBit k = true ∧ gp pp a k ≤ tol
  · rw [dif_pos (flp_lt hR hk c.1), if_pos c, if_pos c]
  · rw [if_neg c, if_neg c]
    split <;> simp
theorem LL_0 {g : Nat} {tol : Int32} {pp : Nat → Nat → Int32} {R a : Nat} : LL g tol pp R a 0 = if R = 0 then 0 else 1000000 := by rw [LL]
theorem LL_s {g : Nat} {tol : Int32} {pp : Nat → Nat → Int32} {R a k : Nat} (hR : R < 128) (hk : k < 7) : LL g tol pp R a (k + 1) = if R.testBit k = true ∧ gp pp a k ≤ tol then (if LL g tol pp R a k ≤ gp pp a k + LL g tol pp (R ^^^ 2 ^ k) k g then LL g tol pp R a k else gp pp a k + LL g tol pp (R ^^^ 2 ^ k) k g) else LL g tol pp R a k := by
  rw [LL]
  by_cases c : R.testBit k = true ∧ gp pp a k ≤ tol
  · rw [dif_pos (flp_lt hR hk c.1), if_pos c]
  · rw [if_neg c]
    split <;> rfl
/-- the least is FAR or small -/
theorem LL_b {g : Nat} {tol : Int32} {pp : Nat → Nat → Int32} (o : OkP g tol pp) : ∀ (n R : Nat), R < n → R < 128 → ∀ k a, a < g → k ≤ g → 0 ≤ (LL g tol pp R a k).toInt ∧ ((LL g tol pp R a k).toInt = 1000000 ∨ (LL g tol pp R a k).toInt ≤ 99 * R)
  | 0, R, h, _ => by omega
  | n + 1, R, h, hR => by
    intro k
    induction k with
    | zero =>
      intro a ha _
      rw [LL_0]
      by_cases c : R = 0
      · rw [if_pos c]; exact ⟨by decide, Or.inr (by rw [c]; decide)⟩
      · rw [if_neg c]; exact ⟨by decide, Or.inl rfl⟩
    | succ k ih =>
      intro a ha hk
      have hg := o.1
      have i1 := ih a ha (by omega)
      rw [LL_s hR (by omega)]
      by_cases c : R.testBit k = true ∧ gp pp a k ≤ tol
      · rw [if_pos c]
        have lt := flp_lt hR (by omega) c.1
        have i2 := LL_b o n (R ^^^ 2 ^ k) (by omega) (by omega) g k (by omega) (Nat.le_refl _)
        have gb := gp_b o ha (show k < g by omega)
        have e : (gp pp a k + LL g tol pp (R ^^^ 2 ^ k) k g).toInt = (gp pp a k).toInt + (LL g tol pp (R ^^^ 2 ^ k) k g).toInt := fb_addI (by omega) (by omega)
        by_cases c2 : LL g tol pp R a k ≤ gp pp a k + LL g tol pp (R ^^^ 2 ^ k) k g
        · rw [if_pos c2]; exact i1
        · rw [if_neg c2, e]
          rw [fa_le, e] at c2
          omega
      · rw [if_neg c]; exact i1
theorem LL_bd {g : Nat} {tol : Int32} {pp : Nat → Nat → Int32} (o : OkP g tol pp) {R k a : Nat} (hR : R < 128) (ha : a < g) (hk : k ≤ g) : 0 ≤ (LL g tol pp R a k).toInt ∧ ((LL g tol pp R a k).toInt = 1000000 ∨ (LL g tol pp R a k).toInt ≤ 12573) := by
  have := LL_b o (R + 1) R (by omega) hR k a ha hk
  omega
def nn (x : Int32) : Int32 := if x = 1000000 then (-9) else x
theorem nn_9 {x : Int32} (h : 0 ≤ x.toInt) : nn x = (-9) ↔ x.toInt = 1000000 := by
  unfold nn
  by_cases c : x = 1000000
  · rw [if_pos c, c]; exact ⟨fun _ => rfl, fun _ => rfl⟩
  · rw [if_neg c]
    constructor
    · intro e; rw [e] at h; exact absurd h (by decide)
    · intro e; exact absurd ((fa_eq _ _).mpr e) c
theorem nn_s {x : Int32} (h : x.toInt ≠ 1000000) : nn x = x := if_neg (fun e => h (by rw [e]; rfl))
theorem cgap {F g a b : Nat} {tol : Int32} {pp : Nat → Nat → Int32} {S : vs} (o : OkP g tol pp) (h : RP g tol pp S) (ha : a < g) (hb : b < g) : fX1_gap F (nI a) (nI b) S = some (gp pp a b) := by
  have hg := o.1
  unfold fX1_gap gp
  simp only [al18, al19, inb_nI (show a < 7 by omega) (by decide), inb_nI (show b < 7 by omega) (by decide), gd, if_true, cl_nI (show a < 2 ^ 31 by omega), cl_nI (show b < 2 ^ 31 by omega), (h.2.2 a ha).2, (h.2.2 b hb).1]
theorem map {F g a b : Nat} {tol : Int32} {pp : Nat → Nat → Int32} {S : vs} (o : OkP g tol pp) (h : MP g tol pp S) (ha : a < g) (hb : b < g) : fX8_apart F (nI a) (nI b) S = some (if gp pp a b ≤ tol then gp pp a b else 1000000) := by
  have hg := o.1
  unfold fX8_apart jX8_apart_24 gp
  simp only [al39, al40, inb_nI (show a < 7 by omega) (by decide), inb_nI (show b < 7 by omega) (by decide), gd, if_true, cl_nI (show a < 2 ^ 31 by omega), cl_nI (show b < 2 ^ 31 by omega), (h.2.2 a ha).2, (h.2.2 b hb).1, ltt, h.1]
  by_cases c : 0 ≤ pp a 1 - pp b 0
  · simp only [if_pos c]
    split <;> rfl
  · simp only [if_neg c, Int32.zero_sub]
    split <;> rfl
theorem far_ap {g a b : Nat} {tol : Int32} {pp : Nat → Nat → Int32} (o : OkP g tol pp) (ha : a < g) (hb : b < g) : (1000000 ≤ (if gp pp a b ≤ tol then gp pp a b else (1000000 : Int32))) ↔ ¬ gp pp a b ≤ tol := by
  have gb := gp_b o ha hb
  by_cases c : gp pp a b ≤ tol
  · rw [if_pos c, fa_le, show (1000000 : Int32).toInt = 1000000 from rfl]
    exact ⟨fun z => by omega, fun z => absurd c z⟩
  · rw [if_neg c]; exact ⟨fun _ => c, fun _ => Int32.le_refl _⟩
