theorem B_eq (Y : Nat) : 2 * nI Y + 1 = nI (2 * Y + 1) := by rw [show (2 : Int32) = nI 2 from rfl, nI_mul, nI_1]
theorem m2_eq (Y : Nat) : 2 * nI Y = nI (2 * Y) := by rw [show (2 : Int32) = nI 2 from rfl, nI_mul]
theorem pw_le {Y m : Nat} (hY : Y ≤ 3) (hm : m ≤ 6) : (2 * Y + 1) ^ m ≤ 117649 := by
  have h1 : (2 * Y + 1) ^ m ≤ 7 ^ m := Nat.pow_le_pow_left (by omega) m
  have h2 : 7 ^ m ≤ 7 ^ 6 := Nat.pow_le_pow_right (by decide) hm
  have h3 : 7 ^ 6 = 117649 := by decide
  omega
theorem dg_lt {B m c p : Nat} (hB : 0 < B) : dg B m c p < B := Nat.mod_lt _ hB
theorem half_I {o : Nat} (ho : o < 2 ^ 31) : nI o / 2 = nI (o / 2) := by rw [show (2 : Int32) = nI 2 from rfl, pk_div ho (by decide) (by decide)]
theorem odd_I {o : Nat} (ho : o < 2 ^ 31) : nI o - nI (o / 2) * 2 = nI (o % 2) := by
  have := pk_rem (a := o) (d := 2) ho (by decide) (by decide)
  rw [show nI 2 = (2 : Int32) from rfl, half_I ho] at this
  exact this
theorem one_I {o : Nat} : (nI (o % 2) = 1) ↔ o % 2 = 1 := by
  rcases (show o % 2 = 0 ∨ o % 2 = 1 by omega) with e | e <;> rw [e] <;> decide
theorem mw147 {F k i o : Nat} {k35 : Int32 → Int32 → vs → Option vs} {Y x3 v w h : Int32} {U : vs} (hi : i < 16) (ho : o < 6) (h23 : U.1 (0, 23) i = w) (hh : U.1 (0, if o % 2 = 1 then 28 else 27) i = h) : jX8_weigh_147 k35 F Y x3 (nI k) (nI o) (nI i) v U = k35 x3 (dI k) (s2 (s2 U (0, 1) 33 (U.1 (0, 1) 33 + w * v)) (0, 48) (o / 2) (U.1 (0, 48) (o / 2) + h)) := by
  unfold jX8_weigh_147 jX8_weigh_203 jX8_weigh_205
  have q48 : (s2 U (0, 1) 33 (U.1 (0, 1) 33 + w * v)).1 (0, 48) (o / 2) = U.1 (0, 48) (o / 2) := by simp [s2_at]
  rw [al23, inb_nI hi (by decide), cl_nI (show i < 2 ^ 31 by omega), h23, half_I (show o < 2 ^ 31 by omega), odd_I (show o < 2 ^ 31 by omega)]
  simp only [gd, if_true, stp, al48, inb_nI (show o / 2 < 3 by omega) (by decide), one_I, al27, al28, inb_nI hi (by decide), cl_nI (show i < 2 ^ 31 by omega), cl_nI (show o / 2 < 2 ^ 31 by omega), ltt, q48]
  by_cases c : o % 2 = 1
  · rw [if_pos c] at hh ⊢
    have q28 : (s2 U (0, 1) 33 (U.1 (0, 1) 33 + w * v)).1 (0, 28) i = h := by simp [s2_at]; exact hh
    rw [q28]
    rfl
  · rw [if_neg c] at hh ⊢
    have q27 : (s2 U (0, 1) 33 (U.1 (0, 1) 33 + w * v)).1 (0, 27) i = h := by simp [s2_at]; exact hh
    rw [q27]
    rfl
theorem mw78n {F k Y : Nat} {k35 : Int32 → Int32 → vs → Option vs} {x3 : Int32} {U : vs} (hk : k < 6) : jX8_weigh_78 k35 F (nI Y) x3 (nI k) (nI (2 * Y)) (-9) (nI k) U = k35 x3 (dI k) (s2 U (0, 47) k (-9)) := by
  unfold jX8_weigh_78 jX8_weigh_205
  rw [al47, inb_nI hk (by decide), cl_nI (show k < 2 ^ 31 by omega), m2_eq]
  simp only [gd, if_true, stp, Int32.le_refl, ltt]
  rfl
theorem mw78 {F n k Y i o : Nat} {yr : Int32} {sd : Nat → Nat → Int32} {k35 : Int32 → Int32 → vs → Option vs} {x3 : Int32} {U : vs} (oS : OkS n yr sd) (hS : MS n yr sd U) (hk : k < 6) (hi : i < n) (h46 : U.1 (0, 46) k = nI i) (hY : Y ≤ 3) (ho : o < 2 * Y) : jX8_weigh_78 k35 F (nI Y) x3 (nI k) (nI o) (nI o) (nI k) U = k35 x3 (dI k) (s2 (s2 (s2 U (0, 47) k (nI o)) (0, 1) 33 (U.1 (0, 1) 33 + svF sd i o)) (0, 48) (o / 2) (U.1 (0, 48) (o / 2) + (if o % 2 = 0 then sd i 4 else sd i 5))) := by
  have hn := oS.1
  have f0 := hS.2.2.1 i 0 hi (by decide)
  have f1 := hS.2.2.1 i 1 hi (by decide)
  have f2 := hS.2.2.1 i 2 hi (by decide)
  have f3 := hS.2.2.1 i 3 hi (by decide)
  have f4 := hS.2.2.1 i 4 hi (by decide)
  have f5 := hS.2.2.1 i 5 hi (by decide)
  rw [show mk 0 = 23 from rfl] at f0
  rw [show mk 1 = 25 from rfl] at f1
  rw [show mk 2 = 26 from rfl] at f2
  rw [show mk 3 = 24 from rfl] at f3
  rw [show mk 4 = 27 from rfl] at f4
  rw [show mk 5 = 28 from rfl] at f5
  have fr : ∀ a j, a ≠ 47 → (s2 U (0, 47) k (nI o)).1 (0, a) j = U.1 (0, a) j := fun a j h => by rw [s2_at, if_neg (fun z => h (by have := z.1; simp at this; exact this))]
  have e0 : (s2 U (0, 47) k (nI o)).1 (0, 23) i = sd i 0 := by rw [fr 23 i (by decide), f0]
  have eh : (s2 U (0, 47) k (nI o)).1 (0, if o % 2 = 1 then 28 else 27) i = (if o % 2 = 0 then sd i 4 else sd i 5) := by
    by_cases c : o % 2 = 0
    · rw [if_neg (show ¬ o % 2 = 1 by omega), if_pos c, fr 27 i (by decide), f4]
    · rw [if_pos (show o % 2 = 1 by omega), if_neg c, fr 28 i (by decide), f5]
  have key : ∀ v, jX8_weigh_147 k35 F (nI Y) x3 (nI k) (nI o) (nI i) v (s2 U (0, 47) k (nI o)) = _ := fun v => mw147 (F := F) (k := k) (k35 := k35) (Y := nI Y) (x3 := x3) (v := v) (show i < 16 by omega) (show o < 6 by omega) e0 eh
  rw [fr 1 33 (by decide), fr 48 _ (by decide)] at key
  unfold jX8_weigh_78
  rw [al47, inb_nI hk (by decide), cl_nI (show k < 2 ^ 31 by omega), m2_eq]
  simp only [gd, if_true, stp, al46, inb_nI hk (by decide), ltt, fr 46 k (by decide), h46, al24, al26, al25, inb_nI (show i < 16 by omega) (by decide), cl_nI (show i < 2 ^ 31 by omega), aln_eq, Option.bind_some, fr 24 i (by decide), fr 26 i (by decide), fr 25 i (by decide), f1, f2, f3, half_I (show o < 2 ^ 31 by omega), odd_I (show o < 2 ^ 31 by omega), one_I, key]
  rw [if_neg (nle_nI ho (by omega))]
  rw [← sv_m oS hi (show o < 6 by omega)]
  by_cases c : o % 2 = 1
  · simp only [if_pos c]
  · simp only [if_neg c]
