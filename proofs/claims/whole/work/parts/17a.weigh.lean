/-! the reference's plans: a code is weighed -/
def dg (B m c p : Nat) : Nat := (c / B ^ (m - 1 - p)) % B
theorem smI_mono {g : Nat → Int} {a : Nat} : ∀ b, (∀ i, i < b → 0 ≤ g i) → a ≤ b → smI g a ≤ smI g b
  | 0, _, h => by rw [show a = 0 by omega]; exact Int.le_refl _
  | b + 1, hp, h => by
    by_cases e : a = b + 1
    · rw [e]; exact Int.le_refl _
    · have := smI_mono b (fun i hi => hp i (by omega)) (show a ≤ b by omega)
      have := hp b (by omega)
      rw [show smI g (b + 1) = smI g b + g b from rfl]
      omega
def uF (lh nh : Nat → Int) (Y : Nat) (f : Nat → Nat) (y p : Nat) : Int := if f p < 2 * Y ∧ f p / 2 = y then hO lh nh (f p) p else 0
def gF (sv : Nat → Nat → Int) (Y : Nat) (f : Nat → Nat) (p : Nat) : Int := if f p < 2 * Y then sv (f p) p else 0
theorem uF_lo {lh nh : Nat → Int} {Y : Nat} {f : Nat → Nat} {y n : Nat} (hy : y < Y) : smI (uF lh nh Y f y) n = uS lh nh n f y := smI_congr n (fun i hi => by
  unfold uF
  by_cases c : f i / 2 = y
  · rw [if_pos ⟨by omega, c⟩, if_pos c]
  · rw [if_neg (fun z => c z.2), if_neg c])
theorem uF_hi {lh nh : Nat → Int} {Y : Nat} {f : Nat → Nat} {y n : Nat} (hy : Y ≤ y) : smI (uF lh nh Y f y) n = 0 := smI_zero n (fun i hi => by
  unfold uF
  rw [if_neg (fun z => by omega)])
theorem lo0_I {z : Int32} : (lo0 z).toInt = if 0 < z.toInt then z.toInt else 0 := by
  unfold lo0
  have e : (0 < z) ↔ 0 < z.toInt := by rw [fa_lt]; rfl
  by_cases h : 0 < z
  · rw [if_pos h, if_pos (e.mp h)]
  · rw [if_neg h, if_neg (fun q => h (e.mpr q))]; rfl
theorem sv_m {n i o : Nat} {yr : Int32} {sd : Nat → Nat → Int32} (oS : OkS n yr sd) (hi : i < n) (ho : o < 6) : sd i 0 * (if o % 2 = 1 then lo0 (lo0 (sd i 3 - nI (o / 2) * sd i 2) - sd i 1) else lo0 (sd i 3 - nI (o / 2) * sd i 2)) = svF sd i o := by
  obtain ⟨h0, h1, h2, h3, -, -, -, -, -⟩ := oS.2.2.1 i hi
  unfold svF
  rw [if_pos ho, Int32.mul_comm (nI (o / 2)) (sd i 2)]
  congr 1
  have hb : 0 ≤ (sd i 2).toInt * ((o / 2 : Nat) : Int) ∧ (sd i 2).toInt * ((o / 2 : Nat) : Int) ≤ 300 := by
    have := h2.1
    have := h2.2
    rcases (show o / 2 = 0 ∨ o / 2 = 1 ∨ o / 2 = 2 by omega) with e | e | e <;> rw [e] <;> simp <;> omega
  have e1 : (sd i 2 * nI (o / 2)).toInt = (sd i 2).toInt * ((o / 2 : Nat) : Int) := by
    rw [fb_mulI (by rw [nI_toInt (by omega)]; omega) (by rw [nI_toInt (by omega)]; omega), nI_toInt (by omega)]
  generalize sd i 2 * nI (o / 2) = q at e1
  rw [← e1] at hb
  have s1 := h3.1
  have s2 := h3.2
  have w1 := h1.1
  have w2 := h1.2
  by_cases c : o % 2 = 0
  · rw [if_neg (show ¬ o % 2 = 1 by omega), if_pos c, Int32.add_zero]
  · rw [if_pos (show o % 2 = 1 by omega), if_neg c]
    have d1 : (sd i 3 - q).toInt = (sd i 3).toInt - q.toInt := fb_subI (by omega) (by omega)
    have d2 : (q + sd i 1).toInt = q.toInt + (sd i 1).toInt := fb_addI (by omega) (by omega)
    have d3 : (sd i 3 - (q + sd i 1)).toInt = (sd i 3).toInt - (q.toInt + (sd i 1).toInt) := by rw [fb_subI (by rw [d2]; omega) (by rw [d2]; omega), d2]
    have l1 : 0 ≤ (lo0 (sd i 3 - q)).toInt ∧ (lo0 (sd i 3 - q)).toInt ≤ 100 := by
      rw [lo0_I, d1]
      split <;> omega
    have d4 : (lo0 (sd i 3 - q) - sd i 1).toInt = (lo0 (sd i 3 - q)).toInt - (sd i 1).toInt := fb_subI (by omega) (by omega)
    rw [fa_eq, lo0_I, d4, lo0_I, lo0_I, d1, d3]
    split <;> split <;> (try split) <;> omega
def MB (m s : Nat) (U : vs) : Prop := U.1 (0, 1) 30 = nI m ∧ ∀ p, p < m → U.1 (0, 46) p = nI (mm s 16 p)
abbrev lhI (sd : Nat → Nat → Int32) (s : Nat) : Nat → Int := fun p => (lhM sd s p).toInt
abbrev nhI (sd : Nat → Nat → Int32) (s : Nat) : Nat → Int := fun p => (nhM sd s p).toInt
abbrev svI (sd : Nat → Nat → Int32) (s : Nat) : Nat → Nat → Int := fun o p => (svM sd s o p).toInt
def WI (sd : Nat → Nat → Int32) (s m Y : Nat) (f : Nat → Nat) (k : Nat) (U : vs) : Prop := (U.1 (0, 1) 33).toInt = smI (gF (svI sd s) Y f) m - smI (gF (svI sd s) Y f) k ∧ (∀ y, y < 3 → (U.1 (0, 48) y).toInt = smI (uF (lhI sd s) (nhI sd s) Y f y) m - smI (uF (lhI sd s) (nhI sd s) Y f y) k) ∧ ∀ p, k ≤ p → p < m → U.1 (0, 47) p = if f p = 2 * Y then (-9) else nI (f p)
theorem scr_w (a j : Nat) (h : 46 ≤ a ∧ a ≤ 48) : scr (0, a) j := by unfold scr; simp; omega
theorem scr_s (j : Nat) (h : j = 30 ∨ j = 33) : scr (0, 1) j := by unfold scr; simp; omega
