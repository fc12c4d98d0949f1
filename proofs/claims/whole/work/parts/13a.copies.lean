/-! copy, copies, clearest -/
theorem chn_s (sd : Nat → Nat → Int32) (i m : Nat) : chn sd i (m + 1) = (chn sd i m).bind (par sd) := rfl
theorem chn_shift (sd : Nat → Nat → Int32) (i m : Nat) : chn sd i (m + 1) = (par sd i).bind (fun q => chn sd q m) := by
  induction m with
  | zero =>
    rw [chn_s]
    show par sd i = _
    generalize par sd i = o
    cases o <;> rfl
  | succ m ih =>
    rw [chn_s, ih]
    generalize par sd i = o
    cases o <;> rfl
theorem chn_add (sd : Nat → Nat → Int32) (i a k : Nat) {j : Nat} (h : chn sd i a = some j) : chn sd i (a + k) = chn sd j k := by
  induction k with
  | zero => exact h
  | succ k ih => rw [show a + (k + 1) = a + k + 1 by omega, chn_s, ih, chn_s]
theorem chn_none {sd : Nat → Nat → Int32} {i m : Nat} (h : chn sd i m = none) : ∀ k, chn sd i (m + k) = none := by
  intro k
  induction k with
  | zero => exact h
  | succ k ih => rw [show m + (k + 1) = m + k + 1 by omega, chn_s, ih]; rfl
/-- no chain is longer than there are SIDES -/
theorem chn_end {n : Nat} {yr : Int32} {sd : Nat → Nat → Int32} (h : OkS n yr sd) {i : Nat} (hi : i < n) : chn sd i n = none := by
  obtain ⟨m0, hm0⟩ := h.2.2.2 i hi
  by_cases hc : chn sd i n = none
  · exact hc
  · exfalso
    have hs : ∀ m, m ≤ n → ∃ q, chn sd i m = some q ∧ q < n := fun m hm => by
      cases e : chn sd i m with
      | none => exact absurd (by have := chn_none e (n - m); rwa [show m + (n - m) = n by omega] at this) hc
      | some q => exact ⟨q, rfl, chn_lt h hi m q e⟩
    let f : Nat → Nat := fun m => (chn sd i m).getD 0
    have hf : ∀ m, m < n + 1 → f m < n := fun m hm => by
      obtain ⟨q, e, hq⟩ := hs m (by omega)
      show (chn sd i m).getD 0 < n
      rw [e]; exact hq
    obtain ⟨a, b, hab, hb, e⟩ := fb_twice hf (by omega)
    obtain ⟨qa, ea, -⟩ := hs a (by omega)
    obtain ⟨qb, eb, -⟩ := hs b (by omega)
    have eq : qa = qb := by
      have : (chn sd i a).getD 0 = (chn sd i b).getD 0 := e
      rw [ea, eb] at this
      exact this
    have per : ∀ k, chn sd i (a + k * (b - a)) = some qa := by
      intro k
      induction k with
      | zero => rw [Nat.zero_mul]; exact ea
      | succ k ih =>
        have h1 := chn_add sd i _ (b - a) ih
        have h2 := chn_add sd i a (b - a) ea
        rw [show a + (k + 1) * (b - a) = a + k * (b - a) + (b - a) by rw [Nat.succ_mul]; omega, h1, ← h2, show a + (b - a) = b by omega, eb, eq]
    have h1 := per m0
    have hge : m0 ≤ a + m0 * (b - a) := by
      have : m0 * 1 ≤ m0 * (b - a) := Nat.mul_le_mul_left m0 (by omega)
      omega
    have h2 := chn_none hm0 (a + m0 * (b - a) - m0)
    rw [show m0 + (a + m0 * (b - a) - m0) = a + m0 * (b - a) by omega, h1] at h2
    cases h2
/-- the steps from one to the other -/
def stq (sd : Nat → Nat → Int32) (i t : Nat) : Nat → Nat → Int32
  | 0, _ => -9
  | d + 1, m => if chn sd i m = none then -9 else if chn sd i m = some t then nI m else stq sd i t d (m + 1)
theorem stq_or (sd : Nat → Nat → Int32) (i t : Nat) : ∀ d m, stq sd i t d m = (-9) ∨ ∃ k, m ≤ k ∧ k < m + d ∧ stq sd i t d m = nI k ∧ chn sd i k = some t
  | 0, m => Or.inl rfl
  | d + 1, m => by
    rw [stq]
    by_cases h1 : chn sd i m = none
    · rw [if_pos h1]; exact Or.inl rfl
    · rw [if_neg h1]
      by_cases h2 : chn sd i m = some t
      · rw [if_pos h2]; exact Or.inr ⟨m, Nat.le_refl _, by omega, rfl, h2⟩
      · rw [if_neg h2]
        rcases stq_or sd i t d (m + 1) with h | ⟨k, a, b, c, e⟩
        · exact Or.inl h
        · exact Or.inr ⟨k, by omega, by omega, c, e⟩
theorem stq_no {sd : Nat → Nat → Int32} {i t : Nat} : ∀ d m, m + d < 2 ^ 31 → stq sd i t d m = (-9) → ∀ k, m ≤ k → k < m + d → chn sd i k ≠ some t
  | 0, m, _, _, k, h1, h2 => by omega
  | d + 1, m, hb, h, k, h1, h2 => by
    rw [stq] at h
    by_cases e1 : chn sd i m = none
    · intro q
      have := chn_none e1 (k - m)
      rw [show m + (k - m) = k by omega, q] at this
      cases this
    · rw [if_neg e1] at h
      by_cases e2 : chn sd i m = some t
      · rw [if_pos e2] at h
        exact absurd h (nI_nm9 (by omega))
      · rw [if_neg e2] at h
        by_cases e3 : k = m
        · rw [e3]; exact e2
        · exact stq_no d (m + 1) (by omega) h k (by omega) (by omega)
/-- a chain's place as the machine has it -/
def chv (o : Option Nat) : Int32 := match o with
  | none => -9
  | some q => nI q
theorem par_v {n : Nat} {yr : Int32} {sd : Nat → Nat → Int32} (h : OkS n yr sd) {q : Nat} (hq : q < n) : chv (par sd q) = sd q 8 := by
  have hn := h.1
  rcases (h.2.2.1 q hq).2.2.2.2.2.2.2.2 with h8 | ⟨j, hj, h8⟩
  · rw [par_none h8]; exact h8.symm
  · rw [par_some h8 (by omega)]; exact h8.symm
theorem wi_sideT {n i : Nat} (hi : i < n) (hn : n ≤ 16) : wi 0 ((n : Int) - 1) (nI i) = true := wi_t.mpr ((rg_nI (by omega)).mpr ⟨by omega, by omega⟩)
theorem wi_m9 (n : Nat) : wi 0 ((n : Int) - 1) (-9) = false := by
  unfold wi
  rw [show ((-9 : Int32)).toInt = -9 from rfl]
  simp
theorem cst {F n i t : Nat} {yr : Int32} {sd : Nat → Nat → Int32} {S : vs} (o : OkS n yr sd) (h : RS n yr sd S) (hi : i < n) (ht : t < n) : ∀ (d m fuel : Nat), m + d = n → d < fuel → hX7_stepsUp_5 F S (nI t) fuel (chv (chn sd i m)) (nI m) = some (stq sd i t d m) := by
  have hn := o.1
  intro d
  induction d with
  | zero =>
    intro m fuel hm hf
    obtain ⟨f, rfl⟩ : ∃ f, fuel = f + 1 := ⟨fuel - 1, by omega⟩
    have : m = n := by omega
    subst this
    rw [hX7_stepsUp_5, h.2.1, if_pos (Int32.le_refl _)]
    rfl
  | succ d ih =>
    intro m fuel hm hf
    obtain ⟨f, rfl⟩ : ∃ f, fuel = f + 1 := ⟨fuel - 1, by omega⟩
    have nx := ih (m + 1) f (by omega) (by omega)
    rw [hX7_stepsUp_5, h.2.1, if_neg (nle_nI (show m < n by omega) (by omega)), isSide_eq (n := n) h.2.1 (by omega), stq]
    rw [chn_s] at nx
    have hlt := chn_lt o hi m
    generalize chn sd i m = c at nx hlt
    cases c with
    | none =>
      rw [show chv none = -9 from rfl, wi_m9]
      simp [b01]
    | some q =>
      have hq := hlt q rfl
      rw [show chv (some q) = nI q from rfl, wi_sideT hq hn]
      simp only [Option.bind_some, b01, if_true, show ((1 : Int32) = 0) = False by decide, if_false, rg2 h hn hq, alv1 h hq, gd, ltt, nI_1, h.2.2.2.2 q 8 hq (by decide)]
      rw [show (some q).bind (par sd) = par sd q from rfl, par_v o hq] at nx
      rw [nx]
      by_cases e : q = t
      · subst e; simp
      · have : ¬ nI q = nI t := fun z => e ((nI_eq (by omega) (by omega)).mp z)
        simp [this, e]
theorem cSt {F n i t : Nat} {yr : Int32} {sd : Nat → Nat → Int32} {S : vs} (o : OkS n yr sd) (h : RS n yr sd S) (hi : i < n) (ht : t < n) (hF : 100 ≤ F) : fX7_stepsUp F (nI i) (nI t) S = some (stq sd i t n 0) := cst o h hi ht n 0 F (by omega) (by have := o.1; omega)
theorem cSt9 {F n t : Nat} {yr : Int32} {sd : Nat → Nat → Int32} {S : vs} (o : OkS n yr sd) (h : RS n yr sd S) (hF : 100 ≤ F) (ht : t < n) : fX7_stepsUp F (-9) (nI t) S = some (-9) := by
  have hn := o.1
  obtain ⟨f, rfl⟩ : ∃ f, F = f + 1 := ⟨F - 1, by omega⟩
  unfold fX7_stepsUp
  rw [hX7_stepsUp_5, h.2.1, if_neg (show ¬ nI n ≤ 0 from nle_nI (a := 0) (by omega) (by omega)), isSide_eq (n := n) h.2.1 (by omega), wi_m9]
  simp [b01]
theorem mst {F n i t : Nat} {yr : Int32} {sd : Nat → Nat → Int32} {S : vs} (o : OkS n yr sd) (h : MS n yr sd S) (hi : i < n) (ht : t < n) : ∀ (d m fuel : Nat), m + d = n → d < fuel → hX8_stepsTo_5 F S (nI t) fuel (nI m) (chv (chn sd i m)) = some (stq sd i t d m) := by
  have hn := o.1
  have t9 : ¬ (-9 : Int32) = nI t := fun z => nI_nm9 (by omega) z.symm
  intro d
  induction d with
  | zero =>
    intro m fuel hm hf
    obtain ⟨f, rfl⟩ : ∃ f, fuel = f + 1 := ⟨fuel - 1, by omega⟩
    have : m = n := by omega
    subst this
    rw [chn_end o hi, hX8_stepsTo_5, show chv none = -9 from rfl, if_neg t9, if_pos rfl]
    unfold jX8_stepsTo_33
    rw [if_neg t9]
    rfl
  | succ d ih =>
    intro m fuel hm hf
    obtain ⟨f, rfl⟩ : ∃ f, fuel = f + 1 := ⟨fuel - 1, by omega⟩
    have nx := ih (m + 1) f (by omega) (by omega)
    rw [hX8_stepsTo_5, stq]
    rw [chn_s] at nx
    have hlt := chn_lt o hi m
    generalize chn sd i m = c at nx hlt
    cases c with
    | none =>
      rw [show chv none = -9 from rfl, if_neg t9, if_pos rfl]
      unfold jX8_stepsTo_33
      rw [if_neg t9]
      simp
    | some q =>
      have hq := hlt q rfl
      have q9 : ¬ nI q = (-9) := nI_nm9 (by omega)
      have h31 : S.1 (0, 31) q = sd q 8 := h.2.2.1 q 8 hq (by decide)
      rw [show chv (some q) = nI q from rfl]
      rw [show (some q).bind (par sd) = par sd q from rfl, par_v o hq] at nx
      by_cases e : q = t
      · subst e; simp [jX8_stepsTo_33]
      · have : ¬ nI q = nI t := fun z => e ((nI_eq (by omega) (by omega)).mp z)
        simp only [this, if_false, q9, al31, inb_nI (show q < 16 by omega) (by decide), cl_nI (show q < 2 ^ 31 by omega), gd, if_true, h31, ltt, nI_1]
        rw [nx]
        simp [e]
theorem mSt {F n i t : Nat} {yr : Int32} {sd : Nat → Nat → Int32} {S : vs} (o : OkS n yr sd) (h : MS n yr sd S) (hi : i < n) (ht : t < n) (hF : 100 ≤ F) : fX8_stepsTo F (nI i) (nI t) S = some (stq sd i t n 0) := mst o h hi ht n 0 F (by omega) (by have := o.1; omega)
/-- what a SIDE is a COPY of is set -/
theorem ok_up8 {n a : Nat} {yr x : Int32} {sd : Nat → Nat → Int32} (o : OkS n yr sd) (ha : a < n) (hx : x = (-9) ∨ ∃ j, j < n ∧ x = nI j ∧ stq sd j a n 0 = (-9)) : OkS n yr (up2 sd a 8 x) := by
  have hn := o.1
  refine ⟨hn, o.2.1, fun i hi => ?_, ?_⟩
  · obtain ⟨c0, c1, c2, c3, c4, c5, c9, c10, c8⟩ := o.2.2.1 i hi
    rw [up2_j sd x (show (0 : Nat) ≠ 8 by decide), up2_j sd x (show (1 : Nat) ≠ 8 by decide), up2_j sd x (show (2 : Nat) ≠ 8 by decide), up2_j sd x (show (3 : Nat) ≠ 8 by decide), up2_j sd x (show (4 : Nat) ≠ 8 by decide), up2_j sd x (show (5 : Nat) ≠ 8 by decide), up2_j sd x (show (9 : Nat) ≠ 8 by decide), up2_j sd x (show (10 : Nat) ≠ 8 by decide)]
    refine ⟨c0, c1, c2, c3, c4, c5, c9, c10, ?_⟩
    by_cases e : i = a
    · rw [e, up2_s]
      rcases hx with h | ⟨j, h1, h2, -⟩
      · exact Or.inl h
      · exact Or.inr ⟨j, h1, h2⟩
    · rw [up2_i sd x e]; exact c8
  · have pe : ∀ q, q ≠ a → par (up2 sd a 8 x) q = par sd q := fun q hq => by simp only [par, up2_i sd x hq]
    have pa : ∃ m, chn (up2 sd a 8 x) a m = none := by
      rcases hx with h | ⟨j, h1, h2, h3⟩
      · refine ⟨1, ?_⟩
        rw [chn_s]
        show par (up2 sd a 8 x) a = none
        exact par_none (by rw [up2_s]; exact h)
      · have nh : ∀ k, chn sd j k ≠ some a := fun k => by
          by_cases hk : k < n
          · exact stq_no n 0 (by omega) h3 k (by omega) (by omega)
          · have := chn_none (chn_end o h1) (k - n)
            rw [show n + (k - n) = k by omega] at this
            rw [this]; intro z; cases z
        have same : ∀ k, chn (up2 sd a 8 x) j k = chn sd j k := by
          intro k
          induction k with
          | zero => rfl
          | succ k ih =>
            rw [chn_s, chn_s, ih]
            exact obind (fun q hq => pe q (fun z => nh k (by rw [hq, z])))
        refine ⟨n + 1, ?_⟩
        rw [chn_shift, par_some (j := j) (by rw [up2_s]; exact h2) (by omega)]
        show chn (up2 sd a 8 x) j n = none
        rw [same, chn_end o h1]
    have all : ∀ m i, i < n → chn sd i m = none → ∃ k, chn (up2 sd a 8 x) i k = none := by
      intro m
      induction m with
      | zero => intro i hi h; cases h
      | succ m ih =>
        intro i hi h
        by_cases e : i = a
        · rw [e]; exact pa
        · rw [chn_shift] at h
          have hp := pe i e
          have hl : ∀ q, par sd i = some q → q < n := fun q hq => par_lt o hi hq
          generalize hg : par sd i = c at h hp hl
          cases c with
          | none =>
            refine ⟨1, ?_⟩
            rw [chn_s]
            exact hp
          | some q =>
            obtain ⟨k, hk⟩ := ih q (hl q rfl) h
            refine ⟨k + 1, ?_⟩
            rw [chn_shift, hp]
            exact hk
    intro i hi
    obtain ⟨m, hm⟩ := o.2.2.2 i hi
    exact all m i hi hm
