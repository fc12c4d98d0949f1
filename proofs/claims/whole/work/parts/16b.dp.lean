/-! THE BEST PLAN by sets: no machine here -/
def smI (g : Nat → Int) : Nat → Int
  | 0 => 0
  | n + 1 => smI g n + g n
theorem smI_congr {g h : Nat → Int} : ∀ n, (∀ i, i < n → g i = h i) → smI g n = smI h n
  | 0, _ => rfl
  | n + 1, e => by rw [smI, smI, smI_congr n (fun i hi => e i (by omega)), e n (by omega)]
theorem smI_add (g h : Nat → Int) : ∀ n, smI (fun i => g i + h i) n = smI g n + smI h n
  | 0 => rfl
  | n + 1 => by
    rw [smI, smI, smI, smI_add g h n]
    omega
theorem smI_zero {g : Nat → Int} : ∀ n, (∀ i, i < n → g i = 0) → smI g n = 0
  | 0, _ => rfl
  | n + 1, e => by rw [smI, smI_zero n (fun i hi => e i (by omega)), e n (by omega)]; rfl
theorem smI_b {g : Nat → Int} {c : Nat} : ∀ n, (∀ i, i < n → 0 ≤ g i ∧ g i ≤ c) → 0 ≤ smI g n ∧ smI g n ≤ (n * c : Nat)
  | 0, _ => by simp [smI]
  | n + 1, e => by
    have h1 := smI_b n (fun i hi => e i (by omega))
    have h2 := e n (by omega)
    rw [smI, Nat.succ_mul]
    omega
theorem smI_front (g : Nat → Int) : ∀ n, smI g (n + 1) = g 0 + smI (fun i => g (i + 1)) n
  | 0 => by simp [smI]
  | n + 1 => by
    rw [show smI g (n + 1 + 1) = smI g (n + 1) + g (n + 1) from rfl, smI_front g n, show smI (fun i => g (i + 1)) (n + 1) = smI (fun i => g (i + 1)) n + g (n + 1) from rfl]
    omega
def mkM (P : Nat → Bool) : Nat → Nat
  | 0 => 0
  | n + 1 => if P n = true then mkM P n ||| 2 ^ n else mkM P n
theorem mkM_bit (P : Nat → Bool) (i : Nat) : ∀ n, (mkM P n).testBit i = (decide (i < n) && P i)
  | 0 => by simp [mkM]
  | n + 1 => by
    have ih := mkM_bit P i n
    rw [mkM]
    by_cases c : P n = true
    · rw [if_pos c, fb_bit_set, ih]
      by_cases e : i = n
      · subst e; simp [c]
      · by_cases e2 : i < n
        · simp [e, e2, show i < n + 1 by omega]
        · simp [e, e2, show ¬ i < n + 1 by omega]
    · rw [if_neg c, ih]
      by_cases e : i = n
      · subst e; simp [Bool.eq_false_iff.mpr c]
      · by_cases e2 : i < n
        · simp [e2, show i < n + 1 by omega]
        · simp [e2, show ¬ i < n + 1 by omega]
theorem mkM_lt (P : Nat → Bool) (n : Nat) : mkM P n < 2 ^ n := by
  apply Nat.lt_pow_two_of_testBit
  intro i hi
  rw [mkM_bit]
  simp [show ¬ i < n by omega]
theorem sub_bit {z T i : Nat} (h : z &&& T = z) (hz : z.testBit i = true) : T.testBit i = true := by
  have : (z &&& T).testBit i = z.testBit i := by rw [h]
  rw [Nat.testBit_and, hz] at this
  simpa using this
theorem sub_of {z T : Nat} (h : ∀ i, z.testBit i = true → T.testBit i = true) : z &&& T = z := by
  apply Nat.eq_of_testBit_eq
  intro i
  rw [Nat.testBit_and]
  cases e : z.testBit i
  · rfl
  · rw [h i e]; rfl
theorem sub_le {z T : Nat} (h : z &&& T = z) : z ≤ T := by
  rw [← h]; exact Nat.and_le_right
def mS (e : Nat → Int) (n T : Nat) : Int := smI (fun i => if T.testBit i = true then e i else 0) n
def STr (N L sN sL : Nat → Int) (T : Nat) (H r : Int) : Prop := (∀ z, z &&& T = z → N z + L (T ^^^ z) ≤ H → sN z + sL (T ^^^ z) ≤ r) ∧ (r = -1 ∨ ∃ z, z &&& T = z ∧ N z + L (T ^^^ z) ≤ H ∧ r = sN z + sL (T ^^^ z))
def JNr (M one M' : Nat → Int) (T : Nat) : Prop := M T ≤ M' T ∧ (∀ p, p &&& T = p → p ≠ 0 → one p ≠ -1 → M (T ^^^ p) + one p ≤ M' T) ∧ (M' T = M T ∨ ∃ p, p &&& T = p ∧ p ≠ 0 ∧ one p ≠ -1 ∧ M' T = M (T ^^^ p) + one p)
def hO (lh nh : Nat → Int) (o i : Nat) : Int := if o % 2 = 0 then lh i else nh i
def uS (lh nh : Nat → Int) (n : Nat) (f : Nat → Nat) (y : Nat) : Int := smI (fun i => if f i / 2 = y then hO lh nh (f i) i else 0) n
def vS (sv : Nat → Nat → Int) (n y : Nat) (f : Nat → Nat) : Int := smI (fun i => if f i < 2 * y then sv (f i) i else 0) n
def fA (lh nh : Nat → Int) (n : Nat) (cap : Nat → Int) (y T : Nat) (f : Nat → Nat) : Prop := (∀ i, i < n → f i < 2 * y → T.testBit i = true) ∧ ∀ y', y' < y → uS lh nh n f y' ≤ cap y'
def isD (lh nh : Nat → Int) (sv : Nat → Nat → Int) (n : Nat) (cap : Nat → Int) (y : Nat) (M : Nat → Int) : Prop := ∀ T, T < 2 ^ n → (∃ f, fA lh nh n cap y T f ∧ vS sv n y f = M T) ∧ ∀ f, fA lh nh n cap y T f → vS sv n y f ≤ M T
theorem DP_0 {lh nh : Nat → Int} {sv : Nat → Nat → Int} {n : Nat} {cap M : Nat → Int} (h : ∀ T, T < 2 ^ n → M T = 0) : isD lh nh sv n cap 0 M := by
  intro T hT
  have z : ∀ f, vS sv n 0 f = 0 := fun f => smI_zero n (fun i _ => by simp)
  refine ⟨⟨fun _ => 0, ⟨fun i _ h => by omega, fun y' h => by omega⟩, by rw [z, h T hT]⟩, fun f _ => by rw [z, h T hT]; exact Int.le_refl _⟩
theorem xor_bit {T p i : Nat} (h : p &&& T = p) : (T ^^^ p).testBit i = (T.testBit i && !p.testBit i) := by
  rw [Nat.testBit_xor]
  cases e : p.testBit i
  · simp
  · rw [sub_bit h e]; rfl
theorem DP_s {lh nh : Nat → Int} {sv : Nat → Nat → Int} {n y : Nat} {cap M M' one : Nat → Int} (hD : isD lh nh sv n cap y M) (hS : ∀ p, p < 2 ^ n → p ≠ 0 → STr (mS nh n) (mS lh n) (mS (sv (2 * y + 1)) n) (mS (sv (2 * y)) n) p (cap y) (one p)) (hJ : ∀ T, T < 2 ^ n → JNr M one M' T) (hc : 0 ≤ cap y) (hp : ∀ o i, i < n → 0 ≤ sv o i) : isD lh nh sv n cap (y + 1) M' := by
  have pos : ∀ (o z : Nat), 0 ≤ mS (sv o) n z := fun o z => by
    unfold mS
    have : ∀ k, k ≤ n → 0 ≤ smI (fun i => if z.testBit i = true then sv o i else 0) k := fun k => by
      induction k with
      | zero => intro _; exact Int.le_refl _
      | succ k ih =>
        intro hk
        have := ih (by omega)
        have := hp o k (by omega)
        rw [smI]
        split <;> omega
    exact this n (Nat.le_refl _)
  intro T hT
  obtain ⟨j1, j2, j3⟩ := hJ T hT
  constructor
  · -- it is reached
    rcases j3 with e | ⟨p, p1, p2, p3, p4⟩
    · obtain ⟨⟨f, ⟨f1, f2⟩, f3⟩, -⟩ := hD T hT
      refine ⟨fun i => if f i < 2 * y then f i else 2 * y + 2, ⟨fun i hi h => ?_, fun y' hy => ?_⟩, ?_⟩
      · by_cases c : f i < 2 * y
        · exact f1 i hi c
        · simp only [c, if_false] at h; omega
      · by_cases c : y' = y
        · subst c
          have : uS lh nh n (fun i => if f i < 2 * y' then f i else 2 * y' + 2) y' = 0 := smI_zero n (fun i hi => by
            simp only []
            rw [if_neg]
            split <;> omega)
          rw [this]; exact hc
        · have : uS lh nh n (fun i => if f i < 2 * y then f i else 2 * y + 2) y' = uS lh nh n f y' := smI_congr n (fun i hi => by
            simp only []
            by_cases c2 : f i < 2 * y
            · simp only [if_pos c2]
            · simp only [if_neg c2]
              rw [if_neg (by omega), if_neg (by omega)])
          rw [this]; exact f2 y' (by omega)
      · rw [e, ← f3]
        exact smI_congr n (fun i hi => by
          simp only []
          by_cases c2 : f i < 2 * y
          · simp only [if_pos c2]
            rw [if_pos (by omega)]
          · simp only [if_neg c2]
            rw [if_neg (by omega)])
    · have hpT := sub_le p1
      rcases (hS p (by omega) p2).2 with e | ⟨z, z1, z2, z3⟩
      · exact absurd e p3
      · have hT' : T ^^^ p < 2 ^ n := Nat.xor_lt_two_pow hT (by omega)
        obtain ⟨⟨f, ⟨f1, f2⟩, f3⟩, -⟩ := hD (T ^^^ p) hT'
        have np : ∀ i, i < n → f i < 2 * y → p.testBit i = false := fun i hi h => by
          have := f1 i hi h
          rw [xor_bit p1] at this
          simp at this
          exact this.2
        have nz : ∀ i, p.testBit i = false → z.testBit i = false := fun i h => by
          cases e : z.testBit i
          · rfl
          · rw [sub_bit z1 e] at h; exact absurd h (by decide)
        have pT : ∀ i, p.testBit i = true → T.testBit i = true := fun i h => sub_bit p1 h
        refine ⟨fun i => if p.testBit i = true then (if z.testBit i = true then 2 * y + 1 else 2 * y) else (if f i < 2 * y then f i else 2 * y + 2), ⟨fun i hi h => ?_, fun y' hy => ?_⟩, ?_⟩
        · by_cases c : p.testBit i = true
          · exact pT i c
          · by_cases c2 : f i < 2 * y
            · have := f1 i hi c2
              rw [xor_bit p1] at this
              simp at this
              exact this.1
            · simp only [c, c2, if_false] at h; simp at h; omega
        · by_cases c : y' = y
          · subst c
            refine Int.le_trans (Int.le_of_eq ?_) z2
            unfold uS mS
            rw [← smI_add]
            refine smI_congr n (fun i hi => ?_)
            simp only []
            rw [xor_bit z1]
            cases e1 : p.testBit i
            · rw [nz i e1]
              by_cases c2 : f i < 2 * y'
              · simp [c2, show ¬ f i / 2 = y' by omega]
              · simp [c2, show ¬ (2 * y' + 2) / 2 = y' by omega]
            · cases e2 : z.testBit i
              · simp [hO, show 2 * y' / 2 = y' by omega, show 2 * y' % 2 = 0 by omega]
              · simp [hO, show (2 * y' + 1) / 2 = y' by omega, show (2 * y' + 1) % 2 = 1 by omega]
          · have : uS lh nh n (fun i => if p.testBit i = true then (if z.testBit i = true then 2 * y + 1 else 2 * y) else (if f i < 2 * y then f i else 2 * y + 2)) y' = uS lh nh n f y' := smI_congr n (fun i hi => by
              simp only []
              cases e1 : p.testBit i
              · by_cases c2 : f i < 2 * y
                · simp [c2]
                · simp only [Bool.false_eq_true, if_false, if_neg c2]
                  rw [if_neg (by omega), if_neg (by omega)]
              · have n2 : ¬ f i < 2 * y := fun h => by rw [np i hi h] at e1; exact absurd e1 (by decide)
                have : ¬ f i / 2 = y' := by omega
                cases e2 : z.testBit i
                · simp [this, show ¬ y = y' by omega]
                · simp [this, show ¬ (2 * y + 1) / 2 = y' by omega])
            rw [this]; exact f2 y' (by omega)
        · rw [p4, ← f3, z3]
          unfold vS mS
          rw [← smI_add, ← smI_add]
          refine smI_congr n (fun i hi => ?_)
          simp only []
          rw [xor_bit z1]
          cases e1 : p.testBit i
          · rw [nz i e1]
            by_cases c2 : f i < 2 * y
            · simp [c2, show f i < 2 * (y + 1) by omega]
            · simp [c2, show ¬ 2 * y + 2 < 2 * (y + 1) by omega]
          · have n2 : ¬ f i < 2 * y := fun h => by rw [np i hi h] at e1; exact absurd e1 (by decide)
            cases e2 : z.testBit i
            · simp [n2, show 2 * y < 2 * (y + 1) by omega]
            · simp [n2, show 2 * y + 1 < 2 * (y + 1) by omega]
  · -- nothing saves more
    intro f ⟨f1, f2⟩
    let part := mkM (fun i => decide (f i / 2 = y)) n
    let z := mkM (fun i => decide (f i = 2 * y + 1)) n
    have bp : ∀ i, i < n → part.testBit i = decide (f i / 2 = y) := fun i hi => by
      show (mkM _ n).testBit i = _
      rw [mkM_bit]; simp [hi]
    have bz' : ∀ i, i < n → z.testBit i = decide (f i = 2 * y + 1) := fun i hi => by
      show (mkM _ n).testBit i = _
      rw [mkM_bit]; simp [hi]
    have plt : part < 2 ^ n := mkM_lt _ n
    have bpt : ∀ i, part.testBit i = true → i < n ∧ f i / 2 = y := fun i h => by
      have h : (mkM (fun i => decide (f i / 2 = y)) n).testBit i = true := h
      rw [mkM_bit] at h
      simpa using h
    have bzt : ∀ i, z.testBit i = true → i < n ∧ f i = 2 * y + 1 := fun i h => by
      have h : (mkM (fun i => decide (f i = 2 * y + 1)) n).testBit i = true := h
      rw [mkM_bit] at h
      simpa using h
    have zp : z &&& part = z := sub_of (fun i h => by
      obtain ⟨h1, h2⟩ := bzt i h
      rw [bp i h1, decide_eq_true_eq]
      omega)
    have pT : part &&& T = part := sub_of (fun i h => by
      obtain ⟨h1, h2⟩ := bpt i h
      exact f1 i h1 (by omega))
    have hA : fA lh nh n cap y (T ^^^ part) f := ⟨fun i hi h => by
      rw [xor_bit pT, f1 i hi (by omega), bp i hi]
      simp
      omega, fun y' hy => f2 y' (by omega)⟩
    have hT' : T ^^^ part < 2 ^ n := Nat.xor_lt_two_pow hT plt
    have hb := (hD (T ^^^ part) hT').2 f hA
    have eV : vS sv n (y + 1) f = vS sv n y f + (mS (sv (2 * y + 1)) n z + mS (sv (2 * y)) n (part ^^^ z)) := by
      unfold vS mS
      rw [← smI_add, ← smI_add]
      refine smI_congr n (fun i hi => ?_)
      rw [xor_bit zp, bp i hi, bz' i hi]
      by_cases c1 : f i < 2 * y
      · simp [c1, show f i < 2 * (y + 1) by omega, show ¬ f i / 2 = y by omega, show ¬ f i = 2 * y + 1 by omega]
      · by_cases c2 : f i = 2 * y + 1
        · simp [c2, show 2 * y + 1 < 2 * (y + 1) by omega, show ¬ 2 * y + 1 < 2 * y by omega]
        · by_cases c3 : f i = 2 * y
          · simp [c3, show 2 * y < 2 * (y + 1) by omega, show 2 * y / 2 = y by omega]
          · simp [c1, c2, show ¬ f i < 2 * (y + 1) by omega, show ¬ f i / 2 = y by omega]
    have eU : mS nh n z + mS lh n (part ^^^ z) = uS lh nh n f y := by
      unfold uS mS
      rw [← smI_add]
      refine smI_congr n (fun i hi => ?_)
      rw [xor_bit zp, bp i hi, bz' i hi]
      by_cases c2 : f i = 2 * y + 1
      · simp [c2, hO, show (2 * y + 1) / 2 = y by omega, show (2 * y + 1) % 2 = 1 by omega]
      · by_cases c3 : f i / 2 = y
        · simp [c2, c3, hO, show f i % 2 = 0 by omega]
        · simp [c2, c3]
    by_cases c : part = 0
    · have e1 : ∀ i, i < n → ¬ f i / 2 = y := fun i hi h => by
        have := bp i hi
        rw [c, decide_eq_true h] at this
        simp at this
      have e2 : vS sv n (y + 1) f = vS sv n y f := smI_congr n (fun i hi => by
        have := e1 i hi
        by_cases c1 : f i < 2 * y
        · rw [if_pos c1, if_pos (by omega)]
        · rw [if_neg c1, if_neg (by omega)])
      rw [c, Nat.xor_zero] at hb
      rw [e2]
      exact Int.le_trans hb j1
    · have s1 := (hS part plt c).1 z zp (by rw [eU]; exact f2 y (by omega))
      have q1 := pos (2 * y + 1) z
      have q2 := pos (2 * y) (part ^^^ z)
      have s2 := j2 part pT c (by omega)
      rw [eV]
      omega
