/-! span -/
def cnt (sg : Nat → Nat → Int32) (s : Int32) (q : Nat) (v : Int) : Prop := lvs sg s q = true ∧ (sg q 1).toInt ≤ v ∧ v ≤ (sg q 2).toInt
def wz (sg : Nat → Nat → Int32) (s : Int32) (v : Int) : Nat → Int
  | 0 => 0
  | k + 1 => wz sg s v k + (if lvs sg s k = true ∧ (sg k 1).toInt ≤ v ∧ v ≤ (sg k 2).toInt then (sg k 3).toInt else 0)
theorem wz_b {sg : Nat → Nat → Int32} {s : Int32} {g : Nat} (o : OkG g sg) (v : Int) : ∀ k, k ≤ g → 0 ≤ wz sg s v k ∧ wz sg s v k ≤ 9 * k
  | 0, _ => ⟨by simp [wz], by simp [wz]⟩
  | k + 1, h => by
    have ih := wz_b o v k (by omega) (s := s)
    have hw := (o.2 k (by omega)).2.2.2.1
    have h1 := hw.1
    have h2 := hw.2
    rw [wz]
    split <;> omega
theorem wsm_wz {sg : Nat → Nat → Int32} {s : Int32} {g : Nat} (o : OkG g sg) (x : Int32) : ∀ k, k ≤ g → (wsm sg s x k).toInt = wz sg s x.toInt k
  | 0, _ => rfl
  | k + 1, h => by
    have ih := wsm_wz o x k (by omega) (s := s)
    have hb := wz_b o x.toInt k (by omega) (s := s)
    have hg := o.1
    have hw := (o.2 k (by omega)).2.2.2.1
    have h1 := hw.1
    have h2 := hw.2
    rw [wsm, wz]
    unfold hld wi
    by_cases c : lvs sg s k = true ∧ (sg k 1).toInt ≤ x.toInt ∧ x.toInt ≤ (sg k 2).toInt
    · rw [if_pos c, if_pos (by simp [c.1, c.2.1, c.2.2]), fb_addI (by rw [ih]; omega) (by rw [ih]; omega), ih]
    · rw [if_neg c, if_neg (fun z => c (by simpa [and_assoc] using z)), fb_addI (by rw [ih, show (0 : Int32).toInt = 0 from rfl]; omega) (by rw [ih, show (0 : Int32).toInt = 0 from rfl]; omega), ih]
      rfl
theorem wz_mono {sg : Nat → Nat → Int32} {s : Int32} {g : Nat} (o : OkG g sg) {u v : Int} : ∀ k, k ≤ g → (∀ q, q < k → cnt sg s q v → cnt sg s q u) → wz sg s v k ≤ wz sg s u k
  | 0, _, _ => Int.le_refl _
  | k + 1, h, hq => by
    have ih := wz_mono o k (by omega) (fun q hk => hq q (by omega)) (s := s) (u := u) (v := v)
    have hw := (o.2 k (by omega)).2.2.2.1
    have h1 := hw.1
    rw [wz, wz]
    by_cases c : lvs sg s k = true ∧ (sg k 1).toInt ≤ v ∧ v ≤ (sg k 2).toInt
    · rw [if_pos c, if_pos (hq k (by omega) c)]; omega
    · rw [if_neg c]
      split <;> omega
theorem wz_pos {sg : Nat → Nat → Int32} {s : Int32} {v : Int} : ∀ k, wz sg s v k ≠ 0 → ∃ q, q < k ∧ cnt sg s q v
  | 0, h => absurd rfl h
  | k + 1, h => by
    by_cases c : lvs sg s k = true ∧ (sg k 1).toInt ≤ v ∧ v ≤ (sg k 2).toInt
    · exact ⟨k, by omega, c⟩
    · rw [wz, if_neg c] at h
      obtain ⟨q, h1, h2⟩ := wz_pos k (by omega) (sg := sg) (s := s) (v := v)
      exact ⟨q, by omega, h2⟩
/-- the heaviest is heaviest among the signs' beginnings -/
theorem spd_ok {sg : Nat → Nat → Int32} {s : Int32} {g : Nat} (o : OkG g sg) : ∀ k, k ≤ g → (spd sg s g k = (-9) ∨ ∃ q, q < k ∧ lvs sg s q = true ∧ spd sg s g k = sg q 1) ∧ ∀ q, q < k → lvs sg s q = true → wz sg s (sg q 1).toInt g ≤ (spn sg s g (spd sg s g k)).toInt
  | 0, _ => ⟨Or.inl rfl, fun q h => by omega⟩
  | k + 1, h => by
    obtain ⟨h1, h2⟩ := spd_ok o k (by omega) (s := s)
    have hl := low_ne o (show k < g by omega)
    have ew : spn sg s g (sg k 1) = wsm sg s (sg k 1) g := if_neg hl
    have ez : (wsm sg s (sg k 1) g).toInt = wz sg s (sg k 1).toInt g := wsm_wz o (sg k 1) g (Nat.le_refl _)
    rw [spd]
    generalize spd sg s g k = b at h1 h2
    have keep : (b = (-9) ∨ ∃ q, q < k + 1 ∧ lvs sg s q = true ∧ b = sg q 1) := by
      rcases h1 with e | ⟨q, a1, a2, a3⟩
      · exact Or.inl e
      · exact Or.inr ⟨q, by omega, a2, a3⟩
    by_cases c : lvs sg s k = true
    · rw [if_pos c]
      by_cases c1 : spn sg s g b < wsm sg s (sg k 1) g
      · rw [if_pos c1]
        refine ⟨Or.inr ⟨k, by omega, c, rfl⟩, fun q hq hv => ?_⟩
        rw [ew, ez]
        rw [fa_lt, ez] at c1
        by_cases e : q = k
        · rw [e]; exact Int.le_refl _
        · have := h2 q (by omega) hv; omega
      · rw [if_neg c1]
        rw [fa_lt, ez] at c1
        by_cases c2 : wsm sg s (sg k 1) g = spn sg s g b
        · rw [if_pos c2]
          have c2' : wz sg s (sg k 1).toInt g = (spn sg s g b).toInt := by rw [← ez, c2]
          split
          · refine ⟨keep, fun q hq hv => ?_⟩
            by_cases e : q = k
            · rw [e, c2']; exact Int.le_refl _
            · exact h2 q (by omega) hv
          · refine ⟨Or.inr ⟨k, by omega, c, rfl⟩, fun q hq hv => ?_⟩
            rw [ew, ez, c2']
            by_cases e : q = k
            · rw [e, c2']; exact Int.le_refl _
            · exact h2 q (by omega) hv
        · rw [if_neg c2]
          refine ⟨keep, fun q hq hv => ?_⟩
          by_cases e : q = k
          · rw [e]; omega
          · exact h2 q (by omega) hv
    · rw [if_neg c]
      refine ⟨keep, fun q hq hv => ?_⟩
      by_cases e : q = k
      · rw [e] at hv; exact absurd hv c
      · exact h2 q (by omega) hv
/-- nothing weighs more than the heaviest -/
theorem wz_max {sg : Nat → Nat → Int32} {s : Int32} {g : Nat} (o : OkG g sg) (v : Int) : wz sg s v g ≤ (spn sg s g (spd sg s g g)).toInt ∨ wz sg s v g = 0 := by
  by_cases h : wz sg s v g = 0
  · exact Or.inr h
  · left
    -- of the signs that hold v, one that begins last
    have ex : ∃ q, q < g ∧ cnt sg s q v ∧ ∀ q', q' < g → cnt sg s q' v → (sg q' 1).toInt ≤ (sg q 1).toInt := by
      have : ∀ k, k ≤ g → (∃ q, q < k ∧ cnt sg s q v) → ∃ q, q < k ∧ cnt sg s q v ∧ ∀ q', q' < k → cnt sg s q' v → (sg q' 1).toInt ≤ (sg q 1).toInt := by
        intro k
        induction k with
        | zero => rintro _ ⟨q, hq, -⟩; omega
        | succ k ih =>
          rintro hk ⟨q, hq, hc⟩
          by_cases hck : cnt sg s k v
          · by_cases hex : ∃ q, q < k ∧ cnt sg s q v
            · obtain ⟨q1, a1, a2, a3⟩ := ih (by omega) hex
              by_cases hle : (sg q1 1).toInt ≤ (sg k 1).toInt
              · refine ⟨k, by omega, hck, fun q' hq' hc' => ?_⟩
                by_cases e : q' = k
                · rw [e]; exact Int.le_refl _
                · have := a3 q' (by omega) hc'; omega
              · refine ⟨q1, by omega, a2, fun q' hq' hc' => ?_⟩
                by_cases e : q' = k
                · rw [e]; omega
                · exact a3 q' (by omega) hc'
            · refine ⟨k, by omega, hck, fun q' hq' hc' => ?_⟩
              by_cases e : q' = k
              · rw [e]; exact Int.le_refl _
              · exact absurd ⟨q', by omega, hc'⟩ hex
          · have hq' : q ≠ k := fun e => hck (by rw [← e]; exact hc)
            obtain ⟨q1, a1, a2, a3⟩ := ih (by omega) ⟨q, by omega, hc⟩
            refine ⟨q1, by omega, a2, fun q' hq' hc' => ?_⟩
            by_cases e : q' = k
            · rw [e] at hc'; exact absurd hc' hck
            · exact a3 q' (by omega) hc'
      exact this g (Nat.le_refl _) (wz_pos g h)
    obtain ⟨q, hq, hc, hm⟩ := ex
    have h1 : wz sg s v g ≤ wz sg s (sg q 1).toInt g := wz_mono o g (Nat.le_refl _) (fun q' hq' hc' => ⟨hc'.1, hm q' hq' hc', Int.le_trans hc.2.1 hc'.2.2⟩)
    have h2 := (spd_ok o g (Nat.le_refl _) (s := s)).2 q hq hc.1
    omega
theorem wz_up {sg : Nat → Nat → Int32} {s : Int32} {g : Nat} (o : OkG g sg) (t : Int) (h : ∀ q, q < g → lvs sg s q = true → (sg q 2).toInt ≠ t) : wz sg s t g ≤ wz sg s (t + 1) g := wz_mono o g (Nat.le_refl _) (fun q hq hc => ⟨hc.1, by have := hc.2.1; omega, by have := hc.2.2; have := h q hq hc.1; omega⟩)
theorem wz_dn {sg : Nat → Nat → Int32} {s : Int32} {g : Nat} (o : OkG g sg) (t : Int) (h : ∀ q, q < g → lvs sg s q = true → (sg q 1).toInt ≠ t + 1) : wz sg s (t + 1) g ≤ wz sg s t g := wz_mono o g (Nat.le_refl _) (fun q hq hc => ⟨hc.1, by have := hc.2.1; have := h q hq hc.1; omega, by have := hc.2.2; omega⟩)
/-- the end of THE SPAN -/
def isE (sg : Nat → Nat → Int32) (s : Int32) (g : Nat) (f e : Int) : Prop := f ≤ e ∧ e ≤ 30000 ∧ (∀ t, f ≤ t → t ≤ e → wz sg s t g = wz sg s f g) ∧ (e < 30000 → wz sg s (e + 1) g ≠ wz sg s f g)
theorem isE_one {sg : Nat → Nat → Int32} {s : Int32} {g : Nat} {f e e' : Int} (h : isE sg s g f e) (h' : isE sg s g f e') : e = e' := by
  obtain ⟨a, b, c, d⟩ := h
  obtain ⟨a', b', c', d'⟩ := h'
  by_cases h1 : e < e'
  · exact absurd (c' (e + 1) (by omega) (by omega)) (d (by omega))
  · by_cases h2 : e' < e
    · exact absurd (c (e' + 1) (by omega) (by omega)) (d' (by omega))
    · omega
-- the class
def lsh (sg : Nat → Nat → Int32) (s : Int32) (g : Nat) (f : Int32) : Nat → Int32
  | 0 => 30000
  | k + 1 => if lvs sg s k = true ∧ f.toInt ≤ (sg k 2).toInt ∧ (sg k 2).toInt < (lsh sg s g f k).toInt ∧ ¬ wsm sg s (sg k 2 + 1) g = wsm sg s f g then sg k 2 else lsh sg s g f k
theorem csh {F g : Nat} {sg : Nat → Nat → Int32} {S : vs} {s f : Int32} (o : OkG g sg) (h : RG g sg S) (hF : 100 ≤ F) : ∀ (d k fuel : Nat), k + d = g → d < fuel → hX4_lastHeaviest_30 F S s f (wsm sg s f g) fuel (lsh sg s g f k) (nI k) = some (lsh sg s g f g) := by
  have hg := o.1
  intro d
  induction d with
  | zero =>
    intro k fuel hk hf
    obtain ⟨fu, rfl⟩ : ∃ f, fuel = f + 1 := ⟨fuel - 1, by omega⟩
    have : k = g := by omega
    subst this
    rw [hX4_lastHeaviest_30, h.2.1, if_pos (Int32.le_refl _)]
  | succ d ih =>
    intro k fuel hk hf
    obtain ⟨fu, rfl⟩ : ∃ f, fuel = f + 1 := ⟨fuel - 1, by omega⟩
    have hkg : k < g := by omega
    have nx := ih (k + 1) fu (by omega) (by omega)
    rw [hX4_lastHeaviest_30, h.2.1, if_neg (nle_nI hkg (by omega)), rg3 h hg hkg]
    simp only [Option.bind_some, alv2 h hkg, gd, if_true, cOf h hkg, b01_ite, jX4_lastHeaviest_107, jX4_lastHeaviest_83, jX4_lastHeaviest_82, ltt, nI_1, h.2.2.2 k 2 hkg (by decide), cW o h hF, show ((1 : Int32) = 0) = False by decide, if_false]
    rw [← nx, lsh]
    simp only [fa_lt, fa_le]
    generalize lsh sg s g f k = b
    by_cases c : lvs sg s k = true
    · by_cases c1 : (sg k 2).toInt < f.toInt
      · rw [if_pos c, if_pos c1, if_neg (by omega)]
      · by_cases c2 : b.toInt ≤ (sg k 2).toInt
        · rw [if_pos c, if_neg c1, if_pos c2, if_neg (by omega)]
        · rw [if_pos c, if_neg c1, if_neg c2]
          by_cases c3 : wsm sg s (sg k 2 + 1) g = wsm sg s f g
          · rw [if_pos c3, if_neg (fun z => z.2.2.2 c3)]
          · rw [if_neg c3, if_pos ⟨c, by omega, by omega, c3⟩]
    · rw [if_neg c, if_neg (fun z => c z.1)]
theorem inc_toInt {x : Int32} (h1 : 0 ≤ x.toInt) (h2 : x.toInt ≤ 30000) : (x + 1).toInt = x.toInt + 1 := by
  rw [fb_addI (by rw [show (1 : Int32).toInt = 1 from rfl]; omega) (by rw [show (1 : Int32).toInt = 1 from rfl]; omega)]
  rfl
theorem lsh_ok {sg : Nat → Nat → Int32} {s f : Int32} {g : Nat} (o : OkG g sg) (hf1 : f.toInt ≤ 30000) : ∀ k, k ≤ g → (f.toInt ≤ (lsh sg s g f k).toInt ∧ (lsh sg s g f k).toInt ≤ 30000) ∧ ((lsh sg s g f k).toInt < 30000 → wz sg s ((lsh sg s g f k).toInt + 1) g ≠ wz sg s f.toInt g) ∧ ∀ q, q < k → lvs sg s q = true → f.toInt ≤ (sg q 2).toInt → wz sg s ((sg q 2).toInt + 1) g ≠ wz sg s f.toInt g → (lsh sg s g f k).toInt ≤ (sg q 2).toInt
  | 0, _ => ⟨⟨hf1, by decide⟩, fun z => absurd z (by decide), fun q hq => by omega⟩
  | k + 1, h => by
    obtain ⟨⟨a1, a2⟩, a3, a4⟩ := lsh_ok o hf1 k (by omega) (s := s)
    have hr := (o.2 k (by omega)).2.1
    have e1 : (sg k 2 + 1).toInt = (sg k 2).toInt + 1 := inc_toInt (by have := hr.1; omega) hr.2
    have e2 : (wsm sg s (sg k 2 + 1) g = wsm sg s f g) ↔ wz sg s ((sg k 2).toInt + 1) g = wz sg s f.toInt g := by
      rw [fa_eq, wsm_wz o _ g (Nat.le_refl _), wsm_wz o _ g (Nat.le_refl _), e1]
    rw [lsh]
    generalize lsh sg s g f k = b at a1 a2 a3 a4
    by_cases c : lvs sg s k = true ∧ f.toInt ≤ (sg k 2).toInt ∧ (sg k 2).toInt < b.toInt ∧ ¬ wsm sg s (sg k 2 + 1) g = wsm sg s f g
    · rw [if_pos c]
      obtain ⟨c1, c2, c3, c4⟩ := c
      refine ⟨⟨c2, by omega⟩, fun _ => fun z => c4 (e2.mpr z), fun q hq hl hf hn => ?_⟩
      by_cases e : q = k
      · rw [e]; exact Int.le_refl _
      · have := a4 q (by omega) hl hf hn; omega
    · rw [if_neg c]
      refine ⟨⟨a1, a2⟩, a3, fun q hq hl hf hn => ?_⟩
      by_cases e : q = k
      · subst e
        by_cases h3 : (sg q 2).toInt < b.toInt
        · exact absurd ⟨hl, hf, h3, fun z => hn (e2.mp z)⟩ c
        · omega
      · exact a4 q (by omega) hl hf hn
theorem lsh_isE {sg : Nat → Nat → Int32} {s f : Int32} {g : Nat} (o : OkG g sg) (hf : f = spd sg s g g) (h9 : ¬ f = (-9)) : isE sg s g f.toInt (lsh sg s g f g).toInt := by
  obtain ⟨p1, p2⟩ := spd_ok o g (Nat.le_refl _) (s := s)
  rw [← hf] at p1
  obtain ⟨q0, hq0, hl0, he0⟩ := p1.resolve_left h9
  have hr := (o.2 q0 hq0).1
  rw [← he0] at hr
  have A : (spn sg s g f).toInt = wz sg s f.toInt g := by
    unfold spn
    rw [if_neg h9, wsm_wz o _ g (Nat.le_refl _)]
  have Apos := (wz_b o f.toInt g (Nat.le_refl _) (s := s)).1
  have mx : ∀ v, wz sg s v g ≤ wz sg s f.toInt g := fun v => by
    have := wz_max o v (s := s)
    rw [← hf, A] at this
    omega
  obtain ⟨⟨a1, a2⟩, a3, a4⟩ := lsh_ok o hr.2 g (Nat.le_refl _) (s := s)
  refine ⟨a1, a2, fun t h1 h2 => ?_, a3⟩
  obtain ⟨d, hd⟩ : ∃ d : Nat, t = f.toInt + d := ⟨(t - f.toInt).toNat, by omega⟩
  subst hd
  clear h1
  induction d with
  | zero => simp
  | succ d ih =>
    have ih := ih (by omega)
    by_cases hne : wz sg s (f.toInt + (d + 1 : Nat)) g = wz sg s f.toInt g
    · exact hne
    · exfalso
      have e : f.toInt + ((d + 1 : Nat) : Int) = (f.toInt + d) + 1 := by omega
      rw [e] at hne
      have hlt : wz sg s ((f.toInt + d) + 1) g < wz sg s (f.toInt + d) g := by
        have := mx ((f.toInt + d) + 1)
        rw [ih]
        omega
      by_cases hex : ∃ q, q < g ∧ lvs sg s q = true ∧ (sg q 2).toInt = f.toInt + d
      · obtain ⟨q, hq, hl, he⟩ := hex
        have := a4 q hq hl (by omega) (by rw [he]; exact hne)
        omega
      · have := wz_up o (f.toInt + d) (fun q hq hl he => hex ⟨q, hq, hl, he⟩) (s := s)
        omega
