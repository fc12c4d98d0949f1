/-! span -/
def cnt (sg : Nat → Nat → Int32) (s : Int32) (q : Nat) (v : Int) : Prop := lvs sg s q = true ∧ (sg q 1).toInt ≤ v ∧ v ≤ (sg q 2).toInt
def wz (sg : Nat → Nat → Int32) (s : Int32) (v : Int) : Nat → Int
  | 0 => 0
  | k + 1 => wz sg s v k + (if lvs sg s k = true ∧ (sg k 1).toInt ≤ v ∧ v ≤ (sg k 2).toInt then (sg k 3).toInt else 0)
theorem wz_b {sg : Nat → Nat → Int32} {s : Int32} {g : Nat} (o : OkG g sg) (v : Int) : ∀ k, k ≤ g → 0 ≤ wz sg s v k ∧ wz sg s v k ≤ 9 * k
  | 0, _ => ⟨by simp [wz], by simp [wz]⟩
  | k + 1, h => by
    have ih := wz_b o v k (by omega) (s := s)
    have hw := (o.2 k (by omega)).2.2.2.1
    have h1 := hw.1
    have h2 := hw.2
    rw [wz]
    split <;> omega
theorem wsm_wz {sg : Nat → Nat → Int32} {s : Int32} {g : Nat} (o : OkG g sg) (x : Int32) : ∀ k, k ≤ g → (wsm sg s x k).toInt = wz sg s x.toInt k
  | 0, _ => rfl
  | k + 1, h => by
    have ih := wsm_wz o x k (by omega) (s := s)
    have hb := wz_b o x.toInt k (by omega) (s := s)
    have hg := o.1
    have hw := (o.2 k (by omega)).2.2.2.1
    have h1 := hw.1
    have h2 := hw.2
    rw [wsm, wz]
    unfold hld wi
    by_cases c : lvs sg s k = true ∧ (sg k 1).toInt ≤ x.toInt ∧ x.toInt ≤ (sg k 2).toInt
    · rw [if_pos c, if_pos (by simp [c.1, c.2.1, c.2.2]), fb_addI (by rw [ih]; omega) (by rw [ih]; omega), ih]
    · rw [if_neg c, if_neg (fun z => c (by simpa [and_assoc] using z)), fb_addI (by rw [ih, show (0 : Int32).toInt = 0 from rfl]; omega) (by rw [ih, show (0 : Int32).toInt = 0 from rfl]; omega), ih]
      rfl
theorem wz_mono {sg : Nat → Nat → Int32} {s : Int32} {g : Nat} (o : OkG g sg) {u v : Int} : ∀ k, k ≤ g → (∀ q, q < k → cnt sg s q v → cnt sg s q u) → wz sg s v k ≤ wz sg s u k
  | 0, _, _ => Int.le_refl _
  | k + 1, h, hq => by
    have ih := wz_mono o k (by omega) (fun q hk => hq q (by omega)) (s := s) (u := u) (v := v)
    have hw := (o.2 k (by omega)).2.2.2.1
    have h1 := hw.1
    rw [wz, wz]
    by_cases c : lvs sg s k = true ∧ (sg k 1).toInt ≤ v ∧ v ≤ (sg k 2).toInt
    · have c' : lvs sg s k = true ∧ (sg k 1).toInt ≤ u ∧ u ≤ (sg k 2).toInt := hq k (by omega) c
      rw [if_pos c, if_pos c']; omega
    · rw [if_neg c]
      split <;> omega
theorem wz_pos {sg : Nat → Nat → Int32} {s : Int32} {v : Int} : ∀ k, wz sg s v k ≠ 0 → ∃ q, q < k ∧ cnt sg s q v
  | 0, h => absurd rfl h
  | k + 1, h => by
    by_cases c : lvs sg s k = true ∧ (sg k 1).toInt ≤ v ∧ v ≤ (sg k 2).toInt
    · exact ⟨k, by omega, c⟩
    · rw [wz, if_neg c] at h
      obtain ⟨q, h1, h2⟩ := wz_pos k (by omega) (sg := sg) (s := s) (v := v)
      exact ⟨q, by omega, h2⟩
/-- the heaviest is heaviest among the signs' beginnings -/
theorem spd_ok {sg : Nat → Nat → Int32} {s : Int32} {g : Nat} (o : OkG g sg) : ∀ k, k ≤ g → (spd sg s g k = (-9) ∨ ∃ q, q < k ∧ lvs sg s q = true ∧ spd sg s g k = sg q 1) ∧ ∀ q, q < k → lvs sg s q = true → wz sg s (sg q 1).toInt g ≤ (spn sg s g (spd sg s g k)).toInt
  | 0, _ => ⟨Or.inl rfl, fun q h => by omega⟩
  | k + 1, h => by
    obtain ⟨h1, h2⟩ := spd_ok o k (by omega) (s := s)
    have hl := low_ne o (show k < g by omega)
    have ew : spn sg s g (sg k 1) = wsm sg s (sg k 1) g := if_neg hl
    have ez : (wsm sg s (sg k 1) g).toInt = wz sg s (sg k 1).toInt g := wsm_wz o (sg k 1) g (Nat.le_refl _)
    rw [spd]
    generalize spd sg s g k = b at h1 h2
    have keep : (b = (-9) ∨ ∃ q, q < k + 1 ∧ lvs sg s q = true ∧ b = sg q 1) := by
      rcases h1 with e | ⟨q, a1, a2, a3⟩
      · exact Or.inl e
      · exact Or.inr ⟨q, by omega, a2, a3⟩
    by_cases c : lvs sg s k = true
    · rw [if_pos c]
      by_cases c1 : spn sg s g b < wsm sg s (sg k 1) g
      · rw [if_pos c1]
        refine ⟨Or.inr ⟨k, by omega, c, rfl⟩, fun q hq hv => ?_⟩
        rw [ew, ez]
        rw [fa_lt, ez] at c1
        by_cases e : q = k
        · rw [e]; exact Int.le_refl _
        · have := h2 q (by omega) hv; omega
      · rw [if_neg c1]
        rw [fa_lt, ez] at c1
        by_cases c2 : wsm sg s (sg k 1) g = spn sg s g b
        · rw [if_pos c2]
          have c2' : wz sg s (sg k 1).toInt g = (spn sg s g b).toInt := by rw [← ez, c2]
          split
          · refine ⟨keep, fun q hq hv => ?_⟩
            by_cases e : q = k
            · rw [e, c2']; exact Int.le_refl _
            · exact h2 q (by omega) hv
          · refine ⟨Or.inr ⟨k, by omega, c, rfl⟩, fun q hq hv => ?_⟩
            rw [ew, ez, c2']
            by_cases e : q = k
            · rw [e, c2']; exact Int.le_refl _
            · exact h2 q (by omega) hv
        · rw [if_neg c2]
          refine ⟨keep, fun q hq hv => ?_⟩
          by_cases e : q = k
          · rw [e]; omega
          · exact h2 q (by omega) hv
    · rw [if_neg c]
      refine ⟨keep, fun q hq hv => ?_⟩
      by_cases e : q = k
      · rw [e] at hv; exact absurd hv c
      · exact h2 q (by omega) hv
/-- nothing weighs more than the heaviest -/
theorem wz_max {sg : Nat → Nat → Int32} {s : Int32} {g : Nat} (o : OkG g sg) (v : Int) : wz sg s v g ≤ (spn sg s g (spd sg s g g)).toInt ∨ wz sg s v g = 0 := by
  by_cases h : wz sg s v g = 0
  · exact Or.inr h
  · left
    -- of the signs that hold v, one that begins last
    have ex : ∃ q, q < g ∧ cnt sg s q v ∧ ∀ q', q' < g → cnt sg s q' v → (sg q' 1).toInt ≤ (sg q 1).toInt := by
      have : ∀ k, k ≤ g → (∃ q, q < k ∧ cnt sg s q v) → ∃ q, q < k ∧ cnt sg s q v ∧ ∀ q', q' < k → cnt sg s q' v → (sg q' 1).toInt ≤ (sg q 1).toInt := by
        intro k
        induction k with
        | zero => rintro _ ⟨q, hq, -⟩; omega
        | succ k ih =>
          rintro hk ⟨q, hq, hc⟩
          by_cases hck : cnt sg s k v
          · by_cases hex : ∃ q, q < k ∧ cnt sg s q v
            · obtain ⟨q1, a1, a2, a3⟩ := ih (by omega) hex
              by_cases hle : (sg q1 1).toInt ≤ (sg k 1).toInt
              · refine ⟨k, by omega, hck, fun q' hq' hc' => ?_⟩
                by_cases e : q' = k
                · rw [e]; exact Int.le_refl _
                · have := a3 q' (by omega) hc'; omega
              · refine ⟨q1, by omega, a2, fun q' hq' hc' => ?_⟩
                by_cases e : q' = k
                · rw [e]; omega
                · exact a3 q' (by omega) hc'
            · refine ⟨k, by omega, hck, fun q' hq' hc' => ?_⟩
              by_cases e : q' = k
              · rw [e]; exact Int.le_refl _
              · exact absurd ⟨q', by omega, hc'⟩ hex
          · have hq' : q ≠ k := fun e => hck (by rw [← e]; exact hc)
            obtain ⟨q1, a1, a2, a3⟩ := ih (by omega) ⟨q, by omega, hc⟩
            refine ⟨q1, by omega, a2, fun q' hq' hc' => ?_⟩
            by_cases e : q' = k
            · rw [e] at hc'; exact absurd hc' hck
            · exact a3 q' (by omega) hc'
      exact this g (Nat.le_refl _) (wz_pos g h)
    obtain ⟨q, hq, hc, hm⟩ := ex
    have h1 : wz sg s v g ≤ wz sg s (sg q 1).toInt g := wz_mono o g (Nat.le_refl _) (fun q' hq' hc' => ⟨hc'.1, hm q' hq' hc', Int.le_trans hc.2.1 hc'.2.2⟩)
    have h2 := (spd_ok o g (Nat.le_refl _) (s := s)).2 q hq hc.1
    omega
theorem wz_up {sg : Nat → Nat → Int32} {s : Int32} {g : Nat} (o : OkG g sg) (t : Int) (h : ∀ q, q < g → lvs sg s q = true → (sg q 2).toInt ≠ t) : wz sg s t g ≤ wz sg s (t + 1) g := wz_mono o g (Nat.le_refl _) (fun q hq hc => ⟨hc.1, by have := hc.2.1; omega, by have := hc.2.2; have := h q hq hc.1; omega⟩)
theorem wz_dn {sg : Nat → Nat → Int32} {s : Int32} {g : Nat} (o : OkG g sg) (t : Int) (h : ∀ q, q < g → lvs sg s q = true → (sg q 1).toInt ≠ t + 1) : wz sg s (t + 1) g ≤ wz sg s t g := wz_mono o g (Nat.le_refl _) (fun q hq hc => ⟨hc.1, by have := hc.2.1; have := h q hq hc.1; omega, by have := hc.2.2; omega⟩)
/-- the end of THE SPAN -/
def isE (sg : Nat → Nat → Int32) (s : Int32) (g : Nat) (f e : Int) : Prop := f ≤ e ∧ e ≤ 30000 ∧ (∀ t, f ≤ t → t ≤ e → wz sg s t g = wz sg s f g) ∧ (e < 30000 → wz sg s (e + 1) g ≠ wz sg s f g)
theorem isE_one {sg : Nat → Nat → Int32} {s : Int32} {g : Nat} {f e e' : Int} (h : isE sg s g f e) (h' : isE sg s g f e') : e = e' := by
  obtain ⟨a, b, c, d⟩ := h
  obtain ⟨a', b', c', d'⟩ := h'
  by_cases h1 : e < e'
  · exact absurd (c' (e + 1) (by omega) (by omega)) (d (by omega))
  · by_cases h2 : e' < e
    · exact absurd (c (e' + 1) (by omega) (by omega)) (d' (by omega))
    · omega
-- the class
def lsh (sg : Nat → Nat → Int32) (s : Int32) (g : Nat) (f : Int32) : Nat → Int32
  | 0 => 30000
  | k + 1 => if lvs sg s k = true ∧ f.toInt ≤ (sg k 2).toInt ∧ (sg k 2).toInt < (lsh sg s g f k).toInt ∧ ¬ wsm sg s (sg k 2 + 1) g = wsm sg s f g then sg k 2 else lsh sg s g f k
theorem csh {F g : Nat} {sg : Nat → Nat → Int32} {S : vs} {s f : Int32} (o : OkG g sg) (h : RG g sg S) (hF : 100 ≤ F) : ∀ (d k fuel : Nat), k + d = g → d < fuel → hX4_lastHeaviest_30 F S s f (wsm sg s f g) fuel (lsh sg s g f k) (nI k) = some (lsh sg s g f g) := by
  have hg := o.1
  intro d
  induction d with
  | zero =>
    intro k fuel hk hf
    obtain ⟨fu, rfl⟩ : ∃ f, fuel = f + 1 := ⟨fuel - 1, by omega⟩
    have : k = g := by omega
    subst this
    rw [hX4_lastHeaviest_30, h.2.1, if_pos (Int32.le_refl _)]
  | succ d ih =>
    intro k fuel hk hf
    obtain ⟨fu, rfl⟩ : ∃ f, fuel = f + 1 := ⟨fuel - 1, by omega⟩
    have hkg : k < g := by omega
    have nx := ih (k + 1) fu (by omega) (by omega)
    rw [hX4_lastHeaviest_30, h.2.1, if_neg (nle_nI hkg (by omega)), rg3 h hg hkg]
    simp only [Option.bind_some, alv2 h hkg, gd, if_true, cOf h hkg, b01_ite, jX4_lastHeaviest_107, jX4_lastHeaviest_83, jX4_lastHeaviest_82, ltt, nI_1, h.2.2.2 k 2 hkg (by decide), cW o h hF, show ((1 : Int32) = 0) = False by decide, if_false]
    rw [← nx, lsh]
    simp only [fa_lt, fa_le]
    generalize lsh sg s g f k = b
    by_cases c : lvs sg s k = true
    · by_cases c1 : (sg k 2).toInt < f.toInt
      · rw [if_pos c, if_pos c1, if_neg (by omega)]
      · by_cases c2 : b.toInt ≤ (sg k 2).toInt
        · rw [if_pos c, if_neg c1, if_pos c2, if_neg (by omega)]
        · rw [if_pos c, if_neg c1, if_neg c2]
          by_cases c3 : wsm sg s (sg k 2 + 1) g = wsm sg s f g
          · rw [if_pos c3, if_neg (fun z => z.2.2.2 c3)]
          · rw [if_neg c3, if_pos ⟨c, by omega, by omega, c3⟩]
    · rw [if_neg c, if_neg (fun z => c z.1)]
theorem inc_toInt {x : Int32} (h1 : 0 ≤ x.toInt) (h2 : x.toInt ≤ 30000) : (x + 1).toInt = x.toInt + 1 := by
  rw [fb_addI (by rw [show (1 : Int32).toInt = 1 from rfl]; omega) (by rw [show (1 : Int32).toInt = 1 from rfl]; omega)]
  rfl
theorem lsh_ok {sg : Nat → Nat → Int32} {s f : Int32} {g : Nat} (o : OkG g sg) (hf1 : f.toInt ≤ 30000) : ∀ k, k ≤ g → (f.toInt ≤ (lsh sg s g f k).toInt ∧ (lsh sg s g f k).toInt ≤ 30000) ∧ ((lsh sg s g f k).toInt < 30000 → wz sg s ((lsh sg s g f k).toInt + 1) g ≠ wz sg s f.toInt g) ∧ ∀ q, q < k → lvs sg s q = true → f.toInt ≤ (sg q 2).toInt → wz sg s ((sg q 2).toInt + 1) g ≠ wz sg s f.toInt g → (lsh sg s g f k).toInt ≤ (sg q 2).toInt
  | 0, _ => ⟨⟨hf1, show (30000 : Int32).toInt ≤ 30000 by decide⟩, fun z => absurd z (show ¬ (30000 : Int32).toInt < 30000 by decide), fun q hq => by omega⟩
  | k + 1, h => by
    obtain ⟨⟨a1, a2⟩, a3, a4⟩ := lsh_ok o hf1 k (by omega) (s := s)
    have hr := (o.2 k (by omega)).2.1
    have e1 : (sg k 2 + 1).toInt = (sg k 2).toInt + 1 := inc_toInt (by have := hr.1; omega) hr.2
    have e2 : (wsm sg s (sg k 2 + 1) g = wsm sg s f g) ↔ wz sg s ((sg k 2).toInt + 1) g = wz sg s f.toInt g := by
      rw [fa_eq, wsm_wz o _ g (Nat.le_refl _), wsm_wz o _ g (Nat.le_refl _), e1]
    rw [lsh]
    generalize lsh sg s g f k = b at a1 a2 a3 a4
    by_cases c : lvs sg s k = true ∧ f.toInt ≤ (sg k 2).toInt ∧ (sg k 2).toInt < b.toInt ∧ ¬ wsm sg s (sg k 2 + 1) g = wsm sg s f g
    · rw [if_pos c]
      obtain ⟨c1, c2, c3, c4⟩ := c
      refine ⟨⟨c2, by omega⟩, fun _ => fun z => c4 (e2.mpr z), fun q hq hl hf hn => ?_⟩
      by_cases e : q = k
      · rw [e]; exact Int.le_refl _
      · have := a4 q (by omega) hl hf hn; omega
    · rw [if_neg c]
      refine ⟨⟨a1, a2⟩, a3, fun q hq hl hf hn => ?_⟩
      by_cases e : q = k
      · subst e
        by_cases h3 : (sg q 2).toInt < b.toInt
        · exact absurd ⟨hl, hf, h3, fun z => hn (e2.mp z)⟩ c
        · omega
      · exact a4 q (by omega) hl hf hn
theorem lsh_isE {sg : Nat → Nat → Int32} {s f : Int32} {g : Nat} (o : OkG g sg) (hf : f = spd sg s g g) (h9 : ¬ f = (-9)) : isE sg s g f.toInt (lsh sg s g f g).toInt := by
  obtain ⟨p1, p2⟩ := spd_ok o g (Nat.le_refl _) (s := s)
  rw [← hf] at p1
  obtain ⟨q0, hq0, hl0, he0⟩ := p1.resolve_left h9
  have hr := (o.2 q0 hq0).1
  rw [← he0] at hr
  have A : (spn sg s g f).toInt = wz sg s f.toInt g := by
    unfold spn
    rw [if_neg h9, wsm_wz o _ g (Nat.le_refl _)]
  have Apos := (wz_b o f.toInt g (Nat.le_refl _) (s := s)).1
  have mx : ∀ v, wz sg s v g ≤ wz sg s f.toInt g := fun v => by
    have := wz_max o v (s := s)
    rw [← hf, A] at this
    omega
  obtain ⟨⟨a1, a2⟩, a3, a4⟩ := lsh_ok o hr.2 g (Nat.le_refl _) (s := s)
  refine ⟨a1, a2, fun t h1 h2 => ?_, a3⟩
  obtain ⟨d, hd⟩ : ∃ d : Nat, t = f.toInt + d := ⟨(t - f.toInt).toNat, by omega⟩
  subst hd
  clear h1
  induction d with
  | zero => simp
  | succ d ih =>
    have ih := ih (by omega)
    by_cases hne : wz sg s (f.toInt + (d + 1 : Nat)) g = wz sg s f.toInt g
    · exact hne
    · exfalso
      have e : f.toInt + ((d + 1 : Nat) : Int) = (f.toInt + d) + 1 := by omega
      rw [e] at hne
      have hlt : wz sg s ((f.toInt + d) + 1) g < wz sg s (f.toInt + d) g := by
        have := mx ((f.toInt + d) + 1)
        rw [ih]
        omega
      by_cases hex : ∃ q, q < g ∧ lvs sg s q = true ∧ (sg q 2).toInt = f.toInt + d
      · obtain ⟨q, hq, hl, he⟩ := hex
        have := a4 q hq hl (by omega) (by rw [he]; exact hne)
        omega
      · have := wz_up o (f.toInt + d) (fun q hq hl he => hex ⟨q, hq, hl, he⟩) (s := s)
        omega
-- the model
def nx1 (a h n : Int32) : Int32 := if h ≤ a then n else if n ≤ h then n else h
theorem nx1_ok (a h n : Int32) (hn : a.toInt < n.toInt) : a.toInt < (nx1 a h n).toInt ∧ (nx1 a h n).toInt ≤ n.toInt ∧ (a.toInt < h.toInt → (nx1 a h n).toInt ≤ h.toInt) := by
  unfold nx1
  by_cases c : h ≤ a
  · rw [if_pos c]; rw [fa_le] at c; omega
  · rw [if_neg c]
    rw [fa_le] at c
    by_cases c2 : n ≤ h
    · rw [if_pos c2]; rw [fa_le] at c2; omega
    · rw [if_neg c2]; rw [fa_le] at c2; omega
def nxs (sg : Nat → Nat → Int32) (s a : Int32) : Nat → Int32
  | 0 => 30000
  | k + 1 => if lvs sg s k = true then nx1 a (sg k 1 - 1) (nx1 a (sg k 2) (nxs sg s a k)) else nxs sg s a k
theorem dec_toInt {x : Int32} (h1 : 1 ≤ x.toInt) (h2 : x.toInt ≤ 30000) : (x - 1).toInt = x.toInt - 1 := by
  rw [fb_subI (by rw [show (1 : Int32).toInt = 1 from rfl]; omega) (by rw [show (1 : Int32).toInt = 1 from rfl]; omega)]
  rfl
theorem nxs_ok {sg : Nat → Nat → Int32} {s a : Int32} {g : Nat} (o : OkG g sg) (ha : a.toInt < 30000) : ∀ k, k ≤ g → a.toInt < (nxs sg s a k).toInt ∧ (nxs sg s a k).toInt ≤ 30000 ∧ ∀ q, q < k → lvs sg s q = true → (a.toInt < (sg q 2).toInt → (nxs sg s a k).toInt ≤ (sg q 2).toInt) ∧ (a.toInt < (sg q 1).toInt - 1 → (nxs sg s a k).toInt ≤ (sg q 1).toInt - 1)
  | 0, _ => ⟨ha, show (30000 : Int32).toInt ≤ 30000 by decide, fun q hq => by omega⟩
  | k + 1, h => by
    obtain ⟨h1, h2, h3⟩ := nxs_ok o ha k (by omega) (s := s)
    have hr := (o.2 k (by omega)).1
    have e1 : (sg k 1 - 1).toInt = (sg k 1).toInt - 1 := dec_toInt hr.1 hr.2
    rw [nxs]
    generalize nxs sg s a k = b at h1 h2 h3
    by_cases c : lvs sg s k = true
    · rw [if_pos c]
      obtain ⟨p1, p2, p3⟩ := nx1_ok a (sg k 2) b h1
      obtain ⟨q1, q2, q3⟩ := nx1_ok a (sg k 1 - 1) (nx1 a (sg k 2) b) p1
      rw [e1] at q3
      refine ⟨q1, by omega, fun q hq hl => ?_⟩
      by_cases e : q = k
      · subst e
        exact ⟨fun z => by have := p3 z; omega, q3⟩
      · have := h3 q (by omega) hl
        exact ⟨fun z => by have := this.1 z; omega, fun z => by have := this.2 z; omega⟩
    · rw [if_neg c]
      refine ⟨h1, h2, fun q hq hl => ?_⟩
      by_cases e : q = k
      · rw [e] at hl; exact absurd hl c
      · exact h3 q (by omega) hl
theorem mnx {F g : Nat} {sg : Nat → Nat → Int32} {S : vs} {s w a : Int32} (o : OkG g sg) (h : MG g sg S) (kk : Int32 → vs → Option (Int32 × vs)) : ∀ (d k fuel : Nat), k + d = g → d < fuel → hX8_span_69 kk F s w a fuel (nxs sg s a k) (nI k) S = kk (nxs sg s a g) S := by
  have hg := o.1
  intro d
  induction d with
  | zero =>
    intro k fuel hk hf
    obtain ⟨f, rfl⟩ : ∃ f, fuel = f + 1 := ⟨fuel - 1, by omega⟩
    have : k = g := by omega
    subst this
    rw [hX8_span_69, h.1, if_pos (Int32.le_refl _)]
  | succ d ih =>
    intro k fuel hk hf
    obtain ⟨f, rfl⟩ : ∃ f, fuel = f + 1 := ⟨fuel - 1, by omega⟩
    have hkg : k < g := by omega
    have nx := ih (k + 1) f (by omega) (by omega)
    have hin : inb (nI k) 60 = true := inb_nI (by omega) (by decide)
    have hcl : (nI k).toNatClampNeg = k := cl_nI (by omega)
    have h35 : S.1 (0, 35) k = sg k 1 := h.2.1 k 1 hkg (by decide)
    have h36 : S.1 (0, 36) k = sg k 2 := h.2.1 k 2 hkg (by decide)
    rw [hX8_span_69, h.1, if_neg (nle_nI hkg (by omega)), mOf o h hkg]
    simp only [Option.bind_some, al35, al36, hin, hcl, h35, h36, gd, if_true, b01_ite, jX8_span_170, jX8_span_168, jX8_span_166, jX8_span_124, jX8_span_122, ltt, nI_1]
    rw [← nx, nxs]
    generalize nxs sg s a k = b
    unfold nx1
    by_cases c : lvs sg s k = true
    · rw [if_pos c, if_pos c]
      by_cases c1 : sg k 2 ≤ a
      · simp only [if_pos c1]
        by_cases c3 : sg k 1 - 1 ≤ a
        · simp only [if_pos c3]
        · simp only [if_neg c3]
          by_cases c4 : b ≤ sg k 1 - 1
          · simp only [if_pos c4]
          · simp only [if_neg c4]
      · simp only [if_neg c1]
        by_cases c2 : b ≤ sg k 2
        · simp only [if_pos c2]
          by_cases c3 : sg k 1 - 1 ≤ a
          · simp only [if_pos c3]
          · simp only [if_neg c3]
            by_cases c4 : b ≤ sg k 1 - 1
            · simp only [if_pos c4]
            · simp only [if_neg c4]
        · simp only [if_neg c2]
          by_cases c3 : sg k 1 - 1 ≤ a
          · simp only [if_pos c3]
          · simp only [if_neg c3]
            by_cases c4 : sg k 2 ≤ sg k 1 - 1
            · simp only [if_pos c4]
            · simp only [if_neg c4]
    · rw [if_neg c, if_neg c]
theorem mse {F g : Nat} {sg : Nat → Nat → Int32} {S : vs} {s f : Int32} (o : OkG g sg) (h : MG g sg S) (hF : 100 ≤ F) (hf : 1 ≤ f.toInt) : ∀ (fuel : Nat) (a : Int32), (30000 - a.toInt).toNat < fuel → f.toInt ≤ a.toInt → a.toInt ≤ 30000 → (∀ t, f.toInt ≤ t → t ≤ a.toInt → wz sg s t g = wz sg s f.toInt g) → ∃ e, hX8_span_40 F s (wsm sg s f g) fuel a S = some (e, S) ∧ isE sg s g f.toInt e.toInt
  | 0, a, h1, _, _, _ => by omega
  | fuel + 1, a, h1, h2, h3, h4 => by
    have hg := o.1
    rw [hX8_span_40]
    by_cases c : (30000 : Int32) ≤ a
    · rw [if_pos c]
      rw [fa_le, show (30000 : Int32).toInt = 30000 from rfl] at c
      exact ⟨a, rfl, h2, h3, h4, fun z => by omega⟩
    · rw [if_neg c]
      rw [fa_le, show (30000 : Int32).toInt = 30000 from rfl] at c
      have e1 : (a + 1).toInt = a.toInt + 1 := inc_toInt (by omega) (by omega)
      have ew : (wsm sg s (a + 1) g).toInt = wz sg s (a.toInt + 1) g := by rw [wsm_wz o _ g (Nat.le_refl _), e1]
      have ef : (wsm sg s f g).toInt = wz sg s f.toInt g := wsm_wz o _ g (Nat.le_refl _)
      simp only [mW o h hF, Option.bind_some]
      by_cases c1 : wsm sg s (a + 1) g = wsm sg s f g
      · rw [if_pos c1]
        have c1' : wz sg s (a.toInt + 1) g = wz sg s f.toInt g := by rw [← ew, ← ef, c1]
        have i1 := mnx (F := F) (w := wsm sg s f g) (a := a) (s := s) o h (hX8_span_40 F s (wsm sg s f g) fuel) g 0 F (by omega) (by omega)
        rw [show nxs sg s a 0 = 30000 from rfl, nI_0] at i1
        rw [i1]
        obtain ⟨n1, n2, n3⟩ := nxs_ok o (show a.toInt < 30000 by omega) g (Nat.le_refl _) (s := s)
        refine mse o h hF hf fuel (nxs sg s a g) (by omega) (by omega) n2 (fun t t1 t2 => ?_)
        by_cases ht : t ≤ a.toInt
        · exact h4 t t1 ht
        · obtain ⟨d, hd⟩ : ∃ d : Nat, t = a.toInt + 1 + d := ⟨(t - (a.toInt + 1)).toNat, by omega⟩
          subst hd
          clear ht t1
          induction d with
          | zero => simpa using c1'
          | succ d ih =>
            have ih := ih (by omega)
            have u1 := wz_up o (a.toInt + 1 + d) (fun q hq hl he => by have := (n3 q hq hl).1 (by omega); omega) (s := s)
            have u2 := wz_dn o (a.toInt + 1 + d) (fun q hq hl he => by have := (n3 q hq hl).2 (by omega); omega) (s := s)
            have e : a.toInt + 1 + ((d + 1 : Nat) : Int) = (a.toInt + 1 + d) + 1 := by omega
            rw [e]
            omega
      · rw [if_neg c1]
        exact ⟨a, rfl, h2, h3, h4, fun _ z => c1 ((fa_eq _ _).mpr (by rw [ew, ef]; exact z))⟩
theorem pst11 (F : Nat) (hF : 100000 ≤ F) : St11 F Inv := by
  intro S hI x1
  obtain ⟨n, yr, sd, oS, rS, mS⟩ := hI.s
  obtain ⟨g, sg, oG, rG, mG⟩ := hI.g
  have hn := oS.1
  have e7 := isSide_eq (F := F) (x := x1) rS.2.1 (by omega)
  have mT : MS n yr sd (T0 S) := mS.ag (T0_ag S)
  have mGT : MG g sg (T0 S) := mG.ag (T0_ag S)
  have e8 := noSide_eq (F := F) (x := x1) mT.1 (by omega)
  by_cases c1 : wi 0 ((n : Int) - 1) x1 = true
  · have q7 := cSpd (F := F) (s := x1) oG rG (by omega)
    have q8 := mSpd (F := F) (s := x1) oG mGT (by omega)
    obtain ⟨p1, p2⟩ := spd_ok oG g (Nat.le_refl _) (s := x1)
    have el := fun hf h9 => lsh_isE (s := x1) (f := spd sg x1 g g) oG hf h9
    have cs := csh (F := F) (s := x1) (f := spd sg x1 g g) oG rG (by omega) g 0 F (by omega) (by have := oG.1; omega)
    rw [show lsh sg x1 g (spd sg x1 g g) 0 = 30000 from rfl, nI_0] at cs
    have w7 := cW (F := F) (s := x1) (v := spd sg x1 g g) oG rG (by omega)
    have w8 := mW (F := F) (s := x1) (v := spd sg x1 g g) oG mGT (by omega)
    have ms := mse (F := F) (s := x1) (f := spd sg x1 g g) oG mGT (by omega)
    have el := el rfl
    generalize spd sg x1 g g = f at *
    by_cases c2 : f = (-9)
    · refine ⟨-9, T0 S, ?_, ?_, hI.ag (T0_ag S)⟩
      · simp [fX7_span, fX4_lastHeaviest, e7, c1, b01_ite, q7, c2]
      · simp [fX8_span, stp, e8, c1, b01_ite, q8, c2]
    · obtain ⟨q, hq, hl, he⟩ := p1.resolve_left c2
      have hr := (oG.2 q hq).1
      rw [← he] at hr
      obtain ⟨e, hm, hE⟩ := ms hr.1 F f (by have := hr.1; omega) (by omega) hr.2 (fun t t1 t2 => by rw [show t = f.toInt by omega])
      have ee : e = lsh sg x1 g f g := (fa_eq _ _).mpr (isE_one hE (el c2))
      refine ⟨e, T0 S, ?_, ?_, hI.ag (T0_ag S)⟩
      · simp [fX7_span, fX4_lastHeaviest, e7, c1, b01_ite, q7, c2, w7, cs, ee]
      · simp [fX8_span, stp, e8, c1, b01_ite, q8, c2, w8, hm]
  · refine ⟨-1, T0 S, ?_, ?_, hI.ag (T0_ag S)⟩
    · simp [fX7_span, e7, c1, b01_ite]
    · simp [fX8_span, stp, e8, c1, b01_ite]
