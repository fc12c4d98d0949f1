/-! what is done with one: the first that still saves the most -/
theorem smI_split (g : Nat → Int) (p : Nat) : ∀ d, smI g (p + d) = smI g p + smI (fun i => g (p + i)) d
  | 0 => by simp [smI]
  | d + 1 => by
    rw [show p + (d + 1) = (p + d) + 1 by omega, smI, smI_split g p d, show smI (fun i => g (p + i)) (d + 1) = smI (fun i => g (p + i)) d + g (p + d) from rfl]
    omega
theorem smI_at (g : Nat → Int) {p m : Nat} (hp : p < m) : smI g m = smI g p + g p + smI (fun i => g (p + 1 + i)) (m - (p + 1)) := by
  have := smI_split g (p + 1) (m - (p + 1))
  rw [show p + 1 + (m - (p + 1)) = m by omega, show smI g (p + 1) = smI g p + g p from rfl] at this
  exact this
def ext (p o : Nat) (f g : Nat → Nat) (i : Nat) : Nat := if i < p then f i else if i = p then o else g (i - (p + 1))
theorem ext_lo {p o : Nat} {f g : Nat → Nat} {i : Nat} (h : i < p) : ext p o f g i = f i := if_pos h
theorem ext_at {p o : Nat} {f g : Nat → Nat} : ext p o f g p = o := by unfold ext; rw [if_neg (by omega), if_pos rfl]
theorem ext_hi {p o : Nat} {f g : Nat → Nat} {i : Nat} : ext p o f g (p + 1 + i) = g i := by unfold ext; rw [if_neg (by omega), if_neg (by omega), show p + 1 + i - (p + 1) = i by omega]
def pt (lh nh : Nat → Int) (o p y : Nat) : Int := if o / 2 = y then hO lh nh o p else 0
theorem uS_ext {lh nh : Nat → Int} {m p o y : Nat} {f g : Nat → Nat} (hp : p < m) : uS lh nh m (ext p o f g) y = uS lh nh p f y + pt lh nh o p y + uS (fun i => lh (p + 1 + i)) (fun i => nh (p + 1 + i)) (m - (p + 1)) g y := by
  unfold uS pt
  rw [smI_at _ hp]
  congr 1
  · congr 1
    · exact smI_congr p (fun i hi => by rw [ext_lo hi])
    · rw [ext_at]
  · exact smI_congr _ (fun i hi => by
      simp only [ext_hi]
      rfl)
theorem vS_ext {sv : Nat → Nat → Int} {m p o Y : Nat} {f g : Nat → Nat} (hp : p < m) : vS sv m Y (ext p o f g) = vS sv p Y f + (if o < 2 * Y then sv o p else 0) + vS (fun o i => sv o (p + 1 + i)) (m - (p + 1)) Y g := by
  unfold vS
  rw [smI_at _ hp]
  congr 1
  · congr 1
    · exact smI_congr p (fun i hi => by rw [ext_lo hi])
    · rw [ext_at]
  · exact smI_congr _ (fun i hi => by simp only [ext_hi])
theorem ext_self {m p : Nat} {f : Nat → Nat} (i : Nat) : ext p (f p) f (fun i => f (p + 1 + i)) i = f i := by
  unfold ext
  by_cases c : i < p
  · rw [if_pos c]
  · rw [if_neg c]
    by_cases e : i = p
    · rw [if_pos e, e]
    · rw [if_neg e]
      show f (p + 1 + (i - (p + 1))) = f i
      rw [show p + 1 + (i - (p + 1)) = i by omega]
theorem uS_self {lh nh : Nat → Int} {m p y : Nat} {f : Nat → Nat} (hp : p < m) : uS lh nh m f y = uS lh nh p f y + pt lh nh (f p) p y + uS (fun i => lh (p + 1 + i)) (fun i => nh (p + 1 + i)) (m - (p + 1)) (fun i => f (p + 1 + i)) y := by
  rw [← uS_ext hp]
  exact uS_congr (fun i _ => (ext_self (m := m) i).symm)
theorem vS_self {sv : Nat → Nat → Int} {m p Y : Nat} {f : Nat → Nat} (hp : p < m) : vS sv m Y f = vS sv p Y f + (if f p < 2 * Y then sv (f p) p else 0) + vS (fun o i => sv o (p + 1 + i)) (m - (p + 1)) Y (fun i => f (p + 1 + i)) := by
  rw [← vS_ext hp]
  exact vS_congr (fun i _ => (ext_self (m := m) i).symm)
theorem lex_no {lh nh : Nat → Int} {sv : Nat → Nat → Int} {m Y p o : Nat} {H r : Int} {f : Nat → Nat} {cap : Nat → Int} (hP : isP lh nh sv m Y H f) (hp : p < m) (ho : o < 2 * Y) (hc : ∀ y, y < Y → cap y = H - uS lh nh p f y - pt lh nh o p y) (hx : mxF (fun i => lh (p + 1 + i)) (fun i => nh (p + 1 + i)) (fun o i => sv o (p + 1 + i)) (m - (p + 1)) Y cap r) (hl : o < f p) : sv o p + r ≠ vS sv m Y f - vS sv p Y f := by
  obtain ⟨⟨g, g1, g2⟩, -⟩ := hx
  intro e
  have fe : feas lh nh m Y H (ext p o f g) := fun y hy => by
    rw [uS_ext hp]
    have := g1 y hy
    rw [hc y hy] at this
    omega
  have := hP.2.2.2 (ext p o f g) p fe hp (fun q hq => ext_lo hq) (by rw [ext_at]; exact hl)
  rw [vS_ext hp, if_pos ho, g2] at this
  omega
theorem lex_yes {lh nh : Nat → Int} {sv : Nat → Nat → Int} {m Y p : Nat} {H r : Int} {f : Nat → Nat} {cap : Nat → Int} (hP : isP lh nh sv m Y H f) (hp : p < m) (ho : f p < 2 * Y) (hc : ∀ y, y < Y → cap y = H - uS lh nh p f y - pt lh nh (f p) p y) (hx : mxF (fun i => lh (p + 1 + i)) (fun i => nh (p + 1 + i)) (fun o i => sv o (p + 1 + i)) (m - (p + 1)) Y cap r) : sv (f p) p + r = vS sv m Y f - vS sv p Y f := by
  obtain ⟨⟨g, g1, g2⟩, g3⟩ := hx
  have fe : feas lh nh m Y H (ext p (f p) f g) := fun y hy => by
    rw [uS_ext hp]
    have := g1 y hy
    rw [hc y hy] at this
    omega
  have h1 := hP.2.2.1 (ext p (f p) f g) fe
  rw [vS_ext hp, if_pos ho, g2] at h1
  have h2 := g3 (fun i => f (p + 1 + i)) (fun y hy => by
    have := hP.2.1 y hy
    rw [uS_self hp] at this
    rw [hc y hy]
    omega)
  have h3 := vS_self (sv := sv) (Y := Y) (f := f) hp
  rw [if_pos ho] at h3
  omega
theorem uS_nn {lh nh : Nat → Int} {m y : Nat} {f : Nat → Nat} (h : ∀ i, i < m → 0 ≤ lh i ∧ 0 ≤ nh i) : 0 ≤ uS lh nh m f y := by
  have : ∀ k, k ≤ m → 0 ≤ uS lh nh k f y := fun k => by
    induction k with
    | zero => intro _; exact Int.le_refl _
    | succ k ih =>
      intro hk
      have h1 := ih (by omega)
      have h2 := h k (by omega)
      have : uS lh nh (k + 1) f y = uS lh nh k f y + pt lh nh (f k) k y := rfl
      rw [this]
      unfold pt hO
      split <;> (try split) <;> omega
  exact this m (Nat.le_refl _)
theorem lex_fit {lh nh : Nat → Int} {sv : Nat → Nat → Int} {m Y p : Nat} {H : Int} {f : Nat → Nat} (hP : isP lh nh sv m Y H f) (hp : p < m) (hn : ∀ i, i < m → 0 ≤ lh i ∧ 0 ≤ nh i) {y : Nat} (hy : y < Y) : 0 ≤ H - uS lh nh p f y - pt lh nh (f p) p y := by
  have h1 := hP.2.1 y hy
  rw [uS_self hp] at h1
  have h2 := uS_nn (lh := fun i => lh (p + 1 + i)) (nh := fun i => nh (p + 1 + i)) (m := m - (p + 1)) (y := y) (f := fun i => f (p + 1 + i)) (fun i hi => hn (p + 1 + i) (by omega))
  omega
theorem pcs_mod (s i : Nat) : ∀ k, k ≤ i → pcs (s % 2 ^ i) k = pcs s k
  | 0, _ => rfl
  | k + 1, h => by
    rw [pcs, pcs, pcs_mod s i k (by omega), Nat.testBit_mod_two_pow]
    simp [show k < i by omega]
theorem cPlace {F s i : Nat} {S : vs} (hs : s < 65536) (hi : i < 16) : fJ6_bitCount_0f7a4 F (nI s &&& (((1 : Int32) <<< (nI i &&& 31)) - 1)) S = some (nI (pcs s i)) := by
  have p0 : 1 ≤ 2 ^ i := Nat.one_le_two_pow
  have lt : s % 2 ^ i < 2 ^ i := Nat.mod_lt _ (by omega)
  rw [bit_nI hi, nI_sub1 p0, fa_mask, cBits (lt16 (by omega) lt), pcs_16 (by omega) lt, pcs_mod s i i (Nat.le_refl _)]
