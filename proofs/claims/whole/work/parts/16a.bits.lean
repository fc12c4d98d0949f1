/-! how many are in a set -/
def pcs (s : Nat) : Nat → Nat
  | 0 => 0
  | k + 1 => pcs s k + (if s.testBit k = true then 1 else 0)
theorem pcs_le (s : Nat) : ∀ k, pcs s k ≤ k
  | 0 => Nat.le_refl _
  | k + 1 => by
    have := pcs_le s k
    rw [pcs]
    split <;> omega
theorem pcs_mono (s : Nat) {a : Nat} : ∀ b, a ≤ b → pcs s a ≤ pcs s b
  | 0, h => by rw [show a = 0 by omega]; exact Nat.le_refl _
  | b + 1, h => by
    by_cases e : a = b + 1
    · rw [e]; exact Nat.le_refl _
    · have := pcs_mono s b (by omega) (a := a)
      rw [pcs]
      omega
theorem pcs_lt (s : Nat) {i b : Nat} (h : i < b) (hs : s.testBit i = true) : pcs s i < pcs s b := by
  have := pcs_mono s b (show i + 1 ≤ b by omega)
  rw [pcs, if_pos hs] at this
  omega
theorem tb_set {n : Nat} {x : Int32} (hn : n ≤ 16) (h : isSt n x = true) : ∃ s : Nat, s < 2 ^ n ∧ x = nI s := by
  have h' := isSt_t.mp h
  have n0 : ¬ x < 0 := fun z => by
    rw [neg_msb] at z
    have := h' 31 (by omega) z
    omega
  obtain ⟨s, hs, rfl⟩ := nI_of n0
  refine ⟨s, ?_, rfl⟩
  apply Nat.lt_pow_two_of_testBit
  intro i hi
  by_cases c : i < 32
  · cases e : s.testBit i
    · rfl
    · have := h' i c (by rw [tb_nI _ c]; exact e)
      omega
  · exact Nat.testBit_lt_two_pow (Nat.lt_of_lt_of_le hs (Nat.pow_le_pow_right (by decide) (by omega)))
-- the class's count
def bcN (s : Nat) : Nat :=
  let a := s - ((s >>> 1) &&& 1431655765)
  let b := (a &&& 858993459) + ((a >>> 2) &&& 858993459)
  let c := (b + (b >>> 4)) &&& 252645135
  let d := c + (c >>> 8)
  let e := d + (d >>> 16)
  e &&& 63
theorem ushr_nI {s k : Nat} (hs : s < 2 ^ 31) (hk : k < 32) : ((nI s).toUInt32 >>> ((nI k).toUInt32 &&& Int32.toUInt32 31)).toInt32 = nI (s >>> k) := by
  have h1 : (nI s).toUInt32.toNat = s := by
    show (BitVec.ofNat 32 s).toNat = s
    rw [BitVec.toNat_ofNat]
    exact Nat.mod_eq_of_lt (by omega)
  have h2 : ((nI k).toUInt32 &&& Int32.toUInt32 31).toNat = k := by
    have : ∀ k : Fin 32, ((nI k.val).toUInt32 &&& Int32.toUInt32 31).toNat = k.val := by decide +kernel
    exact this ⟨k, hk⟩
  have h3 : ((nI s).toUInt32 >>> ((nI k).toUInt32 &&& Int32.toUInt32 31)).toNat = s >>> k := by
    rw [UInt32.toNat_shiftRight, h1, h2, Nat.mod_eq_of_lt hk]
  have h4 : s >>> k < 2 ^ 32 := by
    rw [Nat.shiftRight_eq_div_pow]
    exact Nat.lt_of_le_of_lt (Nat.div_le_self _ _) (by omega)
  apply Int32.toBitVec_inj.1
  apply BitVec.eq_of_toNat_eq
  show ((nI s).toUInt32 >>> ((nI k).toUInt32 &&& Int32.toUInt32 31)).toNat = (BitVec.ofNat 32 (s >>> k)).toNat
  rw [h3, BitVec.toNat_ofNat, Nat.mod_eq_of_lt h4]
theorem nI_sub {a b : Nat} (h : b ≤ a) : nI a - nI b = nI (a - b) := by
  have e : nI (a - b) + nI b = nI a := by rw [nI_add, Nat.sub_add_cancel h]
  rw [← e, Int32.add_sub_cancel]
theorem bc_eq {F s : Nat} {S : vs} (hs : s < 65536) : fJ6_bitCount_0f7a4 F (nI s) S = some (nI (bcN s)) := by
  have sh : ∀ {s k : Nat}, s < 2 ^ 31 → s >>> k ≤ s := fun {s k} _ => by rw [Nat.shiftRight_eq_div_pow]; exact Nat.div_le_self _ _
  unfold fJ6_bitCount_0f7a4 bcN
  simp only [ltt]
  have l1 : (s >>> 1) &&& 1431655765 ≤ s := Nat.le_trans Nat.and_le_left (sh (by omega))
  have e1 := ushr_nI (s := s) (k := 1) (by omega) (by decide)
  rw [show nI 1 = (1 : Int32) from rfl] at e1
  rw [e1, show (1431655765 : Int32) = nI 1431655765 from rfl, fa_and, nI_sub l1]
  have ha : s - ((s >>> 1) &&& 1431655765) ≤ 65535 := by omega
  generalize s - ((s >>> 1) &&& 1431655765) = a at ha ⊢
  have e2 := ushr_nI (s := a) (k := 2) (by omega) (by decide)
  rw [show nI 2 = (2 : Int32) from rfl] at e2
  rw [e2, show (858993459 : Int32) = nI 858993459 from rfl, fa_and, fa_and, nI_add]
  have hb : (a &&& 858993459) + ((a >>> 2) &&& 858993459) ≤ 131070 := by
    have h1 : a &&& 858993459 ≤ a := Nat.and_le_left
    have h2 : (a >>> 2) &&& 858993459 ≤ a >>> 2 := Nat.and_le_left
    have h3 := sh (s := a) (k := 2) (by omega)
    omega
  generalize (a &&& 858993459) + ((a >>> 2) &&& 858993459) = b at hb ⊢
  have e3 := ushr_nI (s := b) (k := 4) (by omega) (by decide)
  rw [show nI 4 = (4 : Int32) from rfl] at e3
  rw [e3, nI_add, show (252645135 : Int32) = nI 252645135 from rfl, fa_and]
  have hc : (b + (b >>> 4)) &&& 252645135 ≤ 262140 := by
    have h1 : (b + (b >>> 4)) &&& 252645135 ≤ b + (b >>> 4) := Nat.and_le_left
    have h3 := sh (s := b) (k := 4) (by omega)
    omega
  generalize (b + (b >>> 4)) &&& 252645135 = c at hc ⊢
  have e4 := ushr_nI (s := c) (k := 8) (by omega) (by decide)
  rw [show nI 8 = (8 : Int32) from rfl] at e4
  rw [e4, nI_add]
  have hd : c + (c >>> 8) ≤ 524280 := by
    have h3 := sh (s := c) (k := 8) (by omega)
    omega
  generalize c + (c >>> 8) = d at hd ⊢
  have e5 := ushr_nI (s := d) (k := 16) (by omega) (by decide)
  rw [show nI 16 = (16 : Int32) from rfl] at e5
  rw [e5, nI_add, show (63 : Int32) = nI 63 from rfl, fa_and]
theorem bit8 (B : Nat) {A : Nat} (hA : A < 256) (j : Nat) : (256 * B + A).testBit j = if j < 8 then A.testBit j else B.testBit (j - 8) := Nat.testBit_two_pow_mul_add B (i := 8) hA j
theorem and8 (B M : Nat) {A m : Nat} (hA : A < 256) (hm : m < 256) : (256 * B + A) &&& (256 * M + m) = 256 * (B &&& M) + (A &&& m) := by
  have hAm : A &&& m < 256 := Nat.lt_of_le_of_lt Nat.and_le_left hA
  apply Nat.eq_of_testBit_eq
  intro j
  rw [Nat.testBit_and, bit8 B hA, bit8 M hm, bit8 _ hAm]
  by_cases c : j < 8
  · rw [if_pos c, if_pos c, if_pos c, Nat.testBit_and]
  · rw [if_neg c, if_neg c, if_neg c, Nat.testBit_and]
def g1 (x : Nat) : Nat := x - ((x / 2) &&& 85)
def g2 (a : Nat) : Nat := (a &&& 51) + ((a / 4) &&& 51)
def g3 (b : Nat) : Nat := (b + b / 16) &&& 15
theorem g_8 {x : Nat} (h : x < 256) : g3 (g2 (g1 x)) = pcs x 8 ∧ g1 x < 256 ∧ g2 (g1 x) ≤ 68 ∧ g2 (g1 x) % 16 ≤ 4 ∧ (x / 2) &&& 85 ≤ x := by
  have : ∀ x : Fin 256, g3 (g2 (g1 x.val)) = pcs x.val 8 ∧ g1 x.val < 256 ∧ g2 (g1 x.val) ≤ 68 ∧ g2 (g1 x.val) % 16 ≤ 4 ∧ (x.val / 2) &&& 85 ≤ x.val := by decide +kernel
  exact this ⟨x, h⟩
theorem s1_8 {lo t : Nat} (h : lo < 256) (ht : t < 2) : (lo / 2 + 128 * t) &&& 85 = (lo / 2) &&& 85 := by
  have : ∀ lo : Fin 256, ∀ t : Fin 2, (lo.val / 2 + 128 * t.val) &&& 85 = (lo.val / 2) &&& 85 := by decide +kernel
  exact this ⟨lo, h⟩ ⟨t, ht⟩
theorem s2_8 {lo t : Nat} (h : lo < 256) (ht : t < 4) : (lo / 4 + 64 * t) &&& 51 = (lo / 4) &&& 51 := by
  have : ∀ lo : Fin 256, ∀ t : Fin 4, (lo.val / 4 + 64 * t.val) &&& 51 = (lo.val / 4) &&& 51 := by decide +kernel
  exact this ⟨lo, h⟩ ⟨t, ht⟩
theorem pcs_lo (B : Nat) {A : Nat} (hA : A < 256) : ∀ k, k ≤ 8 → pcs (256 * B + A) k = pcs A k
  | 0, _ => rfl
  | k + 1, hk => by rw [pcs, pcs, pcs_lo B hA k (by omega), bit8 B hA, if_pos (show k < 8 by omega)]
theorem pcs_hi (B : Nat) {A : Nat} (hA : A < 256) : ∀ k, pcs (256 * B + A) (8 + k) = pcs A 8 + pcs B k
  | 0 => pcs_lo B hA 8 (Nat.le_refl _)
  | k + 1 => by
    rw [show pcs (256 * B + A) (8 + (k + 1)) = pcs (256 * B + A) (8 + k) + (if (256 * B + A).testBit (8 + k) = true then 1 else 0) from rfl, show pcs B (k + 1) = pcs B k + (if B.testBit k = true then 1 else 0) from rfl, pcs_hi B hA k, bit8 B hA, if_neg (show ¬ 8 + k < 8 by omega), show 8 + k - 8 = k by omega]
    omega
theorem bcN_eq {s : Nat} (hs : s < 65536) : bcN s = pcs s 16 := by
  obtain ⟨B, A, hB, hA, rfl⟩ : ∃ B A, B < 256 ∧ A < 256 ∧ s = 256 * B + A := ⟨s / 256, s % 256, by omega, by omega, by omega⟩
  clear hs
  obtain ⟨pa, pa1, pa2, pa3, pa4⟩ := g_8 hA
  obtain ⟨pb, pb1, pb2, pb3, pb4⟩ := g_8 hB
  rw [show (16 : Nat) = 8 + 8 from rfl, pcs_hi B hA 8, ← pa, ← pb]
  have z1 : (256 * B + A) - (((256 * B + A) >>> 1) &&& 1431655765) = 256 * g1 B + g1 A := by
    have e : (256 * B + A) >>> 1 = 256 * (B / 2) + (A / 2 + 128 * (B % 2)) := by rw [Nat.shiftRight_eq_div_pow]; omega
    rw [e, show (1431655765 : Nat) = 256 * 5592405 + 85 from rfl, and8 _ _ (show A / 2 + 128 * (B % 2) < 256 by omega) (by decide), s1_8 hA (by omega)]
    have e2 : (B / 2) &&& 5592405 = (B / 2) &&& 85 := by
      have : ∀ x : Fin 128, x.val &&& 5592405 = x.val &&& 85 := by decide +kernel
      exact this ⟨B / 2, by omega⟩
    rw [e2]
    unfold g1
    omega
  have z2 : ((256 * g1 B + g1 A) &&& 858993459) + (((256 * g1 B + g1 A) >>> 2) &&& 858993459) = 256 * g2 (g1 B) + g2 (g1 A) := by
    generalize g1 A = a at pa1 ⊢
    generalize g1 B = b at pb1 ⊢
    have e : (256 * b + a) >>> 2 = 256 * (b / 4) + (a / 4 + 64 * (b % 4)) := by rw [Nat.shiftRight_eq_div_pow]; omega
    rw [e, show (858993459 : Nat) = 256 * 3355443 + 51 from rfl, and8 _ _ pa1 (by decide), and8 _ _ (show a / 4 + 64 * (b % 4) < 256 by omega) (by decide), s2_8 pa1 (by omega)]
    have e2 : ∀ x, x < 256 → x &&& 3355443 = x &&& 51 := by
      have : ∀ x : Fin 256, x.val &&& 3355443 = x.val &&& 51 := by decide +kernel
      exact fun x hx => this ⟨x, hx⟩
    rw [e2 b pb1, e2 (b / 4) (by omega)]
    unfold g2
    omega
  have m15 : ∀ x, x &&& 15 = x % 16 := fun x => Nat.and_two_pow_sub_one_eq_mod x 4
  have z3 : ((256 * g2 (g1 B) + g2 (g1 A)) + ((256 * g2 (g1 B) + g2 (g1 A)) >>> 4)) &&& 252645135 = 256 * g3 (g2 (g1 B)) + g3 (g2 (g1 A)) := by
    generalize g2 (g1 A) = a at pa2 pa3 ⊢
    generalize g2 (g1 B) = b at pb2 pb3 ⊢
    have e : (256 * b + a) + ((256 * b + a) >>> 4) = 256 * (b + b / 16) + (a + a / 16 + 16 * (b % 16)) := by rw [Nat.shiftRight_eq_div_pow]; omega
    rw [e, show (252645135 : Nat) = 256 * 986895 + 15 from rfl, and8 _ _ (show a + a / 16 + 16 * (b % 16) < 256 by omega) (by decide)]
    have e2 : ∀ x, x < 256 → x &&& 986895 = x &&& 15 := by
      have : ∀ x : Fin 256, x.val &&& 986895 = x.val &&& 15 := by decide +kernel
      exact fun x hx => this ⟨x, hx⟩
    rw [e2 (b + b / 16) (by omega)]
    unfold g3
    rw [m15, m15, m15]
    omega
  have c1 : g3 (g2 (g1 A)) < 16 := by unfold g3; rw [m15]; omega
  have c2 : g3 (g2 (g1 B)) < 16 := by unfold g3; rw [m15]; omega
  have m63 : ∀ x, x &&& 63 = x % 64 := fun x => Nat.and_two_pow_sub_one_eq_mod x 6
  unfold bcN
  simp only [z1, z2, z3]
  generalize g3 (g2 (g1 A)) = a at c1 ⊢
  generalize g3 (g2 (g1 B)) = b at c2 ⊢
  have e8 : (256 * b + a) >>> 8 = b := by rw [Nat.shiftRight_eq_div_pow]; omega
  rw [e8]
  have e16 : (256 * b + a + b) >>> 16 = 0 := by rw [Nat.shiftRight_eq_div_pow]; omega
  rw [e16, m63]
  omega
theorem cBits {F s : Nat} {S : vs} (hs : s < 65536) : fJ6_bitCount_0f7a4 F (nI s) S = some (nI (pcs s 16)) := by rw [bc_eq hs, bcN_eq hs]
theorem shr_v {s k : Nat} (hs : s < 65536) (hk : k < 32) : ((nI s >>> (nI k &&& 31)) &&& 1) = nI (if s.testBit k = true then 1 else 0) := by
  by_cases c : s.testBit k = true
  · rw [if_pos c]
    exact (shr_1 hk).mpr (by rw [tb_nI _ hk]; exact c)
  · rw [if_neg c, and31 hk]
    refine tb_ext fun i hi => ?_
    rw [tb_and, tb_1, show nI 0 = 0 from rfl, tb_0]
    by_cases e : i = 0
    · rw [e, tb_shr0 _ hk, tb_nI _ hk, Bool.eq_false_iff.mpr c]; rfl
    · simp [e]
theorem mbt {F s : Nat} {S : vs} (hs : s < 65536) : ∀ (d k fuel : Nat), k + d = 16 → d < fuel → hX8_bits_4 F S (nI s) fuel (nI (pcs s k)) (nI k) = some (nI (pcs s 16)) := by
  intro d
  induction d with
  | zero =>
    intro k fuel hk hf
    obtain ⟨f, rfl⟩ : ∃ f, fuel = f + 1 := ⟨fuel - 1, by omega⟩
    have : k = 16 := by omega
    subst this
    rw [hX8_bits_4, if_pos (by decide)]
  | succ d ih =>
    intro k fuel hk hf
    obtain ⟨f, rfl⟩ : ∃ f, fuel = f + 1 := ⟨fuel - 1, by omega⟩
    have nx := ih (k + 1) f (by omega) (by omega)
    rw [hX8_bits_4, if_neg (show ¬ (16 : Int32) ≤ nI k from nle_nI (b := 16) (by omega) (by decide)), shr_v hs (by omega)]
    simp only [ltt, nI_add, nI_1]
    exact nx
theorem mBits {F s : Nat} {S : vs} (hs : s < 65536) (hF : 100 ≤ F) : fX8_bits F (nI s) S = some (nI (pcs s 16)) := mbt hs 16 0 F (by omega) (by omega)
/-- which is the k-th in a set -/
def mm (s : Nat) : Nat → Nat → Nat
  | 0, _ => 0
  | i + 1, k => if s.testBit i = true ∧ pcs s i = k then i else mm s i k
theorem mm_eq {s i : Nat} (hs : s.testBit i = true) : ∀ N, i < N → mm s N (pcs s i) = i
  | 0, h => by omega
  | N + 1, h => by
    rw [mm]
    by_cases e : i = N
    · subst e; rw [if_pos ⟨hs, rfl⟩]
    · rw [if_neg, mm_eq hs N (by omega)]
      intro z
      have := pcs_lt s (show i < N by omega) hs
      omega
theorem mm_ex {s : Nat} : ∀ N k, k < pcs s N → ∃ i, i < N ∧ s.testBit i = true ∧ pcs s i = k
  | 0, k, h => by simp [pcs] at h
  | N + 1, k, h => by
    rw [pcs] at h
    by_cases c : k < pcs s N
    · obtain ⟨i, h1, h2, h3⟩ := mm_ex N k c
      exact ⟨i, by omega, h2, h3⟩
    · by_cases c2 : s.testBit N = true
      · rw [if_pos c2] at h
        exact ⟨N, by omega, c2, by omega⟩
      · rw [if_neg c2] at h; omega
theorem mm_is {s N k : Nat} (hN : N ≤ 16) (h : k < pcs s N) : mm s 16 k < N ∧ s.testBit (mm s 16 k) = true ∧ pcs s (mm s 16 k) = k := by
  obtain ⟨i, h1, h2, h3⟩ := mm_ex N k h
  rw [← h3, mm_eq h2 16 (by omega)]
  exact ⟨h1, h2, rfl⟩
theorem pcs_top {s n : Nat} (hs : s < 2 ^ n) : ∀ d, pcs s (n + d) = pcs s n
  | 0 => rfl
  | d + 1 => by
    rw [show n + (d + 1) = (n + d) + 1 by omega, pcs, pcs_top hs d, if_neg]
    · omega
    · rw [Nat.testBit_lt_two_pow (Nat.lt_of_lt_of_le hs (Nat.pow_le_pow_right (by decide) (by omega)))]
      decide
theorem pcs_16 {s n : Nat} (hn : n ≤ 16) (hs : s < 2 ^ n) : pcs s 16 = pcs s n := by
  have := pcs_top hs (16 - n)
  rw [show n + (16 - n) = 16 by omega] at this
  exact this
theorem lt16 {s n : Nat} (hn : n ≤ 16) (hs : s < 2 ^ n) : s < 65536 := Nat.lt_of_lt_of_le hs (Nat.pow_le_pow_right (by decide) hn)
-- what is refused
def pOk (s : Nat) (y a : Int32) (hi : Int) : Bool := decide (pcs s 16 ≤ 6) && wi 1 3 y && wi 0 hi a
theorem six {m : Nat} (h : m ≤ 16) : (6 < nI m) ↔ ¬ m ≤ 6 := by
  rw [show (6 : Int32) = nI 6 from rfl, nI_ltI (by decide) (by omega)]
  omega
theorem cRef {F n s : Nat} {y a hi : Int32} {S : vs} (h : S.1 (0, 0) 1 = nI n) (hn : n ≤ 16) (hs : s < 2 ^ n) : fX7_planRefusal F (nI s) y a hi S = some (if isSt n (nI s) = true then (if pOk s y a hi.toInt = true then 0 else (-2)) else (-1)) := by
  have s16 := lt16 hn hs
  have w1 : fX7_within F a 0 hi S = some (b01 (wi 0 hi.toInt a)) := wi_eq 0 hi.toInt rfl rfl
  unfold fX7_planRefusal jX7_planRefusal_42 jX7_planRefusal_43 pOk
  rw [isSet_eq h hn, cBits s16]
  simp only [Option.bind_some, b01_ite, six (pcs_le s 16), w1_3, w1]
  by_cases c : isSt n (nI s) = true <;> by_cases c1 : pcs s 16 ≤ 6 <;> by_cases c2 : wi 1 3 y = true <;> by_cases c3 : wi 0 hi.toInt a = true <;> simp [c, c1, c2, c3]
theorem mBad {F s : Nat} {y a : Int32} {S : vs} (hs : s < 65536) (hF : 100 ≤ F) : fX8_badPlan F (nI s) y a S = some (b01 (!pOk s y a 3000)) := by
  unfold fX8_badPlan jX8_badPlan_33 pOk
  rw [mBits hs hF]
  simp only [Option.bind_some, b01_ite, six (pcs_le s 16), i1_3, i0_3000]
  by_cases c1 : pcs s 16 ≤ 6 <;> by_cases c2 : wi 1 3 y = true <;> by_cases c3 : wi 0 3000 a = true <;> simp [c1, c2, c3, b01]
