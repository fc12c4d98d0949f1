/-! bits of ints -/
def tb (x : Int32) (i : Nat) : Bool := x.toBitVec.getLsbD i
theorem tb_or (x y : Int32) (i : Nat) : tb (x ||| y) i = (tb x i || tb y i) := by
  show (x.toBitVec ||| y.toBitVec).getLsbD i = _
  exact BitVec.getLsbD_or
theorem tb_and (x y : Int32) (i : Nat) : tb (x &&& y) i = (tb x i && tb y i) := by
  show (x.toBitVec &&& y.toBitVec).getLsbD i = _
  exact BitVec.getLsbD_and
theorem tb_xor (x y : Int32) (i : Nat) : tb (x ^^^ y) i = (tb x i ^^ tb y i) := by
  show (x.toBitVec ^^^ y.toBitVec).getLsbD i = _
  exact BitVec.getLsbD_xor
theorem tb_m1 {i : Nat} (hi : i < 32) : tb (-1) i = true := by
  have : ∀ j : Fin 32, tb (-1) j.val = true := by decide +kernel
  exact this ⟨i, hi⟩
theorem tb_not (x : Int32) {i : Nat} (hi : i < 32) : tb (x ^^^ (-1)) i = !tb x i := by
  rw [tb_xor, tb_m1 hi]
  cases tb x i <;> rfl
theorem tb_ext {x y : Int32} (h : ∀ i, i < 32 → tb x i = tb y i) : x = y := by
  apply Int32.toBitVec_inj.1
  apply BitVec.eq_of_getLsbD_eq
  intro i hi
  exact h i hi
theorem tb_0 (i : Nat) : tb 0 i = false := by
  show (0 : BitVec 32).getLsbD i = false
  exact BitVec.getLsbD_zero
theorem tb_z {x : Int32} : x = 0 ↔ ∀ i, i < 32 → tb x i = false := ⟨fun e i _ => by rw [e]; exact tb_0 i, fun h => tb_ext (fun i hi => by rw [h i hi, tb_0])⟩
theorem tb_1 (i : Nat) : tb 1 i = decide (i = 0) := by
  by_cases h : i < 32
  · have : ∀ j : Fin 32, tb 1 j.val = decide (j.val = 0) := by decide +kernel
    exact this ⟨i, h⟩
  · rw [show tb 1 i = false from BitVec.getLsbD_of_ge _ _ (by omega)]
    symm
    rw [decide_eq_false_iff_not]
    omega
theorem and31 {k : Nat} (h : k < 32) : nI k &&& 31 = nI k := by
  have : ∀ j : Fin 32, nI j.val &&& 31 = nI j.val := by decide +kernel
  exact this ⟨k, h⟩
theorem smod32 {k : Nat} (h : k < 32) : ((nI k).toBitVec.smod 32).toNat = k := by
  have : ∀ j : Fin 32, ((nI j.val).toBitVec.smod 32).toNat = j.val := by decide +kernel
  exact this ⟨k, h⟩
theorem tb_shl (x : Int32) {k i : Nat} (hk : k < 32) (hi : i < 32) : tb (x <<< nI k) i = (decide (k ≤ i) && tb x (i - k)) := by
  show (x.toBitVec <<< ((nI k).toBitVec.smod 32)).getLsbD i = _
  rw [BitVec.shiftLeft_eq', smod32 hk, BitVec.getLsbD_shiftLeft]
  unfold tb
  by_cases h : i < k
  · simp [h, show ¬ k ≤ i by omega]
  · simp [h, hi, show k ≤ i by omega]
theorem tb_bit {k i : Nat} (hk : k < 32) (hi : i < 32) : tb ((1 : Int32) <<< (nI k &&& 31)) i = decide (i = k) := by
  rw [and31 hk, tb_shl _ hk hi, tb_1]
  by_cases h : i = k
  · simp [h]
  · by_cases h2 : k ≤ i
    · simp [h, h2]; omega
    · simp [h, h2]
theorem tb_shr0 (x : Int32) {k : Nat} (hk : k < 32) : tb (x >>> nI k) 0 = tb x k := by
  show (x.toBitVec.sshiftRight' ((nI k).toBitVec.smod 32)).getLsbD 0 = _
  rw [BitVec.sshiftRight_eq', smod32 hk, BitVec.getLsbD_sshiftRight]
  simp [tb, hk]
theorem shr_1 {x : Int32} {k : Nat} (hk : k < 32) : (((x >>> (nI k &&& 31)) &&& 1) = 1) ↔ tb x k = true := by
  rw [and31 hk]
  constructor
  · intro h
    have : tb ((x >>> nI k) &&& 1) 0 = tb 1 0 := by rw [h]
    rw [tb_and, tb_shr0 x hk, tb_1] at this
    simpa using this
  · intro h
    refine tb_ext fun i hi => ?_
    rw [tb_and, tb_1]
    by_cases e : i = 0
    · rw [e, tb_shr0 x hk, h]; rfl
    · simp [e]
theorem and_bit {x : Int32} {k : Nat} (hk : k < 32) : ((x &&& ((1 : Int32) <<< (nI k &&& 31))) = 0) ↔ tb x k = false := by
  rw [tb_z]
  constructor
  · intro h
    have := h k hk
    rw [tb_and, tb_bit hk hk] at this
    simpa using this
  · intro h i hi
    rw [tb_and, tb_bit hk hi]
    by_cases e : i = k
    · rw [e, h]; rfl
    · simp [e]
theorem tb_full {n i : Nat} (hn : n ≤ 16) (hi : i < 32) : tb (((1 : Int32) <<< (nI n &&& 31)) - 1) i = decide (i < n) := by
  have : ∀ a : Fin 17, ∀ j : Fin 32, tb (((1 : Int32) <<< (nI a.val &&& 31)) - 1) j.val = decide (j.val < a.val) := by decide +kernel
  exact this ⟨n, by omega⟩ ⟨i, hi⟩
theorem sub_bits {x y : Int32} : ((x &&& (y ^^^ (-1))) = 0) ↔ ∀ i, i < 32 → tb x i = true → tb y i = true := by
  rw [tb_z]
  constructor
  · intro h i hi hx
    have := h i hi
    rw [tb_and, tb_not _ hi, hx] at this
    simpa using this
  · intro h i hi
    rw [tb_and, tb_not _ hi]
    cases e : tb x i
    · rfl
    · rw [h i hi e]; rfl
def isSt (n : Nat) (x : Int32) : Bool := decide (∀ i : Fin 32, tb x i.val = true → i.val < n)
theorem isSt_t {n : Nat} {x : Int32} : isSt n x = true ↔ ∀ i, i < 32 → tb x i = true → i < n := by
  unfold isSt
  rw [decide_eq_true_eq]
  exact ⟨fun h i hi => h ⟨i, hi⟩, fun h i => h i.val i.isLt⟩
theorem isSet_eq {F n : Nat} {x : Int32} {S : vs} (h : S.1 (0, 0) 1 = nI n) (hn : n ≤ 16) : fX7_isSetOfSides F x S = some (b01 (isSt n x)) := by
  unfold fX7_isSetOfSides b01
  rw [h]
  have e : ((x &&& ((((1 : Int32) <<< (nI n &&& 31)) - 1) ^^^ (-1))) = 0) ↔ isSt n x = true := by
    rw [sub_bits, isSt_t]
    constructor
    · intro z i hi hx
      have := z i hi hx
      rw [tb_full hn hi] at this
      simpa using this
    · intro z i hi hx
      rw [tb_full hn hi]
      simpa using z i hi hx
  by_cases c : isSt n x = true
  · rw [if_pos (e.mpr c), if_pos c]
  · rw [if_neg (fun z => c (e.mp z)), if_neg c]
theorem neg_msb {x : Int32} : x < 0 ↔ tb x 31 = true := by
  show _ ↔ x.toBitVec.getLsbD 31 = true
  rw [fa_lt, show (0 : Int32).toInt = 0 from rfl]
  have : x.toBitVec.msb = x.toBitVec.getLsbD 31 := by rw [BitVec.msb_eq_getLsbD_last]
  rw [← this]
  show x.toBitVec.toInt < 0 ↔ _
  rw [BitVec.msb_eq_toInt, decide_eq_true_eq]
theorem noSet_eq {F n : Nat} {x : Int32} {S : vs} (h : S.1 (0, 1) 1 = nI n) (hn : n ≤ 16) : fX8_noSet F x S = some (b01 (!isSt n x)) := by
  unfold fX8_noSet jX8_noSet_13 b01
  rw [h, and31 (by omega)]
  have e : (x >>> nI n) = 0 ↔ ∀ i, i < 32 → (if n + i < 32 then tb x (n + i) else tb x 31) = false := by
    have q : ∀ i, i < 32 → tb (x >>> nI n) i = if n + i < 32 then tb x (n + i) else tb x 31 := fun i hi => by
      show (x.toBitVec.sshiftRight' ((nI n).toBitVec.smod 32)).getLsbD i = _
      rw [BitVec.sshiftRight_eq', smod32 (by omega), BitVec.getLsbD_sshiftRight, BitVec.msb_eq_getLsbD_last]
      unfold tb
      by_cases c : n + i < 32 <;> simp [c, show ¬ 32 ≤ i by omega]
    rw [tb_z]
    exact ⟨fun z i hi => by rw [← q i hi]; exact z i hi, fun z i hi => by rw [q i hi]; exact z i hi⟩
  by_cases c : isSt n x = true
  · have c' := isSt_t.mp c
    have n31 : tb x 31 = false := by
      cases z : tb x 31
      · rfl
      · have := c' 31 (by omega) z; omega
    rw [if_neg (fun z => by rw [neg_msb, n31] at z; exact absurd z (by decide)), if_pos (e.mpr (fun i hi => ?_)), if_neg (by simp [c])]
    split
    · cases z : tb x (n + i)
      · rfl
      · have := c' (n + i) (by assumption) z; omega
    · exact n31
  · rw [if_pos (show (!isSt n x) = true by simpa using c)]
    by_cases c1 : x < 0
    · rw [if_pos c1]
    · rw [if_neg c1, if_neg (fun z => c (isSt_t.mpr (fun i hi hx => ?_)))]
      have z := e.mp z
      by_cases hin : i < n
      · exact hin
      · have := z (i - n) (by omega)
        rw [show n + (i - n) = i by omega, if_pos hi, hx] at this
        exact absurd this (by decide)
