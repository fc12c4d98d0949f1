/-! texts: what counts -/
theorem prs_bit {a b : Int32} {f s : Nat} (ha : rg 0 7 a) (hb : b = (-9) ∨ rg 0 3 b) (hf : f < 8) (hs : s < 4) : tb (prs a b) (8 * s + f) = (decide (a = nI f) && (decide (b = (-9)) || decide (b = nI s))) := by
  obtain ⟨a', ha', rfl⟩ := rg_of (n := 7) ha
  rcases hb with rfl | hb
  · have : ∀ a f : Fin 8, ∀ s : Fin 4, tb (prs (nI a.val) (-9)) (8 * s.val + f.val) = (decide (nI a.val = nI f.val) && (decide ((-9 : Int32) = (-9)) || decide ((-9 : Int32) = nI s.val))) := by decide +kernel
    exact this ⟨a', by omega⟩ ⟨f, hf⟩ ⟨s, hs⟩
  · obtain ⟨b', hb', rfl⟩ := rg_of (n := 3) hb
    have : ∀ a f : Fin 8, ∀ b s : Fin 4, tb (prs (nI a.val) (nI b.val)) (8 * s.val + f.val) = (decide (nI a.val = nI f.val) && (decide (nI b.val = (-9)) || decide (nI b.val = nI s.val))) := by decide +kernel
    exact this ⟨a', by omega⟩ ⟨f, hf⟩ ⟨b', by omega⟩ ⟨s, hs⟩
theorem s8f {f s : Nat} (hf : f < 8) (hs : s < 4) : (nI s * 8 + nI f) &&& 31 = nI (8 * s + f) &&& 31 := by
  have : ∀ f : Fin 8, ∀ s : Fin 4, (nI s.val * 8 + nI f.val) &&& 31 = nI (8 * s.val + f.val) &&& 31 := by decide +kernel
  exact this ⟨f, hf⟩ ⟨s, hs⟩
def isF (tx : Nat → Nat → Int32) (h : Int32) (t : Nat) : Bool := decide (tx t 2 = (-9)) || decide (tx t 2 = h)
def lt1 (tx : Nat → Nat → Int32) (t : Nat) (m : Int32) : Int32 := if tx t 4 = 0 then m &&& (prs (tx t 0) (tx t 1) ^^^ (-1)) else m ||| prs (tx t 0) (tx t 1)
theorem cFor {F tc t : Nat} {tx : Nat → Nat → Int32} {pm : Nat → Nat} {S : vs} {x : Int32} (h : RT tc tx pm S) (ht : t < tc) : fX5_isFor F t x S = some (b01 (isF tx x t)) := by
  unfold fX5_isFor jX5_isFor_17
  rw [alv3 h ht, (h.2.2.2 t ht).2.2.1]
  unfold isF b01 gd
  by_cases h1 : tx t 2 = (-9) <;> by_cases h2 : tx t 2 = x <;> simp [h1, h2]
theorem cLet {F tc t : Nat} {tx : Nat → Nat → Int32} {pm : Nat → Nat} {S : vs} {x : Int32} (h : RT tc tx pm S) (ht : t < tc) : fX5_letAfter F t x S = some (lt1 tx t x) := by
  unfold fX5_letAfter
  rw [alv3 h ht, (h.2.2.2 t ht).2.2.2.2, (h.2.2.2 t ht).2.1]
  unfold lt1 gd
  by_cases h1 : tx t 4 = 0 <;> simp [h1]
def Mt (tx : Nat → Nat → Int32) (f s h : Int32) (day : Int) (t : Nat) : Bool := decide (tx t 0 = f) && (decide (tx t 1 = (-9)) || decide (tx t 1 = s)) && isF tx h t && decide ((tx t 3).toInt ≤ day)
def lat (tx : Nat → Nat → Int32) (pm : Nat → Nat) (f s h : Int32) (day : Int) : Nat → Option Nat
  | 0 => none
  | k + 1 => if Mt tx f s h day (pm k) = true then some (pm k) else lat tx pm f s h day k
def oI : Option Nat → Int32
  | none => -9
  | some t => nI t
def ltm (tx : Nat → Nat → Int32) (pm : Nat → Nat) (h : Int32) (day : Int) : Nat → Int32
  | 0 => 0
  | k + 1 => if (tx (pm k) 3).toInt ≤ day then (if isF tx h (pm k) = true then lt1 tx (pm k) (ltm tx pm h day k) else ltm tx pm h day k) else ltm tx pm h day k
theorem srt {tc : Nat} {tx : Nat → Nat → Int32} {pm : Nat → Nat} (o : OkT tc tx pm) {p q : Nat} (h1 : p ≤ q) (h2 : q < tc) : (tx (pm p) 3).toInt ≤ (tx (pm q) 3).toInt := by
  by_cases e : p = q
  · rw [e]; exact Int.le_refl _
  · rcases o.2.2.2.2 p q (by omega) h2 with h | h <;> omega
theorem lat_stop {tc : Nat} {tx : Nat → Nat → Int32} {pm : Nat → Nat} (o : OkT tc tx pm) {f s h : Int32} {day : Int} {k : Nat} (hd : day < (tx (pm k) 3).toInt) : ∀ d, k + d ≤ tc → lat tx pm f s h day (k + d) = lat tx pm f s h day k
  | 0, _ => rfl
  | d + 1, hk => by
    rw [← lat_stop o hd d (by omega), show k + (d + 1) = (k + d) + 1 by omega, lat, if_neg]
    intro z
    have := srt o (show k ≤ k + d by omega) (by omega)
    unfold Mt at z
    simp at z
    omega
theorem ltm_stop {tc : Nat} {tx : Nat → Nat → Int32} {pm : Nat → Nat} (o : OkT tc tx pm) {h : Int32} {day : Int} {k : Nat} (hd : day < (tx (pm k) 3).toInt) : ∀ d, k + d ≤ tc → ltm tx pm h day (k + d) = ltm tx pm h day k
  | 0, _ => rfl
  | d + 1, hk => by
    have := srt o (show k ≤ k + d by omega) (by omega)
    rw [← ltm_stop o hd d (by omega), show k + (d + 1) = (k + d) + 1 by omega, ltm, if_neg (by omega)]
theorem clat {F tc f s : Nat} {tx : Nat → Nat → Int32} {pm : Nat → Nat} {S : vs} {h day : Int32} (o : OkT tc tx pm) (hr : RT tc tx pm S) (hf : f < 8) (hs : s < 4) : ∀ (d k fuel : Nat), k + d = tc → d < fuel → hX6_latestFor_7 F S ((1 : Int32) <<< ((nI s * 8 + nI f) &&& 31)) h day fuel (oI (lat tx pm (nI f) (nI s) h day.toInt k)) (nI k) = some (oI (lat tx pm (nI f) (nI s) h day.toInt tc)) := by
  have hg := o.1
  intro d
  induction d with
  | zero =>
    intro k fuel hk hu
    obtain ⟨fu, rfl⟩ : ∃ f, fuel = f + 1 := ⟨fuel - 1, by omega⟩
    have : k = tc := by omega
    subst this
    rw [hX6_latestFor_7, hr.2.1, if_pos (Int32.le_refl _)]
  | succ d ih =>
    intro k fuel hk hu
    obtain ⟨fu, rfl⟩ : ∃ f, fuel = f + 1 := ⟨fuel - 1, by omega⟩
    have hkg : k < tc := by omega
    have hp := o.2.2.1 k hkg
    have nx := ih (k + 1) fu (by omega) (by omega)
    obtain ⟨d0, d1, d2, d3, d4⟩ := hr.2.2.2 (pm k) hp
    have ok := o.2.1 (pm k) hp
    rw [hX6_latestFor_7, hr.2.1, if_neg (nle_nI hkg (by omega)), rg4 hr hg hkg]
    simp only [Option.bind_some, alv3 hr hp, gd, if_true, cFor hr hp, b01_ite, jX6_latestFor_71, ltt, nI_1, d3, d1, d0, fa_lt, s8f hf hs, and_bit (show 8 * s + f < 32 by omega)]
    rw [s8f hf hs] at nx
    by_cases c : day.toInt < (tx (pm k) 3).toInt
    · rw [if_pos c, ← lat_stop o c (tc - k) (by omega), show k + (tc - k) = tc by omega]
    · rw [if_neg c, ← nx, lat]
      unfold Mt
      rw [prs_bit ok.1 ok.2.1 hf hs]
      by_cases c1 : (decide (tx (pm k) 0 = nI f) && (decide (tx (pm k) 1 = (-9)) || decide (tx (pm k) 1 = nI s))) = true
      · rw [c1, if_neg (by decide)]
        by_cases c2 : isF tx h (pm k) = true
        · rw [if_pos c2, if_pos (by simp [c2]; omega)]; rfl
        · rw [if_neg c2, if_neg (by simp [c2])]
      · rw [if_pos (by simpa using c1), if_neg (by rw [Bool.eq_false_iff.mpr c1]; simp)]
theorem cLat {F tc f s : Nat} {tx : Nat → Nat → Int32} {pm : Nat → Nat} {S : vs} {h day : Int32} (o : OkT tc tx pm) (hr : RT tc tx pm S) (hf : f < 8) (hs : s < 4) (hF : 100 ≤ F) : fX6_latestFor F ((1 : Int32) <<< ((nI s * 8 + nI f) &&& 31)) h day S = some (oI (lat tx pm (nI f) (nI s) h day.toInt tc)) := clat o hr hf hs tc 0 F (by omega) (by have := o.1; omega)
theorem cltm {F tc : Nat} {tx : Nat → Nat → Int32} {pm : Nat → Nat} {S : vs} {h day : Int32} (o : OkT tc tx pm) (hr : RT tc tx pm S) : ∀ (d k fuel : Nat), k + d = tc → d < fuel → hX6_letOn_5 F S h day fuel (ltm tx pm h day.toInt k) (nI k) = some (ltm tx pm h day.toInt tc) := by
  have hg := o.1
  intro d
  induction d with
  | zero =>
    intro k fuel hk hu
    obtain ⟨fu, rfl⟩ : ∃ f, fuel = f + 1 := ⟨fuel - 1, by omega⟩
    have : k = tc := by omega
    subst this
    rw [hX6_letOn_5, hr.2.1, if_pos (Int32.le_refl _)]
  | succ d ih =>
    intro k fuel hk hu
    obtain ⟨fu, rfl⟩ : ∃ f, fuel = f + 1 := ⟨fuel - 1, by omega⟩
    have hkg : k < tc := by omega
    have hp := o.2.2.1 k hkg
    have nx := ih (k + 1) fu (by omega) (by omega)
    obtain ⟨d0, d1, d2, d3, d4⟩ := hr.2.2.2 (pm k) hp
    rw [hX6_letOn_5, hr.2.1, if_neg (nle_nI hkg (by omega)), rg4 hr hg hkg]
    simp only [Option.bind_some, alv3 hr hp, gd, if_true, cFor hr hp, cLet hr hp, b01_ite, jX6_letOn_54, ltt, nI_1, d3, fa_lt]
    by_cases c : day.toInt < (tx (pm k) 3).toInt
    · rw [if_pos c, ← ltm_stop o c (tc - k) (by omega), show k + (tc - k) = tc by omega]
    · rw [if_neg c, ← nx, ltm, if_pos (show (tx (pm k) 3).toInt ≤ day.toInt by omega)]
      by_cases c2 : isF tx h (pm k) = true <;> simp [c2]
theorem cLtm {F tc : Nat} {tx : Nat → Nat → Int32} {pm : Nat → Nat} {S : vs} {h day : Int32} (o : OkT tc tx pm) (hr : RT tc tx pm S) (hF : 100 ≤ F) : fX6_letOn F h day S = some (ltm tx pm h day.toInt tc) := cltm o hr tc 0 F (by omega) (by have := o.1; omega)
-- the model
def ctx0 (tx : Nat → Nat → Int32) (f s h : Int32) (day : Int) : Nat → Option Nat
  | 0 => none
  | k + 1 => if Mt tx f s h day k = true then (match ctx0 tx f s h day k with
      | none => some k
      | some b => if (tx k 3).toInt < (tx b 3).toInt then some b else some k) else ctx0 tx f s h day k
def isM (tx : Nat → Nat → Int32) (M : Nat → Bool) (Q : Nat → Prop) : Option Nat → Prop
  | none => ∀ t, Q t → M t = false
  | some t => Q t ∧ M t = true ∧ ∀ u, Q u → M u = true → (tx u 3).toInt < (tx t 3).toInt ∨ ((tx u 3).toInt = (tx t 3).toInt ∧ u ≤ t)
theorem isM_one {tx : Nat → Nat → Int32} {M : Nat → Bool} {Q : Nat → Prop} : ∀ {r r' : Option Nat}, isM tx M Q r → isM tx M Q r' → r = r'
  | none, none, _, _ => rfl
  | none, some t, h, h' => by
    have := h t h'.1
    rw [h'.2.1] at this
    exact absurd this (by decide)
  | some t, none, h, h' => by
    have := h' t h.1
    rw [h.2.1] at this
    exact absurd this (by decide)
  | some t, some u, h, h' => by
    have a := h.2.2 u h'.1 h'.2.1
    have b := h'.2.2 t h.1 h.2.1
    rw [show t = u by omega]
theorem ctx0_ok {tx : Nat → Nat → Int32} {f s h : Int32} {day : Int} : ∀ k, isM tx (Mt tx f s h day) (· < k) (ctx0 tx f s h day k)
  | 0 => fun t ht => absurd ht (by omega)
  | k + 1 => by
    have ih := ctx0_ok k (tx := tx) (f := f) (s := s) (h := h) (day := day)
    rw [ctx0]
    by_cases c : Mt tx f s h day k = true
    · rw [if_pos c]
      cases e : ctx0 tx f s h day k with
      | none =>
        rw [e] at ih
        refine ⟨Nat.lt_succ_self k, c, fun u hu hm => ?_⟩
        by_cases q : u = k
        · rw [q]; exact Or.inr ⟨rfl, Nat.le_refl _⟩
        · have := ih u (by show u < k; have : u < k + 1 := hu; omega)
          rw [hm] at this
          exact absurd this (by decide)
      | some b =>
        rw [e] at ih
        obtain ⟨i1, i2, i3⟩ := ih
        simp only []
        by_cases c2 : (tx k 3).toInt < (tx b 3).toInt
        · rw [if_pos c2]
          refine ⟨Nat.lt_succ_of_lt i1, i2, fun u hu hm => ?_⟩
          by_cases q : u = k
          · rw [q]; exact Or.inl c2
          · exact i3 u (by show u < k; have : u < k + 1 := hu; omega) hm
        · rw [if_neg c2]
          refine ⟨Nat.lt_succ_self k, c, fun u hu hm => ?_⟩
          by_cases q : u = k
          · rw [q]; exact Or.inr ⟨rfl, Nat.le_refl _⟩
          · have hu' : u < k := by have : u < k + 1 := hu; omega
            have := i3 u hu' hm
            by_cases z : (tx u 3).toInt = (tx k 3).toInt
            · exact Or.inr ⟨z, by omega⟩
            · exact Or.inl (by omega)
    · rw [if_neg c]
      have low : ∀ u, u < k + 1 → Mt tx f s h day u = true → u < k := fun u hu hm => by
        by_cases q : u = k
        · rw [q] at hm; exact absurd hm c
        · omega
      cases e : ctx0 tx f s h day k with
      | none =>
        rw [e] at ih
        intro u hu
        cases z : Mt tx f s h day u
        · rfl
        · have := ih u (low u hu z)
          rw [z] at this
          exact absurd this (by decide)
      | some b =>
        rw [e] at ih
        exact ⟨Nat.lt_succ_of_lt ih.1, ih.2.1, fun u hu hm => ih.2.2 u (low u hu hm) hm⟩
theorem lat_ok {tc : Nat} {tx : Nat → Nat → Int32} {pm : Nat → Nat} (o : OkT tc tx pm) {f s h : Int32} {day : Int} : ∀ k, k ≤ tc → isM tx (Mt tx f s h day) (fun t => ∃ p, p < k ∧ pm p = t) (lat tx pm f s h day k)
  | 0, _ => fun t ht => by obtain ⟨p, hp, _⟩ := ht; omega
  | k + 1, hk => by
    have ih := lat_ok o k (by omega) (f := f) (s := s) (h := h) (day := day)
    rw [lat]
    by_cases c : Mt tx f s h day (pm k) = true
    · rw [if_pos c]
      refine ⟨⟨k, by omega, rfl⟩, c, fun u hu hm => ?_⟩
      obtain ⟨p, hp, rfl⟩ := hu
      by_cases q : p = k
      · rw [q]; exact Or.inr ⟨rfl, Nat.le_refl _⟩
      · rcases o.2.2.2.2 p k (by omega) (by omega) with z | z
        · exact Or.inl z
        · exact Or.inr ⟨z.1, by omega⟩
    · rw [if_neg c]
      have low : ∀ u, (∃ p, p < k + 1 ∧ pm p = u) → Mt tx f s h day u = true → ∃ p, p < k ∧ pm p = u := fun u hu hm => by
        obtain ⟨p, hp, rfl⟩ := hu
        by_cases q : p = k
        · rw [q] at hm; exact absurd hm c
        · exact ⟨p, by omega, rfl⟩
      cases e : lat tx pm f s h day k with
      | none =>
        rw [e] at ih
        intro u hu
        cases z : Mt tx f s h day u
        · rfl
        · have := ih u (low u hu z)
          rw [z] at this
          exact absurd this (by decide)
      | some b =>
        rw [e] at ih
        obtain ⟨⟨p, hp, hb⟩, i2, i3⟩ := ih
        exact ⟨⟨p, by omega, hb⟩, i2, fun u hu hm => i3 u (low u hu hm) hm⟩
theorem ctx0_lat {tc : Nat} {tx : Nat → Nat → Int32} {pm : Nat → Nat} (o : OkT tc tx pm) {f s h : Int32} {day : Int} : ctx0 tx f s h day tc = lat tx pm f s h day tc := by
  have h1 := ctx0_ok tc (tx := tx) (f := f) (s := s) (h := h) (day := day)
  have h2 := lat_ok o tc (Nat.le_refl _) (f := f) (s := s) (h := h) (day := day)
  have e : (fun t => ∃ p, p < tc ∧ pm p = t) = (fun t => t < tc) := by
    funext t
    apply propext
    exact ⟨fun ⟨p, hp, hq⟩ => hq ▸ o.2.2.1 p hp, fun ht => o.2.2.2.1 t ht⟩
  rw [e] at h2
  exact isM_one h1 h2
theorem nI_nm9t {t : Nat} (h : t < 2 ^ 31) : ¬ nI t = (-9) := fun e => by
  have := (fa_eq _ _).mp e
  rw [nI_toInt h, show (-9 : Int32).toInt = -9 from rfl] at this
  omega
theorem mctx0 {F tc : Nat} {tx : Nat → Nat → Int32} {S : vs} {f s h day : Int32} (hg : tc ≤ 60) (hr : MT tc tx S) : ∀ (d k fuel : Nat), k + d = tc → d < fuel → hX8_countsOf_7 F S f s h day fuel (oI (ctx0 tx f s h day.toInt k)) (nI k) = some (oI (ctx0 tx f s h day.toInt tc)) := by
  intro d
  induction d with
  | zero =>
    intro k fuel hk hu
    obtain ⟨fu, rfl⟩ : ∃ f, fuel = f + 1 := ⟨fuel - 1, by omega⟩
    have : k = tc := by omega
    subst this
    rw [hX8_countsOf_7, hr.1, if_pos (Int32.le_refl _)]
  | succ d ih =>
    intro k fuel hk hu
    obtain ⟨fu, rfl⟩ : ∃ f, fuel = f + 1 := ⟨fuel - 1, by omega⟩
    have hkg : k < tc := by omega
    have nx := ih (k + 1) fu (by omega) (by omega)
    have hin : inb (nI k) 60 = true := inb_nI (by omega) (by decide)
    have hcl : (nI k).toNatClampNeg = k := cl_nI (by omega)
    have b0 : S.1 (0, 41) k = tx k 0 := hr.2 k 0 hkg (by decide)
    have b1 : S.1 (0, 42) k = tx k 1 := hr.2 k 1 hkg (by decide)
    have b2 : S.1 (0, 43) k = tx k 2 := hr.2 k 2 hkg (by decide)
    have b3 : S.1 (0, 44) k = tx k 3 := hr.2 k 3 hkg (by decide)
    rw [hX8_countsOf_7, hr.1, if_neg (nle_nI hkg (by omega))]
    simp only [al41, al42, hin, hcl, b0, b1, b2, b3, gd, if_true, jX8_countsOf_128, jX8_countsOf_126, jX8_countsOf_121, jX8_countsOf_90, jX8_countsOf_89, jX8_countsOf_73, jX8_countsOf_50, al43, al44, ltt, nI_1, show ((1 : Int32) = 0) = False by decide, if_false]
    rw [← nx, ctx0]
    have ok := ctx0_ok k (tx := tx) (f := f) (s := s) (h := h) (day := day.toInt)
    have key : (if oI (ctx0 tx f s h day.toInt k) = (-9) then hX8_countsOf_7 F S f s h day fu (nI k) (nI (k + 1)) else (if inb (oI (ctx0 tx f s h day.toInt k)) 60 = true then (if tx k 3 < S.1 (0, 44) (oI (ctx0 tx f s h day.toInt k)).toNatClampNeg then hX8_countsOf_7 F S f s h day fu (oI (ctx0 tx f s h day.toInt k)) (nI (k + 1)) else hX8_countsOf_7 F S f s h day fu (nI k) (nI (k + 1))) else none)) = hX8_countsOf_7 F S f s h day fu (oI (match ctx0 tx f s h day.toInt k with
      | none => some k
      | some b => if (tx k 3).toInt < (tx b 3).toInt then some b else some k)) (nI (k + 1)) := by
      cases e : ctx0 tx f s h day.toInt k with
      | none => rfl
      | some b =>
        rw [e] at ok
        have hb : b < k := ok.1
        have c3 : S.1 (0, 44) b = tx b 3 := hr.2 b 3 (by omega) (by decide)
        rw [show oI (some b) = nI b from rfl, if_neg (nI_nm9t (show b < 2 ^ 31 by omega)), if_pos (inb_nI (by omega) (by decide)), cl_nI (by omega), c3]
        simp only [fa_lt]
        split <;> rfl
    unfold Mt isF
    simp only [fa_lt]
    simp only [fa_lt] at key
    by_cases c1 : tx k 0 = f
    · by_cases c2 : tx k 1 = (-9) ∨ tx k 1 = s
      · by_cases c3 : tx k 2 = (-9) ∨ tx k 2 = h
        · by_cases c4 : day.toInt < (tx k 3).toInt
          · rcases c2 with c2 | c2 <;> rcases c3 with c3 | c3 <;> simp [c1, c2, c3, c4, show ¬ (tx k 3).toInt ≤ day.toInt by omega]
          · rw [if_pos (show (decide (tx k 0 = f) && (decide (tx k 1 = (-9)) || decide (tx k 1 = s)) && (decide (tx k 2 = (-9)) || decide (tx k 2 = h)) && decide ((tx k 3).toInt ≤ day.toInt)) = true by simp [c1, c2, c3]; omega)]
            rw [← key, if_pos c1]
            rcases c2 with c2 | c2 <;> rcases c3 with c3 | c3 <;> simp [c2, c3, c4]
        · have c3' : ¬ tx k 2 = (-9) ∧ ¬ tx k 2 = h := ⟨fun z => c3 (Or.inl z), fun z => c3 (Or.inr z)⟩
          rcases c2 with c2 | c2 <;> simp [c1, c2, c3'.1, c3'.2]
      · have c2' : ¬ tx k 1 = (-9) ∧ ¬ tx k 1 = s := ⟨fun z => c2 (Or.inl z), fun z => c2 (Or.inr z)⟩
        simp [c1, c2'.1, c2'.2]
    · simp [c1]
theorem mCst {F tc : Nat} {tx : Nat → Nat → Int32} {pm : Nat → Nat} {S : vs} {f s h day : Int32} (o : OkT tc tx pm) (hr : MT tc tx S) (hF : 100 ≤ F) : fX8_countsOf F f s h day S = some (oI (lat tx pm f s h day.toInt tc)) := by
  have := mctx0 (F := F) (f := f) (s := s) (h := h) (day := day) o.1 hr tc 0 F (by omega) (by have := o.1; omega)
  rw [ctx0_lat o] at this
  exact this
theorem pst22 (F : Nat) (hF : 100 ≤ F) : St22 F Inv := by
  intro S hI x1 x2 x3 x4
  obtain ⟨tc, tx, pm, oT, rT, mT⟩ := hI.t
  have mT' : MT tc tx (T0 S) := mT.ag (T0_ag S)
  by_cases c1 : wi 0 7 x1 = true
  · by_cases c2 : wi 0 3 x2 = true
    · by_cases c3 : wi 0 5 x3 = true
      · by_cases c4 : wi 0 9999 x4 = true
        · obtain ⟨f, hf, rfl⟩ := rg_of (n := 7) (wi_t.mp c1)
          obtain ⟨s, hs, rfl⟩ := rg_of (n := 3) (wi_t.mp c2)
          have a9 : fX7_askedBy F (nI f) (nI s) S = some ((1 : Int32) <<< ((nI s * 8 + nI f) &&& 31)) := if_neg (nI_nm9t (by omega))
          refine ⟨oI (lat tx pm (nI f) (nI s) x3 x4.toInt tc), T0 S, ?_, ?_, hI.ag (T0_ag S)⟩
          · simp [fX7_counts, isFamily_eq, isSong_eq, isHearer_eq, isDay_eq, c1, c2, c3, c4, b01_ite, a9, cLat oT rT (show f < 8 by omega) (show s < 4 by omega) hF]
          · simp [fX8_counts, stp, i0_7, i0_3, i0_5, noDay_eq, c1, c2, c3, c4, b01_ite, mCst oT mT' hF]
        · refine ⟨-2, T0 S, ?_, ?_, hI.ag (T0_ag S)⟩
          · simp [fX7_counts, isFamily_eq, isSong_eq, isHearer_eq, isDay_eq, c1, c2, c3, c4, b01_ite]
          · simp [fX8_counts, stp, i0_7, i0_3, i0_5, noDay_eq, c1, c2, c3, c4, b01_ite]
      · refine ⟨-1, T0 S, ?_, ?_, hI.ag (T0_ag S)⟩
        · simp [fX7_counts, isFamily_eq, isSong_eq, isHearer_eq, isDay_eq, c1, c2, c3, b01_ite]
        · simp [fX8_counts, stp, i0_7, i0_3, i0_5, noDay_eq, c1, c2, c3, b01_ite]
    · refine ⟨-1, T0 S, ?_, ?_, hI.ag (T0_ag S)⟩
      · simp [fX7_counts, isFamily_eq, isSong_eq, isHearer_eq, isDay_eq, c1, c2, b01_ite]
      · simp [fX8_counts, stp, i0_7, i0_3, i0_5, noDay_eq, c1, c2, b01_ite]
  · refine ⟨-1, T0 S, ?_, ?_, hI.ag (T0_ag S)⟩
    · simp [fX7_counts, isFamily_eq, isSong_eq, isHearer_eq, isDay_eq, c1, b01_ite]
    · simp [fX8_counts, stp, i0_7, i0_3, i0_5, noDay_eq, c1, b01_ite]
