/-! the planner's tables -/
theorem rget5 {S : vs} {o : Nat} (h : o < 6) : rget 5 S (0, 9) (nI o) = some o := by
  unfold rget
  rw [if_pos (show alv S.2.2 (0, 9) = true from rfl), sh0_9]
  simp only [inb_nI h (by decide), and_self, if_true, cl_nI (show o < 2 ^ 31 by omega), h]
theorem cfl {F len : Nat} {a0 : vk} {x1 : Int32} (hl : ∀ d, alen 0 d a0 = len) (h64 : len ≤ 64) {S : vs} : ∀ (d k fuel : Nat) (U : vs), k + d = len → d < fuel → Ag (fun k _ => k = a0) S U → (∀ i, i < k → U.1 a0 i = x1) → ∃ U', hJ7_fill_53178_5 F a0 x1 (nI len) fuel (nI k) U = some U' ∧ Ag (fun k _ => k = a0) S U' ∧ ∀ i, i < len → U'.1 a0 i = x1 := by
  intro d
  induction d with
  | zero =>
    intro k fuel U hk hf hA hU
    obtain ⟨f, rfl⟩ : ∃ f, fuel = f + 1 := ⟨fuel - 1, by omega⟩
    have : k = len := by omega
    subst this
    exact ⟨U, by rw [hJ7_fill_53178_5, if_pos (Int32.le_refl _)], hA, hU⟩
  | succ d ih =>
    intro k fuel U hk hf hA hU
    obtain ⟨f, rfl⟩ : ∃ f, fuel = f + 1 := ⟨fuel - 1, by omega⟩
    have hkl : k < len := by omega
    obtain ⟨U', e, g1, g2⟩ := ih (k + 1) f (s2 U a0 k x1) (by omega) (by omega) (hA.tr (Ag.put rfl)) (fun i hi => by
      rw [s2_at]
      by_cases c : i = k
      · rw [if_pos ⟨rfl, c⟩]
      · rw [if_neg (fun z => c z.2)]; exact hU i (by omega))
    refine ⟨U', ?_, g1, g2⟩
    rw [hJ7_fill_53178_5, if_neg (nle_nI hkl (by omega)), hl, inb_nI hkl (by omega), cl_nI (by omega)]
    simp only [gd, if_true, stp, ltt, nI_1]
    exact e
theorem cFill {F len : Nat} {a0 : vk} {x1 : Int32} (hl : ∀ d, alen 0 d a0 = len) (h0 : 0 < len) (h64 : len ≤ 64) (S : vs) (hF : 100 ≤ F) : ∃ U', fJ7_fill_53178 F a0 x1 S = some U' ∧ Ag (fun k _ => k = a0) S U' ∧ ∀ i, i < len → U'.1 a0 i = x1 := by
  unfold fJ7_fill_53178
  rw [hl, decide_eq_true h0]
  exact cfl hl h64 len 0 F S (by omega) (by omega) (Ag.rf S) (fun i hi => by omega)
theorem bitS {j T i : Nat} (hj : j < 6) (hT : T < 2 ^ j) (hi : i ≤ j) : (T + 2 ^ j).testBit i = (T.testBit i || decide (i = j)) ∧ (i = j → T.testBit i = false) := by
  have : ∀ j : Fin 6, ∀ T : Fin 64, ∀ i : Fin 6, T.val < 2 ^ j.val → i.val ≤ j.val → (T.val + 2 ^ j.val).testBit i.val = (T.val.testBit i.val || decide (i.val = j.val)) ∧ (i.val = j.val → T.val.testBit i.val = false) := by decide +kernel
  have h64 : 2 ^ j ≤ 64 := by
    have : ∀ j : Fin 6, 2 ^ j.val ≤ 64 := by decide +kernel
    exact this ⟨j, hj⟩
  exact this ⟨j, hj⟩ ⟨T, by omega⟩ ⟨i, by omega⟩ hT hi
theorem two6 {g : Nat} (hg : g ≤ 6) : 2 ^ g ≤ 64 ∧ 1 ≤ 2 ^ g := by
  have : ∀ g : Fin 7, 2 ^ g.val ≤ 64 ∧ 1 ≤ 2 ^ g.val := by decide +kernel
  exact this ⟨g, by omega⟩
theorem mS_s (e : Nat → Int) (j T : Nat) : mS e (j + 1) T = mS e j T + (if T.testBit j = true then e j else 0) := rfl
theorem mS_up {e : Nat → Int} {j T : Nat} (hj : j < 6) (hT : T < 2 ^ j) : mS e (j + 1) (T + 2 ^ j) = mS e j T + e j := by
  rw [mS_s, (bitS hj hT (Nat.le_refl j)).1]
  have e1 : mS e j (T + 2 ^ j) = mS e j T := smI_congr j (fun i hi => by
    rw [(bitS hj hT (show i ≤ j by omega)).1]
    simp [show ¬ i = j by omega])
  rw [e1]
  simp
theorem mS_lo {e : Nat → Int} {j T : Nat} (hj : j < 6) (hT : T < 2 ^ j) : mS e (j + 1) T = mS e j T := by
  rw [mS_s, (bitS hj hT (Nat.le_refl j)).2 rfl]
  simp
theorem mS_b {e : Nat → Int} {n T : Nat} (he : ∀ i, i < n → 0 ≤ e i ∧ e i ≤ 100000) : 0 ≤ mS e n T ∧ mS e n T ≤ (n * 100000 : Nat) := smI_b n (fun i hi => by
  have := he i hi
  split <;> omega)
theorem mS_0 (e : Nat → Int) (n : Nat) : mS e n 0 = 0 := smI_zero n (fun i _ => by simp)
theorem cau27 {F m first : Nat} {a1 a3 : vk} {e : Nat → Int32} {S : vs} (hm : m ≤ 6) (l1 : ∀ d, alen 0 d a1 = 6) (l3 : ∀ d, alen 0 d a3 = 64) (hne : a1 ≠ a3) (h2 : a3 ≠ (0, 2)) (hc : S.1 (0, 2) 0 = nI m) (he : ∀ p, p < m → S.1 a1 p = e p) (hb : ∀ p, p < m → rg 0 100000 (e p)) {k7 : Int32 → vs → Option vs} {j : Nat} {x2 : Int32} (hj : first + j < m) : ∀ (d t fuel : Nat) (U : vs), t + d = 2 ^ j → d < fuel → Ag (fun k _ => k = a3) S U → (∀ T, T < 2 ^ j → (U.1 a3 T).toInt = mS (fun i => (e (first + i)).toInt) j T) → (∀ T, T < t → (U.1 a3 (T + 2 ^ j)).toInt = mS (fun i => (e (first + i)).toInt) j T + (e (first + j)).toInt) → ∃ U', hX0_addUp_27 k7 F a1 x2 a3 (nI (first + j)) (nI (2 ^ j)) fuel (nI t) U = k7 (nI (first + (j + 1))) U' ∧ Ag (fun k _ => k = a3) S U' ∧ ∀ T, T < 2 ^ (j + 1) → (U'.1 a3 T).toInt = mS (fun i => (e (first + i)).toInt) (j + 1) T := by
  have hj6 : j < 6 := by omega
  have h64 := two6 (show j ≤ 6 by omega)
  have h32 : 2 ^ (j + 1) = 2 ^ j + 2 ^ j := by rw [Nat.pow_succ]; omega
  have h641 := two6 (show j + 1 ≤ 6 by omega)
  intro d
  induction d with
  | zero =>
    intro t fuel U ht hf hA hQ hR
    obtain ⟨f, rfl⟩ : ∃ f, fuel = f + 1 := ⟨fuel - 1, by omega⟩
    have : t = 2 ^ j := by omega
    subst this
    refine ⟨U, ?_, hA, fun T hT => ?_⟩
    · rw [hX0_addUp_27, if_pos (Int32.le_refl _)]
      simp only [ltt, nI_1, Nat.add_assoc]
    · by_cases c : T < 2 ^ j
      · rw [mS_lo hj6 c]; exact hQ T c
      · have := hR (T - 2 ^ j) (by omega)
        rw [show T - 2 ^ j + 2 ^ j = T by omega] at this
        rw [this, ← mS_up hj6 (show T - 2 ^ j < 2 ^ j by omega), show T - 2 ^ j + 2 ^ j = T by omega]
  | succ d ih =>
    intro t fuel U ht hf hA hQ hR
    obtain ⟨f, rfl⟩ : ∃ f, fuel = f + 1 := ⟨fuel - 1, by omega⟩
    have htl : t < 2 ^ j := by omega
    have ea : U.1 a1 (first + j) = e (first + j) := by rw [hA.1 _ _ hne]; exact he _ hj
    have bb := hb (first + j) hj
    have bm := mS_b (e := fun i => (e (first + i)).toInt) (n := j) (T := t) (fun i hi => hb (first + i) (by omega))
    have es : (U.1 a3 t + e (first + j)).toInt = mS (fun i => (e (first + i)).toInt) j t + (e (first + j)).toInt := by
      rw [fb_addI (by rw [hQ t htl]; have := bb.1; omega) (by rw [hQ t htl]; have := bb.2; omega), hQ t htl]
    obtain ⟨U', q, g1, g2⟩ := ih (t + 1) f (s2 U a3 (t + 2 ^ j) (U.1 a3 t + e (first + j))) (by omega) (by omega) (hA.tr (Ag.put rfl)) (fun T hT => by
      rw [s2_at, if_neg (fun z => by have := z.2; omega)]; exact hQ T hT) (fun T hT => by
      rw [s2_at]
      by_cases c : T = t
      · rw [if_pos ⟨rfl, by rw [c]⟩, c, es]
      · rw [if_neg (fun z => c (by have := z.2; omega))]; exact hR T (by omega))
    refine ⟨U', ?_, g1, g2⟩
    rw [hX0_addUp_27, if_neg (nle_nI htl (by omega)), nI_add, l1, l3, inb_nI (show t < 64 by omega) (by decide), inb_nI (show first + j < 6 by omega) (by decide), inb_nI (show t + 2 ^ j < 64 by omega) (by decide), cl_nI (show t < 2 ^ 31 by omega), cl_nI (show first + j < 2 ^ 31 by omega), cl_nI (show t + 2 ^ j < 2 ^ 31 by omega), ea]
    simp only [gd, if_true, stp, ltt, nI_1]
    exact q
theorem cau7 {F m first : Nat} {a1 a3 : vk} {e : Nat → Int32} {S : vs} (hm : m ≤ 6) (l1 : ∀ d, alen 0 d a1 = 6) (l3 : ∀ d, alen 0 d a3 = 64) (hne : a1 ≠ a3) (h2 : a3 ≠ (0, 2)) (hc : S.1 (0, 2) 0 = nI m) (he : ∀ p, p < m → S.1 a1 p = e p) (hb : ∀ p, p < m → rg 0 100000 (e p)) (hF : 100 ≤ F) : ∀ (d j fuel : Nat) (U : vs), first + j + d = m → d < fuel → Ag (fun k _ => k = a3) S U → (∀ T, T < 2 ^ j → (U.1 a3 T).toInt = mS (fun i => (e (first + i)).toInt) j T) → ∃ U', hX0_addUp_7 F a1 (nI first) a3 fuel (nI (first + j)) U = some U' ∧ Ag (fun k _ => k = a3) S U' ∧ ∀ T, T < 2 ^ (m - first) → (U'.1 a3 T).toInt = mS (fun i => (e (first + i)).toInt) (m - first) T := by
  intro d
  induction d with
  | zero =>
    intro j fuel U hj hf hA hQ
    obtain ⟨f, rfl⟩ : ∃ f, fuel = f + 1 := ⟨fuel - 1, by omega⟩
    have ej : m - first = j := by omega
    refine ⟨U, ?_, hA, by rw [ej]; exact hQ⟩
    rw [hX0_addUp_7, hA.1 _ _ (fun z => h2 z.symm), hc, if_pos (nI_le (by omega) (by omega))]
  | succ d ih =>
    intro j fuel U hj hf hA hQ
    obtain ⟨f, rfl⟩ : ∃ f, fuel = f + 1 := ⟨fuel - 1, by omega⟩
    have h64 := two6 (show j ≤ 6 by omega)
    obtain ⟨U1, e1, g1, g2⟩ := cau27 (F := F) (k7 := hX0_addUp_7 F a1 (nI first) a3 f) (x2 := nI first) hm l1 l3 hne h2 hc he hb (show first + j < m by omega) (2 ^ j) 0 F U (by omega) (by omega) hA hQ (fun T hT => by omega)
    obtain ⟨U', q, g1', g2'⟩ := ih (j + 1) f U1 (by omega) (by omega) g1 g2
    refine ⟨U', ?_, g1', g2'⟩
    rw [nI_0] at e1
    rw [hX0_addUp_7, hA.1 _ _ (fun z => h2 z.symm), hc, if_neg (nle_nI (show first + j < m by omega) (by omega)), nI_sub (show first ≤ first + j by omega), show first + j - first = j by omega, bit_nI (by omega)]
    simp only [ltt]
    rw [e1]
    exact q
theorem cAdd {F m first : Nat} {a1 a3 : vk} {e : Nat → Int32} {S : vs} (hm : m ≤ 6) (l1 : ∀ d, alen 0 d a1 = 6) (l3 : ∀ d, alen 0 d a3 = 64) (hne : a1 ≠ a3) (h2 : a3 ≠ (0, 2)) (hc : S.1 (0, 2) 0 = nI m) (he : ∀ p, p < m → S.1 a1 p = e p) (hb : ∀ p, p < m → rg 0 100000 (e p)) (hF : 100 ≤ F) (hf : first ≤ m) : ∃ U', fX0_addUp F a1 (nI first) a3 S = some U' ∧ Ag (fun k _ => k = a3) S U' ∧ ∀ T, T < 2 ^ (m - first) → (U'.1 a3 T).toInt = mS (fun i => (e (first + i)).toInt) (m - first) T := by
  unfold fX0_addUp
  rw [l3, show inb 0 64 = true by decide, show Int32.toNatClampNeg 0 = 0 from rfl]
  simp only [gd, if_true, stp]
  have := cau7 (F := F) (first := first) hm l1 l3 hne h2 hc he hb hF (m - first) 0 F (s2 S a3 0 0) (by omega) (by omega) (Ag.put rfl) (fun T hT => by
    have : T = 0 := by simp at hT; exact hT
    rw [this, s2_at, if_pos ⟨rfl, rfl⟩]
    rfl)
  rw [Nat.add_zero] at this
  exact this
-- sets of a set, from the greatest down
theorem nxt_all : ((List.range 64).all fun T => (List.range 64).all fun x => if x &&& T = x then (List.range x).all fun z => if z &&& T = z then decide (z ≤ (x - 1) &&& T) else true else true) = true := by decide +kernel
theorem nxt {T x z : Nat} (hT : T < 64) (hx : x &&& T = x) (hz : z &&& T = z) (h : z < x) : z ≤ (x - 1) &&& T := by
  have h0 := nxt_all
  rw [List.all_eq_true] at h0
  have h1 := h0 T (List.mem_range.mpr hT)
  rw [List.all_eq_true] at h1
  have h2 := h1 x (List.mem_range.mpr (by have := sub_le hx; omega))
  rw [if_pos hx, List.all_eq_true] at h2
  have h3 := h2 z (List.mem_range.mpr h)
  rw [if_pos hz, decide_eq_true_eq] at h3
  exact h3
theorem nxt_sub (x T : Nat) : ((x - 1) &&& T) &&& T = (x - 1) &&& T := by rw [Nat.and_assoc, Nat.and_self]
theorem xor_64 {T x n : Nat} (hT : T < 2 ^ n) (hx : x &&& T = x) : T ^^^ x < 2 ^ n := Nat.xor_lt_two_pow hT (by have := sub_le hx; omega)
theorem cst24 {F n : Nat} {tL tN sL sN : Nat → Int} {S : vs} {H : Int32} (hn : n ≤ 6) (h11 : ∀ T, T < 2 ^ n → (S.1 (0, 11) T).toInt = tL T) (h12 : ∀ T, T < 2 ^ n → (S.1 (0, 12) T).toInt = tN T) (h13 : ∀ T, T < 2 ^ n → (S.1 (0, 13) T).toInt = sL T) (h14 : ∀ T, T < 2 ^ n → (S.1 (0, 14) T).toInt = sN T) (hb : ∀ T, (0 ≤ tL T ∧ tL T ≤ 600000) ∧ (0 ≤ tN T ∧ tN T ≤ 600000) ∧ (0 ≤ sL T ∧ sL T ≤ 600000) ∧ (0 ≤ sN T ∧ sN T ≤ 600000)) (h0 : tN 0 = 0 ∧ sN 0 = 0) {T : Nat} (hT : T < 2 ^ n) : ∀ (fuel x : Nat) (best : Int32), x < fuel → x &&& T = x → (∀ z, z &&& T = z → (x < z ∨ z = 0) → tN z + tL (T ^^^ z) ≤ H.toInt → sN z + sL (T ^^^ z) ≤ best.toInt) → (best.toInt = -1 ∨ ∃ z, z &&& T = z ∧ tN z + tL (T ^^^ z) ≤ H.toInt ∧ best.toInt = sN z + sL (T ^^^ z)) → ∃ r, hX0_savedTogether_24 F S (nI T) H fuel best (nI x) = some r ∧ STr tN tL sN sL T H.toInt r.toInt
  | 0, x, best, h, _, _, _ => by omega
  | fuel + 1, x, best, hf, hx, h1, h2 => by
    have h64 := two6 hn
    have hxT := sub_le hx
    rw [hX0_savedTogether_24]
    by_cases c : x = 0
    · subst c
      rw [if_pos (show nI 0 ≤ 0 from Int32.le_refl _)]
      refine ⟨best, rfl, fun z hz hfz => h1 z hz (by omega) hfz, h2⟩
    · have hxt := xor_64 hT hx
      have b1 := hb x
      have b2 := hb (T ^^^ x)
      have e1 : (S.1 (0, 12) x + S.1 (0, 11) (T ^^^ x)).toInt = tN x + tL (T ^^^ x) := by rw [fb_addI (by rw [h12 x (by omega), h11 _ hxt]; omega) (by rw [h12 x (by omega), h11 _ hxt]; omega), h12 x (by omega), h11 _ hxt]
      have e2 : (S.1 (0, 14) x + S.1 (0, 13) (T ^^^ x)).toInt = sN x + sL (T ^^^ x) := by rw [fb_addI (by rw [h14 x (by omega), h13 _ hxt]; omega) (by rw [h14 x (by omega), h13 _ hxt]; omega), h14 x (by omega), h13 _ hxt]
      have en : (nI x - 1) &&& nI T = nI ((x - 1) &&& T) := by rw [show nI x - 1 = nI (x - 1) from nI_sub (a := x) (b := 1) (by omega), fa_and]
      have nl : (x - 1) &&& T < x := Nat.lt_of_le_of_lt Nat.and_le_left (by omega)
      rw [if_neg (nI_nle (show 0 < x by omega) (by omega)), fb_xorI]
      simp only [ltt, al11, al12, al13, al14, inb_nI (show x < 64 by omega) (by decide), inb_nI (show T ^^^ x < 64 by omega) (by decide), cl_nI (show x < 2 ^ 31 by omega), cl_nI (show T ^^^ x < 2 ^ 31 by omega), gd, if_true, jX0_savedTogether_74, en]
      by_cases c1 : H < S.1 (0, 12) x + S.1 (0, 11) (T ^^^ x)
      · rw [if_pos c1]
        rw [fa_lt, e1] at c1
        refine cst24 hn h11 h12 h13 h14 hb h0 hT fuel _ best (by omega) (nxt_sub x T) (fun z hz hzx hfz => ?_) h2
        rcases hzx with hzx | hzx
        · by_cases q : z = x
          · rw [q] at hfz; omega
          · by_cases q2 : x < z
            · exact h1 z hz (Or.inl q2) hfz
            · have := nxt (by omega) hx hz (by omega); omega
        · exact h1 z hz (Or.inr hzx) hfz
      · rw [if_neg c1]
        rw [fa_lt, e1] at c1
        by_cases c2 : best < S.1 (0, 14) x + S.1 (0, 13) (T ^^^ x)
        · rw [if_pos c2]
          rw [fa_lt, e2] at c2
          refine cst24 hn h11 h12 h13 h14 hb h0 hT fuel _ _ (by omega) (nxt_sub x T) (fun z hz hzx hfz => ?_) (Or.inr ⟨x, hx, by omega, e2⟩)
          rw [e2]
          rcases hzx with hzx | hzx
          · by_cases q : z = x
            · rw [q]; exact Int.le_refl _
            · by_cases q2 : x < z
              · have := h1 z hz (Or.inl q2) hfz; omega
              · have := nxt (by omega) hx hz (by omega); omega
          · have := h1 z hz (Or.inr hzx) hfz; omega
        · rw [if_neg c2]
          rw [fa_lt, e2] at c2
          refine cst24 hn h11 h12 h13 h14 hb h0 hT fuel _ _ (by omega) (nxt_sub x T) (fun z hz hzx hfz => ?_) h2
          rcases hzx with hzx | hzx
          · by_cases q : z = x
            · rw [q]; omega
            · by_cases q2 : x < z
              · exact h1 z hz (Or.inl q2) hfz
              · have := nxt (by omega) hx hz (by omega); omega
          · exact h1 z hz (Or.inr hzx) hfz
theorem cST {F n : Nat} {tL tN sL sN : Nat → Int} {S : vs} {H : Int32} (hn : n ≤ 6) (h11 : ∀ T, T < 2 ^ n → (S.1 (0, 11) T).toInt = tL T) (h12 : ∀ T, T < 2 ^ n → (S.1 (0, 12) T).toInt = tN T) (h13 : ∀ T, T < 2 ^ n → (S.1 (0, 13) T).toInt = sL T) (h14 : ∀ T, T < 2 ^ n → (S.1 (0, 14) T).toInt = sN T) (hb : ∀ T, (0 ≤ tL T ∧ tL T ≤ 600000) ∧ (0 ≤ tN T ∧ tN T ≤ 600000) ∧ (0 ≤ sL T ∧ sL T ≤ 600000) ∧ (0 ≤ sN T ∧ sN T ≤ 600000)) (h0 : tN 0 = 0 ∧ sN 0 = 0) {T : Nat} (hT : T < 2 ^ n) (hF : 100 ≤ F) : ∃ r, fX0_savedTogether F (nI T) H S = some r ∧ STr tN tL sN sL T H.toInt r.toInt := by
  have h64 := two6 hn
  unfold fX0_savedTogether jX0_savedTogether_20
  simp only [al11, al13, inb_nI (show T < 64 by omega) (by decide), cl_nI (show T < 2 ^ 31 by omega), gd, if_true]
  by_cases c : H < S.1 (0, 11) T
  · rw [if_pos c]
    rw [fa_lt, h11 T hT] at c
    refine cst24 hn h11 h12 h13 h14 hb h0 hT F T (-1) (by omega) (Nat.and_self T) (fun z hz hzx hfz => ?_) (Or.inl rfl)
    rcases hzx with hzx | hzx
    · have := sub_le hz; omega
    · rw [hzx, h0.1, Nat.xor_zero] at hfz; omega
  · rw [if_neg c]
    rw [fa_lt, h11 T hT] at c
    refine cst24 hn h11 h12 h13 h14 hb h0 hT F T _ (by omega) (Nat.and_self T) (fun z hz hzx hfz => ?_) (Or.inr ⟨0, Nat.zero_and T, by rw [h0.1, Nat.xor_zero]; omega, by rw [h0.2, Nat.xor_zero, h13 T hT]; omega⟩)
    rcases hzx with hzx | hzx
    · have := sub_le hz; omega
    · rw [hzx, h0.2, Nat.xor_zero, h13 T hT]; omega
theorem nI_sub1 {q : Nat} (h : 1 ≤ q) : nI q - 1 = nI (q - 1) := nI_sub (a := q) (b := 1) h
theorem xor_ltT {T x : Nat} (hT : T < 64) (hx : x &&& T = x) (h0 : x ≠ 0) : T ^^^ x < T := by
  have : ∀ T : Fin 64, ∀ x : Fin 64, x.val &&& T.val = x.val → x.val ≠ 0 → T.val ^^^ x.val < T.val := by decide +kernel
  exact this ⟨T, hT⟩ ⟨x, by have := sub_le hx; omega⟩ hx h0
theorem cjy18 {F n : Nat} {M one : Nat → Int} (hn : n ≤ 6) (hb : ∀ T, T < 2 ^ n → (0 ≤ M T ∧ M T ≤ 600000) ∧ (-1 ≤ one T ∧ one T ≤ 1200000)) {k4 : Int32 → vs → Option vs} {T : Nat} {U : vs} (hT : T < 2 ^ n) (hT0 : T ≠ 0) (h15 : ∀ p, p < 2 ^ n → p ≠ 0 → (U.1 (0, 15) p).toInt = one p) (h16 : ∀ p, p ≤ T → (U.1 (0, 16) p).toInt = M p) : ∀ (fuel x : Nat) (best : Int32), x < fuel → x &&& T = x → M T ≤ best.toInt → (∀ p, p &&& T = p → p ≠ 0 → x < p → one p ≠ -1 → M (T ^^^ p) + one p ≤ best.toInt) → (best.toInt = M T ∨ ∃ p, p &&& T = p ∧ p ≠ 0 ∧ one p ≠ -1 ∧ best.toInt = M (T ^^^ p) + one p) → ∃ r, hX0_joinYear_18 k4 F (nI T) fuel best (nI x) U = k4 (nI (T - 1)) (s2 U (0, 16) T r) ∧ JNr M one (fun _ => r.toInt) T
  | 0, x, best, h, _, _, _, _ => by omega
  | fuel + 1, x, best, hf, hx, h0, h1, h2 => by
    have h64 := two6 hn
    have hxT := sub_le hx
    rw [hX0_joinYear_18]
    by_cases c : x = 0
    · subst c
      rw [if_pos (show nI 0 ≤ 0 from Int32.le_refl _)]
      refine ⟨best, ?_, h0, fun p hp hp0 ho => h1 p hp hp0 (by omega) ho, h2⟩
      simp only [al16, inb_nI (show T < 64 by omega) (by decide), cl_nI (show T < 2 ^ 31 by omega), gd, if_true, stp, ltt]
      rw [show T = (T - 1) + 1 by omega, nI_m1']
      simp
    · have hxt := xor_ltT (by omega) hx c
      have b1 := (hb x (by omega)).2
      have b2 := (hb (T ^^^ x) (by omega)).1
      have e15 := h15 x (by omega) c
      have e16 := h16 (T ^^^ x) (by omega)
      have e2 : (U.1 (0, 16) (T ^^^ x) + U.1 (0, 15) x).toInt = M (T ^^^ x) + one x := by rw [fb_addI (by rw [e15, e16]; omega) (by rw [e15, e16]; omega), e15, e16]
      have en : (nI x - 1) &&& nI T = nI ((x - 1) &&& T) := by rw [show nI x - 1 = nI (x - 1) from nI_sub (a := x) (b := 1) (by omega), fa_and]
      have nl : (x - 1) &&& T < x := Nat.lt_of_le_of_lt Nat.and_le_left (by omega)
      have em : (U.1 (0, 15) x = (-1)) ↔ one x = -1 := by rw [fa_eq, e15]; rfl
      rw [if_neg (nI_nle (show 0 < x by omega) (by omega)), fb_xorI]
      simp only [ltt, al15, al16, inb_nI (show x < 64 by omega) (by decide), inb_nI (show T ^^^ x < 64 by omega) (by decide), cl_nI (show x < 2 ^ 31 by omega), cl_nI (show T ^^^ x < 2 ^ 31 by omega), gd, if_true, jX0_joinYear_56, en]
      by_cases c1 : one x = -1
      · rw [if_pos (em.mpr c1)]
        refine cjy18 hn hb hT hT0 h15 h16 fuel _ best (by omega) (nxt_sub x T) h0 (fun p hp hp0 hpx ho => ?_) h2
        by_cases q : p = x
        · rw [q] at ho; exact absurd c1 ho
        · by_cases q2 : x < p
          · exact h1 p hp hp0 q2 ho
          · have := nxt (by omega) hx hp (by omega); omega
      · rw [if_neg (fun z => c1 (em.mp z))]
        by_cases c2 : best < U.1 (0, 16) (T ^^^ x) + U.1 (0, 15) x
        · rw [if_pos c2]
          rw [fa_lt, e2] at c2
          refine cjy18 hn hb hT hT0 h15 h16 fuel _ _ (by omega) (nxt_sub x T) (by rw [e2]; omega) (fun p hp hp0 hpx ho => ?_) (Or.inr ⟨x, hx, c, c1, e2⟩)
          rw [e2]
          by_cases q : p = x
          · rw [q]; exact Int.le_refl _
          · by_cases q2 : x < p
            · have := h1 p hp hp0 q2 ho; omega
            · have := nxt (by omega) hx hp (by omega); omega
        · rw [if_neg c2]
          rw [fa_lt, e2] at c2
          refine cjy18 hn hb hT hT0 h15 h16 fuel _ _ (by omega) (nxt_sub x T) h0 (fun p hp hp0 hpx ho => ?_) h2
          by_cases q : p = x
          · rw [q]; omega
          · by_cases q2 : x < p
            · exact h1 p hp hp0 q2 ho
            · have := nxt (by omega) hx hp (by omega); omega
theorem cjy4 {F n : Nat} {M one : Nat → Int} (hn : n ≤ 6) (hb : ∀ T, T < 2 ^ n → (0 ≤ M T ∧ M T ≤ 600000) ∧ (-1 ≤ one T ∧ one T ≤ 1200000)) {S : vs} (hF : 100 ≤ F) (h15 : ∀ p, p < 2 ^ n → p ≠ 0 → (S.1 (0, 15) p).toInt = one p) : ∀ (T fuel : Nat) (U : vs), T < fuel → T < 2 ^ n → Ag (fun k _ => k = (0, 16)) S U → (∀ p, p ≤ T → (U.1 (0, 16) p).toInt = M p) → (∀ p, T < p → p < 2 ^ n → JNr M one (fun _ => (U.1 (0, 16) p).toInt) p) → ∃ U', hX0_joinYear_4 F fuel (nI T) U = some U' ∧ Ag (fun k _ => k = (0, 16)) S U' ∧ ∀ p, p < 2 ^ n → JNr M one (fun _ => (U'.1 (0, 16) p).toInt) p
  | 0, fuel, U, hf, hT, hA, h16, hJ => by
    obtain ⟨f, rfl⟩ : ∃ f, fuel = f + 1 := ⟨fuel - 1, by omega⟩
    refine ⟨U, by rw [hX0_joinYear_4, if_pos (show nI 0 ≤ 0 from Int32.le_refl _)], hA, fun p hp => ?_⟩
    by_cases c : p = 0
    · subst c
      refine ⟨?_, fun q hq hq0 => ?_, Or.inl ?_⟩
      · rw [h16 0 (Nat.le_refl _)]; exact Int.le_refl _
      · have := sub_le hq; omega
      · exact h16 0 (Nat.le_refl _)
    · exact hJ p (by omega) hp
  | T + 1, fuel, U, hf, hT, hA, h16, hJ => by
    obtain ⟨f, rfl⟩ : ∃ f, fuel = f + 1 := ⟨fuel - 1, by omega⟩
    have h64 := two6 hn
    obtain ⟨r, e, jr⟩ := cjy18 (F := F) (k4 := hX0_joinYear_4 F f) (U := U) hn hb hT (by omega) (fun p hp hp0 => by rw [hA.1 _ _ (by simp)]; exact h15 p hp hp0) h16 F (T + 1) (U.1 (0, 16) (T + 1)) (by omega) (Nat.and_self _) (by rw [h16 _ (Nat.le_refl _)]; exact Int.le_refl _) (fun p hp hp0 hpx ho => by have := sub_le hp; omega) (Or.inl (h16 _ (Nat.le_refl _)))
    obtain ⟨U', q, g1, g2⟩ := cjy4 hn hb hF h15 T f (s2 U (0, 16) (T + 1) r) (by omega) (by omega) (hA.tr (Ag.put rfl)) (fun p hp => by rw [s2_at, if_neg (fun z => by have := z.2; omega)]; exact h16 p (by omega)) (fun p hp hp2 => by
      by_cases c : p = T + 1
      · rw [c, s2_at, if_pos ⟨rfl, rfl⟩]; exact jr
      · rw [s2_at, if_neg (fun z => c z.2)]; exact hJ p (by omega) hp2)
    refine ⟨U', ?_, g1, g2⟩
    rw [hX0_joinYear_4, if_neg (nI_nle (show 0 < T + 1 by omega) (by omega))]
    simp only [al16, inb_nI (show T + 1 < 64 by omega) (by decide), cl_nI (show T + 1 < 2 ^ 31 by omega), gd, if_true, ltt]
    rw [e]
    exact q
theorem JNr_of {M one M' : Nat → Int} {T : Nat} (h : JNr M one (fun _ => M' T) T) : JNr M one M' T := ⟨h.1, h.2.1, h.2.2⟩
theorem cJoin {F n : Nat} {M one : Nat → Int} (hn : n ≤ 6) (hb : ∀ T, T < 2 ^ n → (0 ≤ M T ∧ M T ≤ 600000) ∧ (-1 ≤ one T ∧ one T ≤ 1200000)) {S : vs} (hF : 100 ≤ F) (h15 : ∀ p, p < 2 ^ n → p ≠ 0 → (S.1 (0, 15) p).toInt = one p) (h16 : ∀ p, p < 2 ^ n → (S.1 (0, 16) p).toInt = M p) : ∃ U', fX0_joinYear F (nI (2 ^ n)) S = some U' ∧ Ag (fun k _ => k = (0, 16)) S U' ∧ ∀ p, p < 2 ^ n → JNr M one (fun T => (U'.1 (0, 16) T).toInt) p := by
  have h64 := two6 hn
  obtain ⟨q, hq⟩ : ∃ q, 2 ^ n = q + 1 := ⟨2 ^ n - 1, by omega⟩
  have hqF : q < F := by omega
  have hqn : q < 2 ^ n := by omega
  have h3 : ∀ p, p ≤ q → (S.1 (0, 16) p).toInt = M p := fun p hp => h16 p (by omega)
  have h4 : ∀ p, q < p → p < 2 ^ n → JNr M one (fun _ => (S.1 (0, 16) p).toInt) p := fun p h1 h2 => absurd h1 (by omega)
  obtain ⟨U', e, g1, g2⟩ := cjy4 hn hb hF h15 q F S hqF hqn (Ag.rf S) h3 h4
  refine ⟨U', ?_, g1, fun p hp => JNr_of (M' := fun T => (U'.1 (0, 16) T).toInt) (g2 p hp)⟩
  unfold fX0_joinYear
  rw [hq, nI_pred]
  exact e
