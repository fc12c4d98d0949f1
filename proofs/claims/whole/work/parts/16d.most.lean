/-! the most that the places from one on save -/
def PB (m Y : Nat) (lh nh : Nat → Int32) (sv : Nat → Nat → Int32) : Prop := m ≤ 6 ∧ (1 ≤ Y ∧ Y ≤ 3) ∧ ∀ p, p < m → rg 1 1000 (lh p) ∧ rg 1 1000 (nh p) ∧ ∀ o, rg 0 100000 (sv o p)
def PD (m Y : Nat) (lh nh : Nat → Int32) (sv : Nat → Nat → Int32) (S : vs) : Prop := S.1 (0, 2) 0 = nI m ∧ S.1 (0, 2) 1 = nI Y ∧ (∀ p, p < m → S.1 (0, 7) p = lh p ∧ S.1 (0, 8) p = nh p) ∧ ∀ o p, o < 2 * Y → p < m → S.1 (4, o) p = sv o p
def WK (k : vk) (_ : Nat) : Prop := k.1 = 0 ∧ 10 ≤ k.2 ∧ k.2 ≤ 16
def PK (k : vk) (_ : Nat) : Prop := k.1 = 0 ∧ 11 ≤ k.2 ∧ k.2 ≤ 16
theorem PD.ag {m Y : Nat} {lh nh : Nat → Int32} {sv : Nat → Nat → Int32} {S S' : vs} (h : PD m Y lh nh sv S) (a : Ag WK S S') : PD m Y lh nh sv S' := by
  obtain ⟨h1, h2, h3, h4⟩ := h
  refine ⟨?_, ?_, fun p hp => ⟨?_, ?_⟩, fun o p ho hp => ?_⟩
  · rw [a.1 _ _ (by unfold WK; simp)]; exact h1
  · rw [a.1 _ _ (by unfold WK; simp)]; exact h2
  · rw [a.1 _ _ (by unfold WK; simp)]; exact (h3 p hp).1
  · rw [a.1 _ _ (by unfold WK; simp)]; exact (h3 p hp).2
  · rw [a.1 _ _ (by unfold WK; simp)]; exact h4 o p ho hp
theorem Ag.pw {S S' : vs} (h : Ag PK S S') : Ag WK S S' := h.mono (fun k j q => ⟨q.1, by have := q.2.1; omega, q.2.2⟩)
theorem Ag.key {S S' : vs} {a : Nat} (h : Ag (fun k _ => k = (0, a)) S S') (ha : 11 ≤ a ∧ a ≤ 16) : Ag PK S S' := h.mono (fun k j q => by rw [q]; exact ⟨rfl, ha⟩)
def mxF (lh nh : Nat → Int) (sv : Nat → Nat → Int) (n Y : Nat) (cap : Nat → Int) (v : Int) : Prop := (∃ f, (∀ y, y < Y → uS lh nh n f y ≤ cap y) ∧ vS sv n Y f = v) ∧ ∀ f, (∀ y, y < Y → uS lh nh n f y ≤ cap y) → vS sv n Y f ≤ v
theorem isD_mx {lh nh : Nat → Int} {sv : Nat → Nat → Int} {n Y : Nat} {cap M : Nat → Int} (h : isD lh nh sv n cap Y M) : mxF lh nh sv n Y cap (M (2 ^ n - 1)) := by
  have p : 0 < 2 ^ n := Nat.two_pow_pos n
  obtain ⟨⟨f, h1, h2⟩, h3⟩ := h (2 ^ n - 1) (by omega)
  refine ⟨⟨f, h1.2, h2⟩, fun f hf => h3 f ⟨fun i hi _ => ?_, hf⟩⟩
  rw [Nat.testBit_two_pow_sub_one]
  exact decide_eq_true hi
theorem m92 {F n y : Nat} {tL tN sL sN : Nat → Int} {S : vs} {H x1 : Int32} {k45 : Int32 → vs → Option (Int32 × vs)} (hn : n ≤ 6) (hy : y < 3) (hF : 100 ≤ F) (hH : S.1 (0, 10) y = H) (h11 : ∀ T, T < 2 ^ n → (S.1 (0, 11) T).toInt = tL T) (h12 : ∀ T, T < 2 ^ n → (S.1 (0, 12) T).toInt = tN T) (h13 : ∀ T, T < 2 ^ n → (S.1 (0, 13) T).toInt = sL T) (h14 : ∀ T, T < 2 ^ n → (S.1 (0, 14) T).toInt = sN T) (hb : ∀ T, (0 ≤ tL T ∧ tL T ≤ 600000) ∧ (0 ≤ tN T ∧ tN T ≤ 600000) ∧ (0 ≤ sL T ∧ sL T ≤ 600000) ∧ (0 ≤ sN T ∧ sN T ≤ 600000)) (h0 : tN 0 = 0 ∧ sN 0 = 0) {M : Nat → Int} (hM : ∀ T, T < 2 ^ n → (S.1 (0, 16) T).toInt = M T ∧ 0 ≤ M T ∧ M T ≤ 600000) : ∀ (d t fuel : Nat) (U : vs), t + d = 2 ^ n → 1 ≤ t → d < fuel → Ag (fun k _ => k = (0, 15)) S U → (∀ p, p < t → p ≠ 0 → STr tN tL sN sL p H.toInt (U.1 (0, 15) p).toInt) → ∃ U' one, hX0_mostFrom_92 k45 F x1 (nI (2 ^ n)) (nI y) fuel (nI t) U = k45 (nI (y + 1)) U' ∧ Ag PK S U' ∧ (∀ a, a ≤ 14 → ∀ j, U'.1 (0, a) j = S.1 (0, a) j) ∧ (∀ p, p < 2 ^ n → p ≠ 0 → STr tN tL sN sL p H.toInt (one p)) ∧ ∀ T, T < 2 ^ n → JNr M one (fun T => (U'.1 (0, 16) T).toInt) T := by
  have h64 := two6 hn
  intro d
  induction d with
  | zero =>
    intro t fuel U ht h1 hf hA hQ
    obtain ⟨f, rfl⟩ : ∃ f, fuel = f + 1 := ⟨fuel - 1, by omega⟩
    have : t = 2 ^ n := by omega
    subst this
    have bo : ∀ T, T < 2 ^ n → (0 ≤ M T ∧ M T ≤ 600000) ∧ (-1 ≤ (if T = 0 then (0 : Int) else (U.1 (0, 15) T).toInt) ∧ (if T = 0 then (0 : Int) else (U.1 (0, 15) T).toInt) ≤ 1200000) := fun T hT => by
      refine ⟨(hM T hT).2, ?_⟩
      by_cases c : T = 0
      · rw [if_pos c]; omega
      · rw [if_neg c]
        rcases (hQ T hT c).2 with e | ⟨z, _, _, e⟩
        · rw [e]; omega
        · have := hb z
          have := hb (T ^^^ z)
          omega
    obtain ⟨U', e, g1, g2⟩ := cJoin (F := F) (S := U) hn bo hF (fun p hp hp0 => by rw [if_neg hp0]) (fun p hp => by rw [hA.1 _ _ (by simp)]; exact (hM p hp).1)
    refine ⟨U', fun T => if T = 0 then (0 : Int) else (U.1 (0, 15) T).toInt, ?_, (hA.key (by decide)).tr (g1.key (by decide)), fun a ha j => ?_, fun p hp hp0 => ?_, g2⟩
    · rw [hX0_mostFrom_92, if_pos (Int32.le_refl _), e]
      simp only [Option.bind_some, ltt, nI_1]
    · rw [g1.1 _ _ (by simp; omega), hA.1 _ _ (by simp; omega)]
    · simp only [if_neg hp0]
      exact hQ p hp hp0
  | succ d ih =>
    intro t fuel U ht h1 hf hA hQ
    obtain ⟨f, rfl⟩ : ∃ f, fuel = f + 1 := ⟨fuel - 1, by omega⟩
    have htl : t < 2 ^ n := by omega
    have fr : ∀ a j, a ≠ 15 → U.1 (0, a) j = S.1 (0, a) j := fun a j h => hA.1 _ _ (by simp; exact h)
    obtain ⟨r, er, hr⟩ := cST (F := F) (S := U) (H := H) hn (fun T hT => by rw [fr 11 T (by decide)]; exact h11 T hT) (fun T hT => by rw [fr 12 T (by decide)]; exact h12 T hT) (fun T hT => by rw [fr 13 T (by decide)]; exact h13 T hT) (fun T hT => by rw [fr 14 T (by decide)]; exact h14 T hT) hb h0 htl hF
    obtain ⟨U', one, e, g⟩ := ih (t + 1) f (s2 U (0, 15) t r) (by omega) (by omega) (by omega) (hA.tr (Ag.put rfl)) (fun p hp hp0 => by
      rw [s2_at]
      by_cases c : p = t
      · rw [if_pos ⟨rfl, c⟩, c]; exact hr
      · rw [if_neg (fun z => c z.2)]; exact hQ p (by omega) hp0)
    refine ⟨U', one, ?_, g⟩
    rw [hX0_mostFrom_92, if_neg (nle_nI htl (by omega)), al10, inb_nI hy (by decide), cl_nI (show y < 2 ^ 31 by omega), fr 10 y (by decide), hH, er]
    simp only [gd, if_true, Option.bind_some, al15, inb_nI (show t < 64 by omega) (by decide), cl_nI (show t < 2 ^ 31 by omega), stp, ltt, nI_1]
    exact e
theorem vS_b {sv : Nat → Nat → Int} {n y : Nat} {f : Nat → Nat} (hn : n ≤ 6) (h : ∀ o i, i < n → 0 ≤ sv o i ∧ sv o i ≤ 100000) : 0 ≤ vS sv n y f ∧ vS sv n y f ≤ 600000 := by
  have := smI_b (c := 100000) (g := fun i => if f i < 2 * y then sv (f i) i else 0) n (fun i hi => by
    have := h (f i) i hi
    split <;> omega)
  unfold vS
  omega
theorem m45 {F m Y first : Nat} {lh nh : Nat → Int32} {sv : Nat → Nat → Int32} {S : vs} {cap : Nat → Int} (hB : PB m Y lh nh sv) (hD : PD m Y lh nh sv S) (hf : first ≤ m) (hF : 100 ≤ F) (hc : ∀ y, y < Y → (S.1 (0, 10) y).toInt = cap y ∧ 0 ≤ cap y) (h11 : ∀ T, T < 2 ^ (m - first) → (S.1 (0, 11) T).toInt = mS (fun i => (lh (first + i)).toInt) (m - first) T) (h12 : ∀ T, T < 2 ^ (m - first) → (S.1 (0, 12) T).toInt = mS (fun i => (nh (first + i)).toInt) (m - first) T) : ∀ (d y fuel : Nat) (U : vs), y + d = Y → d < fuel → Ag PK S U → (∀ a, a ≤ 12 → ∀ j, U.1 (0, a) j = S.1 (0, a) j) → isD (fun i => (lh (first + i)).toInt) (fun i => (nh (first + i)).toInt) (fun o i => (sv o (first + i)).toInt) (m - first) cap y (fun T => (U.1 (0, 16) T).toInt) → ∃ r U', hX0_mostFrom_45 F (nI first) (nI (2 ^ (m - first))) fuel (nI y) U = some (r, U') ∧ Ag PK S U' ∧ mxF (fun i => (lh (first + i)).toInt) (fun i => (nh (first + i)).toInt) (fun o i => (sv o (first + i)).toInt) (m - first) Y cap r.toInt := by
  have hm := hB.1
  have hY := hB.2.1
  have h64 := two6 (show m - first ≤ 6 by omega)
  have bs : ∀ o i, i < m - first → 0 ≤ (sv o (first + i)).toInt ∧ (sv o (first + i)).toInt ≤ 100000 := fun o i hi => (hB.2.2 (first + i) (by omega)).2.2 o
  have b100 : ∀ e : Nat → Int32, (∀ p, p < m → rg 0 100000 (e p)) → ∀ T, 0 ≤ mS (fun i => (e (first + i)).toInt) (m - first) T ∧ mS (fun i => (e (first + i)).toInt) (m - first) T ≤ 600000 := fun e he T => by
    have := mS_b (e := fun i => (e (first + i)).toInt) (n := m - first) (T := T) (fun i hi => he (first + i) (by omega))
    omega
  have bl : ∀ p, p < m → rg 0 100000 (lh p) := fun p hp => by
    have := (hB.2.2 p hp).1
    exact ⟨by have := this.1; omega, by have := this.2; omega⟩
  have bn : ∀ p, p < m → rg 0 100000 (nh p) := fun p hp => by
    have := (hB.2.2 p hp).2.1
    exact ⟨by have := this.1; omega, by have := this.2; omega⟩
  intro d
  induction d with
  | zero =>
    intro y fuel U hy hfu hA hk hi
    obtain ⟨f, rfl⟩ : ∃ f, fuel = f + 1 := ⟨fuel - 1, by omega⟩
    have : y = Y := by omega
    subst this
    have hDU := hD.ag hA.pw
    obtain ⟨q, hq⟩ : ∃ q, 2 ^ (m - first) = q + 1 := ⟨2 ^ (m - first) - 1, by omega⟩
    refine ⟨U.1 (0, 16) q, U, ?_, hA, ?_⟩
    · rw [hX0_mostFrom_45, hDU.2.1, if_pos (Int32.le_refl _), hq, nI_pred, al16, inb_nI (show q < 64 by omega) (by decide), cl_nI (show q < 2 ^ 31 by omega)]
      rfl
    · have := isD_mx hi
      rw [show 2 ^ (m - first) - 1 = q by omega] at this
      exact this
  | succ d ih =>
    intro y fuel U hy hfu hA hk hi
    obtain ⟨f, rfl⟩ : ∃ f, fuel = f + 1 := ⟨fuel - 1, by omega⟩
    have hDU := hD.ag hA.pw
    obtain ⟨U1, e1, g1, t1⟩ := cAdd (F := F) (first := first) (a1 := (4, 2 * y)) (a3 := (0, 13)) (e := sv (2 * y)) (S := U) hm (fun d => al4 d (by omega)) al13 (by simp) (by simp) hDU.1 (fun p hp => hDU.2.2.2 (2 * y) p (by omega) hp) (fun p hp => (hB.2.2 p hp).2.2 _) hF hf
    have hD1 := hDU.ag (g1.key (by decide)).pw
    obtain ⟨U2, e2, g2, t2⟩ := cAdd (F := F) (first := first) (a1 := (4, 2 * y + 1)) (a3 := (0, 14)) (e := sv (2 * y + 1)) (S := U1) hm (fun d => al4 d (by omega)) al14 (by simp) (by simp) hD1.1 (fun p hp => hD1.2.2.2 (2 * y + 1) p (by omega) hp) (fun p hp => (hB.2.2 p hp).2.2 _) hF hf
    have k1 : ∀ a j, a ≠ 13 → a ≠ 14 → U2.1 (0, a) j = U.1 (0, a) j := fun a j h1 h2 => by
      rw [g2.1 _ _ (by simp; exact h2), g1.1 _ _ (by simp; exact h1)]
    have hcy := hc y (by omega)
    obtain ⟨U3, one, e3, g3, k3, s3, j3⟩ := m92 (F := F) (n := m - first) (y := y) (S := U2) (H := S.1 (0, 10) y) (x1 := nI first) (k45 := hX0_mostFrom_45 F (nI first) (nI (2 ^ (m - first))) f) (M := fun T => (U.1 (0, 16) T).toInt) (by omega) (by omega) hF (by rw [k1 10 y (by decide) (by decide), hk 10 (by decide)]) (fun T hT => by rw [k1 11 T (by decide) (by decide), hk 11 (by decide)]; exact h11 T hT) (fun T hT => by rw [k1 12 T (by decide) (by decide), hk 12 (by decide)]; exact h12 T hT) (fun T hT => by rw [g2.1 _ _ (by simp)]; exact t1 T hT) t2 (fun T => ⟨b100 lh bl T, b100 nh bn T, b100 (sv (2 * y)) (fun p hp => (hB.2.2 p hp).2.2 _) T, b100 (sv (2 * y + 1)) (fun p hp => (hB.2.2 p hp).2.2 _) T⟩) ⟨mS_0 _ _, mS_0 _ _⟩ (fun T hT => by
      rw [k1 16 T (by decide) (by decide)]
      obtain ⟨⟨fa, _, h2⟩, _⟩ := hi T hT
      have := vS_b (y := y) (f := fa) (show m - first ≤ 6 by omega) bs
      rw [h2] at this
      exact ⟨rfl, this⟩) (2 ^ (m - first) - 1) 1 F U2 (by omega) (by omega) (by omega) (Ag.rf U2) (fun p hp hp0 => by omega)
    rw [hcy.1] at s3
    have di := DP_s (cap := cap) hi s3 j3 hcy.2 (fun o i hi => (bs o i hi).1)
    have ag : Ag PK S U3 := ((hA.tr (g1.key (by decide))).tr (g2.key (by decide))).tr g3
    obtain ⟨r, U', e4, g4, x4⟩ := ih (y + 1) f U3 (by omega) (by omega) ag (fun a ha j => by rw [k3 a (by omega), k1 a j (by omega) (by omega), hk a ha]) di
    refine ⟨r, U', ?_, g4, x4⟩
    have m2 : 2 * nI y = nI (2 * y) := by rw [show (2 : Int32) = nI 2 from rfl, nI_mul]
    rw [hX0_mostFrom_45, hDU.2.1, if_neg (nle_nI (show y < Y by omega) (by omega)), m2, nI_1, rget5 (show 2 * y < 6 by omega)]
    simp only [Option.bind_some, e1]
    rw [rget5 (show 2 * y + 1 < 6 by omega)]
    simp only [Option.bind_some, e2]
    rw [show nI 1 = (1 : Int32) from rfl] at e3
    rw [e3]
    exact e4
theorem cMost {F m Y first : Nat} {lh nh : Nat → Int32} {sv : Nat → Nat → Int32} {S : vs} {cap : Nat → Int} (hB : PB m Y lh nh sv) (hD : PD m Y lh nh sv S) (hf : first ≤ m) (hF : 100 ≤ F) (hc : ∀ y, y < Y → (S.1 (0, 10) y).toInt = cap y ∧ 0 ≤ cap y) : ∃ r U', fX0_mostFrom F (nI first) S = some (r, U') ∧ Ag PK S U' ∧ mxF (fun i => (lh (first + i)).toInt) (fun i => (nh (first + i)).toInt) (fun o i => (sv o (first + i)).toInt) (m - first) Y cap r.toInt := by
  have hm := hB.1
  have h64 := two6 (show m - first ≤ 6 by omega)
  have bl : ∀ p, p < m → rg 0 100000 (lh p) := fun p hp => by
    have := (hB.2.2 p hp).1
    exact ⟨by have := this.1; omega, by have := this.2; omega⟩
  have bn : ∀ p, p < m → rg 0 100000 (nh p) := fun p hp => by
    have := (hB.2.2 p hp).2.1
    exact ⟨by have := this.1; omega, by have := this.2; omega⟩
  obtain ⟨U1, e1, g1, t1⟩ := cAdd (F := F) (first := first) (a1 := (0, 7)) (a3 := (0, 11)) (e := lh) (S := S) hm al7 al11 (by simp) (by simp) hD.1 (fun p hp => (hD.2.2.1 p hp).1) bl hF hf
  have hD1 := hD.ag (g1.key (by decide)).pw
  obtain ⟨U2, e2, g2, t2⟩ := cAdd (F := F) (first := first) (a1 := (0, 8)) (a3 := (0, 12)) (e := nh) (S := U1) hm al8 al12 (by simp) (by simp) hD1.1 (fun p hp => (hD1.2.2.1 p hp).2) bn hF hf
  obtain ⟨U3, e3, g3, t3⟩ := cFill (F := F) (a0 := (0, 16)) (x1 := 0) al16 (by decide) (by decide) U2 hF
  have ag : Ag PK S U3 := ((g1.key (by decide)).tr (g2.key (by decide))).tr (g3.key (by decide))
  have hD3 := hD.ag ag.pw
  obtain ⟨r, U', e4, g4, x4⟩ := m45 (F := F) (S := U3) (cap := cap) hB hD3 hf hF (fun y hy => by
    rw [g3.1 _ _ (by simp), g2.1 _ _ (by simp), g1.1 _ _ (by simp)]
    exact hc y hy) (fun T hT => by rw [g3.1 _ _ (by simp), g2.1 _ _ (by simp)]; exact t1 T hT) (fun T hT => by rw [g3.1 _ _ (by simp)]; exact t2 T hT) Y 0 F U3 (by omega) (by have := hB.2.1; omega) (Ag.rf U3) (fun a ha j => rfl) (DP_0 (fun T hT => by rw [t3 T (by omega)]; rfl))
  refine ⟨r, U', ?_, ag.tr g4, x4⟩
  unfold fX0_mostFrom
  rw [hD.1, nI_sub hf, bit_nI (show m - first < 16 by omega)]
  simp only [ltt, e1, e2, e3, Option.bind_some]
  rw [nI_0] at e4
  exact e4
