/-! may, heard -/
def lB (tx : Nat → Nat → Int32) : Option Nat → Bool
  | none => false
  | some t => decide (¬ tx t 4 = 0)
theorem ltm_bit {tc f s : Nat} {tx : Nat → Nat → Int32} {pm : Nat → Nat} (o : OkT tc tx pm) {h : Int32} {day : Int} (hf : f < 8) (hs : s < 4) : ∀ k, k ≤ tc → tb (ltm tx pm h day k) (8 * s + f) = lB tx (lat tx pm (nI f) (nI s) h day k)
  | 0, _ => tb_0 _
  | k + 1, hk => by
    have ih := ltm_bit o hf hs k (by omega) (h := h) (day := day)
    have ok := o.2.1 (pm k) (o.2.2.1 k (by omega))
    have pb := prs_bit ok.1 ok.2.1 hf hs
    rw [ltm, lat]
    generalize ltm tx pm h day k = m at ih
    generalize lat tx pm (nI f) (nI s) h day k = r at ih
    unfold Mt
    by_cases c1 : (tx (pm k) 3).toInt ≤ day
    · rw [if_pos c1]
      by_cases c2 : isF tx h (pm k) = true
      · rw [if_pos c2]
        unfold lt1
        by_cases c3 : (decide (tx (pm k) 0 = nI f) && (decide (tx (pm k) 1 = (-9)) || decide (tx (pm k) 1 = nI s))) = true
        · rw [c3] at pb
          by_cases c4 : tx (pm k) 4 = 0
          · rw [if_pos c4, tb_and, tb_not _ (by omega), pb, c3, c2, decide_eq_true c1]; simp [lB, c4]
          · rw [if_neg c4, tb_or, pb, c3, c2, decide_eq_true c1]; simp [lB, c4]
        · have c3' := Bool.eq_false_iff.mpr c3
          rw [c3'] at pb
          by_cases c4 : tx (pm k) 4 = 0
          · rw [if_pos c4, tb_and, tb_not _ (by omega), pb, ih, c3']; simp
          · rw [if_neg c4, tb_or, pb, ih, c3']; simp
      · rw [if_neg c2, if_neg (by rw [Bool.eq_false_iff.mpr c2]; simp), ih]
    · rw [if_neg c1, if_neg (by rw [decide_eq_false c1]; simp), ih]
def myB (tx : Nat → Nat → Int32) (fam : Int32) (L : Nat → Option Nat) : Nat → Bool
  | 0 => true
  | f + 1 => myB tx fam L f && (!tb fam f || lB tx (L f))
theorem myB_t {tx : Nat → Nat → Int32} {fam : Int32} {L : Nat → Option Nat} : ∀ k, myB tx fam L k = true ↔ ∀ f, f < k → tb fam f = true → lB tx (L f) = true
  | 0 => ⟨fun _ f hf => by omega, fun _ => rfl⟩
  | k + 1 => by
    rw [myB, Bool.and_eq_true, myB_t k]
    constructor
    · rintro ⟨h1, h2⟩ f hf ht
      by_cases e : f = k
      · subst e; rw [ht] at h2; simpa using h2
      · exact h1 f (by omega) ht
    · intro h
      refine ⟨fun f hf ht => h f (by omega) ht, ?_⟩
      cases e : tb fam k
      · rfl
      · simpa using h k (by omega) e
theorem mmh {F tc i n : Nat} {tx : Nat → Nat → Int32} {pm : Nat → Nat} {yr : Int32} {sd : Nat → Nat → Int32} {S : vs} {h day : Int32} (oS : OkS n yr sd) (mS : MS n yr sd S) (hi : i < n) (o : OkT tc tx pm) (hr : MT tc tx S) (hF : 100 ≤ F) : ∀ (d f fuel : Nat), f + d = 8 → d < fuel → hX8_mayHear_6 F S (nI i) h day fuel (b01 (myB tx (sd i 9) (fun f => lat tx pm (nI f) (sd i 10) h day.toInt tc) f)) (nI f) = some (b01 (myB tx (sd i 9) (fun f => lat tx pm (nI f) (sd i 10) h day.toInt tc) 8)) := by
  have hn := oS.1
  have hg := o.1
  have hin : inb (nI i) 16 = true := inb_nI (by omega) (by decide)
  have hcl : (nI i).toNatClampNeg = i := cl_nI (by omega)
  have b9 : S.1 (0, 32) i = sd i 9 := mS.2.2.1 i 9 hi (by decide)
  have b10 : S.1 (0, 33) i = sd i 10 := mS.2.2.1 i 10 hi (by decide)
  intro d
  induction d with
  | zero =>
    intro f fuel hk hu
    obtain ⟨fu, rfl⟩ : ∃ f, fuel = f + 1 := ⟨fuel - 1, by omega⟩
    have : f = 8 := by omega
    subst this
    rw [hX8_mayHear_6, if_pos (by decide)]
    simp [gd, b01_z]
  | succ d ih =>
    intro f fuel hk hu
    obtain ⟨fu, rfl⟩ : ∃ f, fuel = f + 1 := ⟨fuel - 1, by omega⟩
    have hf : f < 8 := by omega
    have nx := ih (f + 1) fu (by omega) (by omega)
    rw [hX8_mayHear_6, if_neg (show ¬ (8 : Int32) ≤ nI f from nle_nI hf (by decide))]
    by_cases c : myB tx (sd i 9) (fun f => lat tx pm (nI f) (sd i 10) h day.toInt tc) f = true
    · simp only [c, b01_ite, if_true, hin, hcl, b9, b10, al32, al33, gd, shr_1 (show f < 32 by omega), mCst o hr hF, Option.bind_some, jX8_mayHear_73, jX8_mayHear_71, jX8_mayHear_70, ltt, nI_1]
      rw [myB, c] at nx
      by_cases c2 : tb (sd i 9) f = true
      · rw [if_pos c2]
        rw [c2] at nx
        have ok := ctx0_ok tc (tx := tx) (f := nI f) (s := sd i 10) (h := h) (day := day.toInt)
        rw [ctx0_lat o] at ok
        generalize lat tx pm (nI f) (sd i 10) h day.toInt tc = r at nx ok ⊢
        cases r with
        | none =>
          rw [show oI none = (-9) from rfl, if_pos rfl, ← nx]
          rfl
        | some t =>
          have ht : t < tc := ok.1
          have b4 : S.1 (0, 45) t = tx t 4 := hr.2 t 4 ht (by decide)
          rw [show oI (some t) = nI t from rfl, if_neg (nI_nm9t (show t < 2 ^ 31 by omega)), al45, if_pos (inb_nI (by omega) (by decide)), cl_nI (by omega), b4, ← nx]
          by_cases c4 : tx t 4 = 0
          · rw [if_pos c4]; simp [lB, c4, b01]
          · rw [if_neg c4]; simp [lB, c4, b01]
      · rw [if_neg c2, ← nx]
        simp [Bool.eq_false_iff.mpr c2]
    · have c' := Bool.eq_false_iff.mpr c
      have e8 : myB tx (sd i 9) (fun f => lat tx pm (nI f) (sd i 10) h day.toInt tc) 8 = false := by
        rw [Bool.eq_false_iff]
        intro z
        exact c ((myB_t f).mpr (fun f' hf' => (myB_t 8).mp z f' (by omega)))
      simp [c', e8, b01_ite, gd, b01_z]
/-- what a Side asks for, by a mask -/
def ask (sd : Nat → Nat → Int32) (i : Nat) : Int32 := sd i 9 <<< ((sd i 10 * 8) &&& 31)
def hB (sd tx : Nat → Nat → Int32) (pm : Nat → Nat) (tc : Nat) (h : Int32) (day : Int) (i : Nat) : Bool := decide ((ask sd i &&& (ltm tx pm h day tc ^^^ (-1))) = 0)
theorem s8 {s : Nat} (hs : s < 4) : (nI s * 8) &&& 31 = nI (8 * s) := by
  have : ∀ s : Fin 4, (nI s.val * 8) &&& 31 = nI (8 * s.val) := by decide +kernel
  exact this ⟨s, hs⟩
theorem fam8 {x : Int32} {j : Nat} (hx : rg 0 255 x) (hj : j < 32) (h : tb x j = true) : j < 8 := by
  obtain ⟨m, hm, rfl⟩ := rg_of (n := 255) hx
  have : ∀ m : Fin 256, ∀ j : Fin 32, tb (nI m.val) j.val = true → j.val < 8 := by decide +kernel
  exact this ⟨m, by omega⟩ ⟨j, hj⟩ h
theorem ask_bit {sd : Nat → Nat → Int32} {i s j : Nat} (h9 : rg 0 255 (sd i 9)) (h10 : sd i 10 = nI s) (hs : s < 4) (hj : j < 32) : tb (ask sd i) j = true ↔ ∃ f, f < 8 ∧ j = 8 * s + f ∧ tb (sd i 9) f = true := by
  unfold ask
  rw [h10, s8 hs, tb_shl _ (by omega) hj, Bool.and_eq_true, decide_eq_true_eq]
  constructor
  · rintro ⟨h1, h2⟩
    exact ⟨j - 8 * s, fam8 h9 (by omega) h2, by omega, h2⟩
  · rintro ⟨f, hf, rfl, ht⟩
    exact ⟨by omega, by rw [show 8 * s + f - 8 * s = f by omega]; exact ht⟩
theorem hB_my {tc n i : Nat} {tx : Nat → Nat → Int32} {pm : Nat → Nat} {yr : Int32} {sd : Nat → Nat → Int32} {h : Int32} {day : Int} (oS : OkS n yr sd) (hi : i < n) (o : OkT tc tx pm) : hB sd tx pm tc h day i = myB tx (sd i 9) (fun f => lat tx pm (nI f) (sd i 10) h day tc) 8 := by
  obtain ⟨-, -, -, -, -, -, h9, h10, -⟩ := oS.2.2.1 i hi
  obtain ⟨s, hs, e10⟩ := rg_of (n := 3) h10
  rw [Bool.eq_iff_iff, myB_t]
  unfold hB
  rw [decide_eq_true_eq, sub_bits]
  constructor
  · intro z f hf ht
    have := z (8 * s + f) (by omega) ((ask_bit h9 e10 (by omega) (by omega)).mpr ⟨f, hf, rfl, ht⟩)
    rw [ltm_bit o hf (by omega) tc (Nat.le_refl _)] at this
    simp only [e10]
    exact this
  · intro z j hj ha
    obtain ⟨f, hf, rfl, ht⟩ := (ask_bit h9 e10 (by omega) hj).mp ha
    have := z f hf ht
    simp only [e10] at this
    rw [ltm_bit o hf (by omega) tc (Nat.le_refl _)]
    exact this
theorem mHear {F tc i n : Nat} {tx : Nat → Nat → Int32} {pm : Nat → Nat} {yr : Int32} {sd : Nat → Nat → Int32} {S : vs} {h day : Int32} (oS : OkS n yr sd) (mS : MS n yr sd S) (hi : i < n) (o : OkT tc tx pm) (hr : MT tc tx S) (hF : 100 ≤ F) : fX8_mayHear F (nI i) h day S = some (b01 (hB sd tx pm tc h day.toInt i)) := by
  rw [hB_my oS hi o]
  exact mmh oS mS hi o hr hF 8 0 F (by omega) (by omega)
theorem cAsk {F n i : Nat} {yr : Int32} {sd : Nat → Nat → Int32} {S : vs} (h : RS n yr sd S) (hi : i < n) : fX2_asked F i S = some (ask sd i) := by
  unfold fX2_asked ask
  rw [alv1 h hi, h.2.2.2.2 i 9 hi (by decide), h.2.2.2.2 i 10 hi (by decide)]
  rfl
theorem cHear {F tc i n : Nat} {tx : Nat → Nat → Int32} {pm : Nat → Nat} {yr : Int32} {sd : Nat → Nat → Int32} {S : vs} {h : Int32} {day : Int} (rS : RS n yr sd S) (hi : i < n) : fX2_isLetBy F i (ltm tx pm h day tc) S = some (b01 (hB sd tx pm tc h day i)) := by
  unfold fX2_isLetBy hB b01
  rw [alv1 rS hi, cAsk rS hi]
  simp only [gd, if_true, Option.bind_some, decide_eq_true_eq]
  split <;> rfl
theorem pst23 (F : Nat) (hF : 100 ≤ F) : St23 F Inv := by
  intro S hI x1 x2 x3
  obtain ⟨n, yr, sd, oS, rS, mS⟩ := hI.s
  obtain ⟨tc, tx, pm, oT, rT, mT⟩ := hI.t
  have hn := oS.1
  have mT' : MT tc tx (T0 S) := mT.ag (T0_ag S)
  have mS' : MS n yr sd (T0 S) := mS.ag (T0_ag S)
  have e7 := isSide_eq (F := F) (x := x1) rS.2.1 (by omega)
  have e8 := noSide_eq (F := F) (x := x1) mS'.1 (by omega)
  by_cases c1 : wi 0 ((n : Int) - 1) x1 = true
  · by_cases c2 : wi 0 5 x2 = true
    · by_cases c3 : wi 0 9999 x3 = true
      · obtain ⟨i, hi, rfl⟩ := wi_side c1
        refine ⟨b01 (hB sd tx pm tc x2 x3.toInt i), T0 S, ?_, ?_, hI.ag (T0_ag S)⟩
        · simp only [fX7_may, e7, isHearer_eq, isDay_eq, c1, c2, c3, b01_ite, Option.bind_some, if_true, rg2 rS hn hi, cLtm oT rT hF, gd, alv1 rS hi, cHear rS hi]
          cases hB sd tx pm tc x2 x3.toInt i <;> rfl
        · simp only [fX8_may, stp, e8, i0_5, noDay_eq, c1, c2, c3, b01_ite, Option.bind_some, if_true, Bool.not_true, Bool.false_eq_true, if_false, mHear oS mS' hi oT mT' hF]
          cases hB sd tx pm tc x2 x3.toInt i <;> rfl
      · refine ⟨-2, T0 S, ?_, ?_, hI.ag (T0_ag S)⟩
        · simp [fX7_may, e7, isHearer_eq, isDay_eq, c1, c2, c3, b01_ite]
        · simp [fX8_may, stp, e8, i0_5, noDay_eq, c1, c2, c3, b01_ite]
    · refine ⟨-1, T0 S, ?_, ?_, hI.ag (T0_ag S)⟩
      · simp [fX7_may, e7, isHearer_eq, isDay_eq, c1, c2, b01_ite]
      · simp [fX8_may, stp, e8, i0_5, noDay_eq, c1, c2, b01_ite]
  · refine ⟨-1, T0 S, ?_, ?_, hI.ag (T0_ag S)⟩
    · simp [fX7_may, e7, isHearer_eq, isDay_eq, c1, b01_ite]
    · simp [fX8_may, stp, e8, i0_5, noDay_eq, c1, b01_ite]
-- heard
def hrd (B : Nat → Bool) : Nat → Int32
  | 0 => 0
  | k + 1 => if B k = true then hrd B k ||| ((1 : Int32) <<< (nI k &&& 31)) else hrd B k
theorem hrd_bit (B : Nat → Bool) {j : Nat} (hj : j < 32) : ∀ k, k ≤ 16 → tb (hrd B k) j = (decide (j < k) && B j)
  | 0, _ => by rw [hrd, tb_0]; simp
  | k + 1, hk => by
    have ih := hrd_bit B hj k (by omega)
    rw [hrd]
    by_cases c : B k = true
    · rw [if_pos c, tb_or, tb_bit (by omega) hj, ih]
      by_cases e : j = k
      · subst e; simp [c]
      · by_cases e2 : j < k
        · simp [e, e2, show j < k + 1 by omega]
        · simp [e, e2, show ¬ j < k + 1 by omega]
    · rw [if_neg c, ih]
      by_cases e : j = k
      · subst e; simp [Bool.eq_false_iff.mpr c]
      · by_cases e2 : j < k
        · simp [e2, show j < k + 1 by omega]
        · simp [e2, show ¬ j < k + 1 by omega]
theorem chr {F tc n : Nat} {tx : Nat → Nat → Int32} {pm : Nat → Nat} {yr : Int32} {sd : Nat → Nat → Int32} {S : vs} {h : Int32} {day : Int} (oS : OkS n yr sd) (rS : RS n yr sd S) : ∀ (d k fuel : Nat), k + d = n → d < fuel → hX7_heard_35 F S (ltm tx pm h day tc) fuel (hrd (hB sd tx pm tc h day) k) (nI k) = some (hrd (hB sd tx pm tc h day) n) := by
  have hn := oS.1
  intro d
  induction d with
  | zero =>
    intro k fuel hk hu
    obtain ⟨fu, rfl⟩ : ∃ f, fuel = f + 1 := ⟨fuel - 1, by omega⟩
    have : k = n := by omega
    subst this
    rw [hX7_heard_35, rS.2.1, if_pos (Int32.le_refl _)]
  | succ d ih =>
    intro k fuel hk hu
    obtain ⟨fu, rfl⟩ : ∃ f, fuel = f + 1 := ⟨fuel - 1, by omega⟩
    have hkn : k < n := by omega
    have nx := ih (k + 1) fu (by omega) (by omega)
    rw [hX7_heard_35, rS.2.1, if_neg (nle_nI hkn (by omega)), rg2 rS hn hkn]
    simp only [Option.bind_some, gd, alv1 rS hkn, if_true, cHear rS hkn, b01_ite, jX7_heard_67, ltt, nI_1]
    rw [← nx, hrd]
    by_cases e : hB sd tx pm tc h day k = true <;> simp [e]
theorem mhr {F tc n : Nat} {tx : Nat → Nat → Int32} {pm : Nat → Nat} {yr : Int32} {sd : Nat → Nat → Int32} {S : vs} {h day : Int32} (oS : OkS n yr sd) (mS : MS n yr sd S) (o : OkT tc tx pm) (hr : MT tc tx S) (hF : 100 ≤ F) : ∀ (d k fuel : Nat), k + d = n → d < fuel → hX8_heardOf_5 F S h day fuel (hrd (hB sd tx pm tc h day.toInt) k) (nI k) = some (hrd (hB sd tx pm tc h day.toInt) n) := by
  have hn := oS.1
  intro d
  induction d with
  | zero =>
    intro k fuel hk hu
    obtain ⟨fu, rfl⟩ : ∃ f, fuel = f + 1 := ⟨fuel - 1, by omega⟩
    have : k = n := by omega
    subst this
    rw [hX8_heardOf_5, mS.1, if_pos (Int32.le_refl _)]
  | succ d ih =>
    intro k fuel hk hu
    obtain ⟨fu, rfl⟩ : ∃ f, fuel = f + 1 := ⟨fuel - 1, by omega⟩
    have hkn : k < n := by omega
    have nx := ih (k + 1) fu (by omega) (by omega)
    rw [hX8_heardOf_5, mS.1, if_neg (nle_nI hkn (by omega)), mHear oS mS hkn o hr hF]
    simp only [Option.bind_some, b01_ite, jX8_heardOf_34, ltt, nI_1]
    rw [← nx, hrd]
    by_cases e : hB sd tx pm tc h day.toInt k = true <;> simp [e]
theorem mHrd {F tc n : Nat} {tx : Nat → Nat → Int32} {pm : Nat → Nat} {yr : Int32} {sd : Nat → Nat → Int32} {S : vs} {h day : Int32} (oS : OkS n yr sd) (mS : MS n yr sd S) (o : OkT tc tx pm) (hr : MT tc tx S) (hF : 100 ≤ F) : fX8_heardOf F h day S = some (hrd (hB sd tx pm tc h day.toInt) n) := mhr oS mS o hr hF n 0 F (by omega) (by have := oS.1; omega)
theorem pst24 (F : Nat) (hF : 100 ≤ F) : St24 F Inv := by
  intro S hI x1 x2
  obtain ⟨n, yr, sd, oS, rS, mS⟩ := hI.s
  obtain ⟨tc, tx, pm, oT, rT, mT⟩ := hI.t
  have hn := oS.1
  have mT' : MT tc tx (T0 S) := mT.ag (T0_ag S)
  have mS' : MS n yr sd (T0 S) := mS.ag (T0_ag S)
  have q7 := chr (F := F) (tc := tc) (tx := tx) (pm := pm) (h := x1) (day := x2.toInt) oS rS n 0 F (by omega) (by omega)
  rw [show hrd (hB sd tx pm tc x1 x2.toInt) 0 = 0 from rfl, nI_0] at q7
  by_cases c2 : wi 0 5 x1 = true
  · by_cases c3 : wi 0 9999 x2 = true
    · refine ⟨hrd (hB sd tx pm tc x1 x2.toInt) n, T0 S, ?_, ?_, hI.ag (T0_ag S)⟩
      · simp [fX7_heard, isHearer_eq, isDay_eq, c2, c3, b01_ite, cLtm oT rT hF, q7]
      · simp [fX8_heard, stp, i0_5, noDay_eq, c2, c3, b01_ite, mHrd oS mS' oT mT' hF]
    · refine ⟨-2, T0 S, ?_, ?_, hI.ag (T0_ag S)⟩
      · simp [fX7_heard, isHearer_eq, isDay_eq, c2, c3, b01_ite]
      · simp [fX8_heard, stp, i0_5, noDay_eq, c2, c3, b01_ite]
  · refine ⟨-1, T0 S, ?_, ?_, hI.ag (T0_ag S)⟩
    · simp [fX7_heard, isHearer_eq, isDay_eq, c2, b01_ite]
    · simp [fX8_heard, stp, i0_5, noDay_eq, c2, b01_ite]
