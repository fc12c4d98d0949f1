/-! days -/
def cgo (P : Int → Bool) (a : Int) : Nat → Int
  | 0 => 0
  | m + 1 => cgo P a m + if P (a + m) = true then 1 else 0
theorem cgo_b (P : Int → Bool) (a : Int) : ∀ m, 0 ≤ cgo P a m ∧ cgo P a m ≤ m
  | 0 => ⟨Int.le_refl _, Int.le_refl _⟩
  | m + 1 => by
    have := cgo_b P a m
    rw [cgo]
    split <;> omega
theorem cgo_c (P : Int → Bool) (a : Int) (m : Nat) (v : Bool) : ∀ e, (∀ d : Nat, d < e → P (a + (m + d : Nat)) = v) → cgo P a (m + e) = cgo P a m + (if v = true then (e : Int) else 0)
  | 0, _ => by cases v <;> simp
  | e + 1, h => by
    rw [show m + (e + 1) = (m + e) + 1 by omega, cgo, cgo_c P a m v e (fun d hd => h d (by omega)), h e (by omega)]
    cases v
    · simp
    · simp; omega
def cg (P : Int → Bool) (a b : Int) : Int := cgo P a (b - a).toNat
theorem cg_b (P : Int → Bool) {a b : Int} (h : a ≤ b) : 0 ≤ cg P a b ∧ cg P a b ≤ b - a := by
  have := cgo_b P a (b - a).toNat
  unfold cg
  omega
theorem cg_step {P : Int → Bool} {a b c : Int} {v : Bool} (h1 : a ≤ b) (h2 : b ≤ c) (h : ∀ d, b ≤ d → d < c → P d = v) : cg P a c = cg P a b + (if v = true then c - b else 0) := by
  unfold cg
  rw [show (c - a).toNat = (b - a).toNat + (c - b).toNat by omega, cgo_c P a (b - a).toNat v (c - b).toNat (fun d hd => h _ (by omega) (by omega))]
  cases v
  · simp
  · simp only [if_true]; omega
theorem ltm_cong {tx : Nat → Nat → Int32} {pm : Nat → Nat} {h : Int32} {d d' : Int} : ∀ k, (∀ p, p < k → ((tx (pm p) 3).toInt ≤ d ↔ (tx (pm p) 3).toInt ≤ d')) → ltm tx pm h d k = ltm tx pm h d' k
  | 0, _ => rfl
  | k + 1, hp => by
    rw [ltm, ltm, ltm_cong k (fun p hk => hp p (by omega))]
    by_cases c : (tx (pm k) 3).toInt ≤ d
    · rw [if_pos c, if_pos ((hp k (by omega)).mp c)]
    · rw [if_neg c, if_neg (fun z => c ((hp k (by omega)).mpr z))]
def alls (sd : Nat → Nat → Int32) (x : Int32) : Nat → Int32
  | 0 => 0
  | k + 1 => if tb x k = true then alls sd x k ||| ask sd k else alls sd x k
theorem alls_bit {sd : Nat → Nat → Int32} {x : Int32} {j : Nat} : ∀ k, tb (alls sd x k) j = true ↔ ∃ i, i < k ∧ tb x i = true ∧ tb (ask sd i) j = true
  | 0 => by rw [alls, tb_0]; exact ⟨fun h => absurd h (by decide), fun ⟨i, hi, _⟩ => by omega⟩
  | k + 1 => by
    have ih := alls_bit k (sd := sd) (x := x) (j := j)
    rw [alls]
    by_cases c : tb x k = true
    · rw [if_pos c, tb_or, Bool.or_eq_true, ih]
      constructor
      · rintro (⟨i, h1, h2, h3⟩ | h)
        · exact ⟨i, by omega, h2, h3⟩
        · exact ⟨k, by omega, c, h⟩
      · rintro ⟨i, h1, h2, h3⟩
        by_cases e : i = k
        · rw [e] at h3; exact Or.inr h3
        · exact Or.inl ⟨i, by omega, h2, h3⟩
    · rw [if_neg c, ih]
      constructor
      · rintro ⟨i, h1, h2, h3⟩; exact ⟨i, by omega, h2, h3⟩
      · rintro ⟨i, h1, h2, h3⟩
        by_cases e : i = k
        · rw [e] at h2; exact absurd h2 c
        · exact ⟨i, by omega, h2, h3⟩
/-- all of a set LET on a DAY -/
def dB (sd tx : Nat → Nat → Int32) (pm : Nat → Nat) (tc n : Nat) (x h : Int32) (day : Int) : Bool := decide ((alls sd x n &&& (ltm tx pm h day tc ^^^ (-1))) = 0)
theorem dB_m {sd tx : Nat → Nat → Int32} {pm : Nat → Nat} {tc n : Nat} {x h : Int32} {day : Int} (hn : n ≤ 16) (hs : isSt n x = true) : ((x &&& (hrd (hB sd tx pm tc h day) n ^^^ (-1))) = 0) ↔ dB sd tx pm tc n x h day = true := by
  unfold dB
  rw [decide_eq_true_eq, sub_bits, sub_bits]
  constructor
  · intro z j hj ha
    obtain ⟨i, h1, h2, h3⟩ := (alls_bit n).mp ha
    have := z i (by omega) h2
    rw [hrd_bit _ (by omega) n hn, Bool.and_eq_true] at this
    have := this.2
    unfold hB at this
    rw [decide_eq_true_eq, sub_bits] at this
    exact this j hj h3
  · intro z i hi hx
    have hin := isSt_t.mp hs i hi hx
    rw [hrd_bit _ hi n hn, Bool.and_eq_true, decide_eq_true_eq]
    refine ⟨hin, ?_⟩
    unfold hB
    rw [decide_eq_true_eq, sub_bits]
    exact fun j hj ha => z j hj ((alls_bit n).mpr ⟨i, hin, hx, ha⟩)
theorem sub_toInt {x y : Int32} (hx1 : 0 ≤ x.toInt) (hx2 : x.toInt ≤ 100000) (hy1 : 0 ≤ y.toInt) (hy2 : y.toInt ≤ 100000) : (x - y).toInt = x.toInt - y.toInt := fb_subI (by omega) (by omega)
theorem add_toInt {x y : Int32} (hx1 : -100000 ≤ x.toInt) (hx2 : x.toInt ≤ 100000) (hy1 : -100000 ≤ y.toInt) (hy2 : y.toInt ≤ 100000) : (x + y).toInt = x.toInt + y.toInt := fb_addI (by omega) (by omega)
theorem cdl {F tc n : Nat} {tx : Nat → Nat → Int32} {pm : Nat → Nat} {sd : Nat → Nat → Int32} {S : vs} {x h fr to : Int32} (o : OkT tc tx pm) (hr : RT tc tx pm S) (hf : 0 ≤ fr.toInt) (ht : to.toInt ≤ 9999) : ∀ (d k fuel : Nat) (st g : Int32), k + d = tc → d < fuel → fr.toInt ≤ st.toInt → st.toInt ≤ to.toInt → (∀ p, p < k → (tx (pm p) 3).toInt ≤ st.toInt) → g.toInt = cg (dB sd tx pm tc n x h) fr.toInt st.toInt → ∃ r, hX6_daysThatLet_12 F S (alls sd x n) h to fuel (ltm tx pm h to.toInt k) st g (nI k) = some r ∧ r.toInt = cg (dB sd tx pm tc n x h) fr.toInt (to.toInt + 1) := by
  have hg := o.1
  have fin : ∀ (k : Nat) (st g : Int32), k ≤ tc → fr.toInt ≤ st.toInt → st.toInt ≤ to.toInt → (∀ p, p < k → (tx (pm p) 3).toInt ≤ st.toInt) → (k < tc → to.toInt < (tx (pm k) 3).toInt) → g.toInt = cg (dB sd tx pm tc n x h) fr.toInt st.toInt → ∃ r, jX6_daysThatLet_112 F (alls sd x n) to (ltm tx pm h to.toInt k) st g S = some r ∧ r.toInt = cg (dB sd tx pm tc n x h) fr.toInt (to.toInt + 1) := by
    intro k st g hk h1 h2 h3 h4 h5
    have hgb := cg_b (dB sd tx pm tc n x h) h1
    have cst : ∀ d, st.toInt ≤ d → d < to.toInt + 1 → dB sd tx pm tc n x h d = decide ((alls sd x n &&& (ltm tx pm h to.toInt k ^^^ (-1))) = 0) := by
      intro d d1 d2
      unfold dB
      have e : ltm tx pm h d tc = ltm tx pm h to.toInt k := by
        have e1 : ltm tx pm h d tc = ltm tx pm h d k := by
          by_cases c : k < tc
          · have := ltm_stop o (h := h) (day := d) (k := k) (by have := h4 c; omega) (tc - k) (by omega)
            rw [show k + (tc - k) = tc by omega] at this
            exact this
          · rw [show k = tc by omega]
        rw [e1]
        exact ltm_cong k (fun p hp => by have := h3 p hp; omega)
      rw [e]
    have st1 := cg_step h1 (show st.toInt ≤ to.toInt + 1 by omega) cst
    have es : (to - st).toInt = to.toInt - st.toInt := sub_toInt (by omega) (by omega) (by omega) (by omega)
    have es1 : (to - st + 1).toInt = to.toInt - st.toInt + 1 := by
      rw [add_toInt (by rw [es]; omega) (by rw [es]; omega) (by decide) (by decide), es]; rfl
    unfold jX6_daysThatLet_112
    by_cases c : (alls sd x n &&& (ltm tx pm h to.toInt k ^^^ (-1))) = 0
    · rw [if_pos c]
      refine ⟨_, rfl, ?_⟩
      rw [add_toInt (by omega) (by omega) (by rw [es1]; omega) (by rw [es1]; omega), es1, st1, decide_eq_true c, if_pos rfl, h5]
      omega
    · rw [if_neg c]
      refine ⟨_, rfl, ?_⟩
      rw [add_toInt (by omega) (by omega) (by decide) (by decide), st1, decide_eq_false c, if_neg (by decide), h5]
      rfl
  intro d
  induction d with
  | zero =>
    intro k fuel st g hk hu h1 h2 h3 h4
    obtain ⟨fu, rfl⟩ : ∃ f, fuel = f + 1 := ⟨fuel - 1, by omega⟩
    have : k = tc := by omega
    subst this
    rw [hX6_daysThatLet_12, hr.2.1, if_pos (Int32.le_refl _)]
    exact fin k st g (Nat.le_refl _) h1 h2 h3 (fun z => by omega) h4
  | succ d ih =>
    intro k fuel st g hk hu h1 h2 h3 h4
    obtain ⟨fu, rfl⟩ : ∃ f, fuel = f + 1 := ⟨fuel - 1, by omega⟩
    have hkg : k < tc := by omega
    have hp := o.2.2.1 k hkg
    have nx := fun st g => ih (k + 1) fu st g (by omega) (by omega)
    obtain ⟨d0, d1, d2, d3, d4⟩ := hr.2.2.2 (pm k) hp
    have rk := (o.2.1 (pm k) hp).2.2.2.1
    have hgb := cg_b (dB sd tx pm tc n x h) h1
    rw [hX6_daysThatLet_12, hr.2.1, if_neg (nle_nI hkg (by omega)), rg4 hr hg hkg]
    simp only [Option.bind_some, alv3 hr hp, gd, if_true, cFor hr hp, cLet hr hp, b01_ite, jX6_daysThatLet_106, jX6_daysThatLet_88, jX6_daysThatLet_78, ltt, nI_1, d3, fa_lt, fa_le]
    by_cases c : to.toInt < (tx (pm k) 3).toInt
    · rw [if_pos c]
      exact fin k st g (by omega) h1 h2 h3 (fun _ => c) h4
    · rw [if_neg c]
      have eL : ltm tx pm h to.toInt (k + 1) = if isF tx h (pm k) = true then lt1 tx (pm k) (ltm tx pm h to.toInt k) else ltm tx pm h to.toInt k := by rw [ltm, if_pos (by omega)]
      have go : ∀ (st g : Int32), (if isF tx h (pm k) = true then hX6_daysThatLet_12 F S (alls sd x n) h to fu (lt1 tx (pm k) (ltm tx pm h to.toInt k)) st g (nI (k + 1)) else hX6_daysThatLet_12 F S (alls sd x n) h to fu (ltm tx pm h to.toInt k) st g (nI (k + 1))) = hX6_daysThatLet_12 F S (alls sd x n) h to fu (ltm tx pm h to.toInt (k + 1)) st g (nI (k + 1)) := fun st g => by
        rw [eL]
        split <;> rfl
      simp only [go]
      by_cases c2 : (tx (pm k) 3).toInt ≤ st.toInt
      · rw [if_pos c2]
        refine nx st g h1 h2 (fun p hq => ?_) h4
        by_cases e : p = k
        · rw [e]; exact c2
        · exact h3 p (by omega)
      · rw [if_neg c2]
        have cst : ∀ d, st.toInt ≤ d → d < (tx (pm k) 3).toInt → dB sd tx pm tc n x h d = decide ((alls sd x n &&& (ltm tx pm h to.toInt k ^^^ (-1))) = 0) := by
          intro d d1 d2
          unfold dB
          have e : ltm tx pm h d tc = ltm tx pm h to.toInt k := by
            have e1 := ltm_stop o (h := h) (day := d) (k := k) d2 (tc - k) (by omega)
            rw [show k + (tc - k) = tc by omega] at e1
            rw [e1]
            exact ltm_cong k (fun p hp => by have := h3 p hp; omega)
          rw [e]
        have st1 := cg_step h1 (show st.toInt ≤ (tx (pm k) 3).toInt by omega) cst
        have h3' : ∀ p, p < k + 1 → (tx (pm p) 3).toInt ≤ (tx (pm k) 3).toInt := fun p hq => srt o (by omega) hkg
        have rk1 := rk.1
        have rk2 := rk.2
        by_cases c3 : (alls sd x n &&& (ltm tx pm h to.toInt k ^^^ (-1))) = 0
        · rw [if_pos c3]
          refine nx _ _ (by omega) (by omega) h3' ?_
          have es : (tx (pm k) 3 - st).toInt = (tx (pm k) 3).toInt - st.toInt := sub_toInt (by omega) (by omega) (by omega) (by omega)
          rw [add_toInt (by omega) (by omega) (by rw [es]; omega) (by rw [es]; omega), es, st1, decide_eq_true c3, if_pos rfl, h4]
        · rw [if_neg c3]
          refine nx _ _ (by omega) (by omega) h3' ?_
          rw [add_toInt (by omega) (by omega) (by decide) (by decide), st1, decide_eq_false c3, if_neg (by decide), h4]
          rfl
theorem cda {F n : Nat} {yr : Int32} {sd : Nat → Nat → Int32} {S : vs} {x h fr to r : Int32} (oS : OkS n yr sd) (rS : RS n yr sd S) (hd : fX6_daysThatLet F (alls sd x n) h fr to S = some r) : ∀ (d k fuel : Nat), k + d = n → d < fuel → hX7_days_47 F S x h fr to fuel (alls sd x k) (nI k) = some r := by
  have hn := oS.1
  intro d
  induction d with
  | zero =>
    intro k fuel hk hu
    obtain ⟨fu, rfl⟩ : ∃ f, fuel = f + 1 := ⟨fuel - 1, by omega⟩
    have : k = n := by omega
    subst this
    rw [hX7_days_47, rS.2.1, if_pos (Int32.le_refl _), hd]
    rfl
  | succ d ih =>
    intro k fuel hk hu
    obtain ⟨fu, rfl⟩ : ∃ f, fuel = f + 1 := ⟨fuel - 1, by omega⟩
    have hkn : k < n := by omega
    have nx := ih (k + 1) fu (by omega) (by omega)
    rw [hX7_days_47, rS.2.1, if_neg (nle_nI hkn (by omega)), rg2 rS hn hkn]
    simp only [fX7_holds, and_bit (show k < 32 by omega), jX7_days_80, ltt, nI_1, gd, alv1 rS hkn, if_true, cAsk rS hkn, Option.bind_some]
    rw [← nx, alls]
    cases e : tb x k <;> simp
-- the model
def dns (tx : Nat → Nat → Int32) (a e : Int32) : Nat → Int32
  | 0 => e
  | k + 1 => nx1 a (tx k 3) (dns tx a e k)
theorem dns_ok {tx : Nat → Nat → Int32} {a e : Int32} (ha : a.toInt < e.toInt) : ∀ k, a.toInt < (dns tx a e k).toInt ∧ (dns tx a e k).toInt ≤ e.toInt ∧ ∀ t, t < k → a.toInt < (tx t 3).toInt → (dns tx a e k).toInt ≤ (tx t 3).toInt
  | 0 => ⟨ha, Int.le_refl _, fun t h => by omega⟩
  | k + 1 => by
    obtain ⟨h1, h2, h3⟩ := dns_ok ha k (tx := tx)
    obtain ⟨p1, p2, p3⟩ := nx1_ok a (tx k 3) (dns tx a e k) h1
    rw [dns]
    refine ⟨p1, by omega, fun t ht hl => ?_⟩
    by_cases q : t = k
    · rw [q] at hl ⊢; exact p3 hl
    · have := h3 t (by omega) hl; omega
theorem mdx {F tc : Nat} {tx : Nat → Nat → Int32} {S : vs} {x h to e n a : Int32} (hg : tc ≤ 60) (hr : MT tc tx S) (kk : Int32 → Int32 → vs → Option (Int32 × vs)) : ∀ (d k fuel : Nat), k + d = tc → d < fuel → hX8_days_73 kk F x h to n a fuel (dns tx a e k) (nI k) S = (fX8_heardOf F h a S).bind (fun q => if (x &&& (q ^^^ (-1))) = 0 then kk (n + (dns tx a e tc - a)) (dns tx a e tc) S else kk (n + 0) (dns tx a e tc) S) := by
  intro d
  induction d with
  | zero =>
    intro k fuel hk hu
    obtain ⟨fu, rfl⟩ : ∃ f, fuel = f + 1 := ⟨fuel - 1, by omega⟩
    have : k = tc := by omega
    subst this
    rw [hX8_days_73, hr.1, if_pos (Int32.le_refl _)]
    rfl
  | succ d ih =>
    intro k fuel hk hu
    obtain ⟨fu, rfl⟩ : ∃ f, fuel = f + 1 := ⟨fuel - 1, by omega⟩
    have hkg : k < tc := by omega
    have nx := ih (k + 1) fu (by omega) (by omega)
    have hin : inb (nI k) 60 = true := inb_nI (by omega) (by decide)
    have hcl : (nI k).toNatClampNeg = k := cl_nI (by omega)
    have b3 : S.1 (0, 44) k = tx k 3 := hr.2 k 3 hkg (by decide)
    rw [hX8_days_73, hr.1, if_neg (nle_nI hkg (by omega))]
    simp only [al44, hin, hcl, b3, gd, if_true, jX8_days_116, jX8_days_118, ltt, nI_1]
    rw [← nx, dns]
    unfold nx1
    by_cases c : tx k 3 ≤ a
    · simp only [if_pos c]
    · simp only [if_neg c]
      by_cases c2 : dns tx a e k ≤ tx k 3
      · simp only [if_pos c2]
      · simp only [if_neg c2]
theorem mde {F tc n : Nat} {tx : Nat → Nat → Int32} {pm : Nat → Nat} {yr : Int32} {sd : Nat → Nat → Int32} {S : vs} {x h fr to : Int32} (oS : OkS n yr sd) (mS : MS n yr sd S) (o : OkT tc tx pm) (hr : MT tc tx S) (hF : 100 ≤ F) (hs : isSt n x = true) (hf : 0 ≤ fr.toInt) (ht : to.toInt ≤ 9999) : ∀ (fuel : Nat) (a g : Int32), (to.toInt + 1 - a.toInt).toNat < fuel → fr.toInt ≤ a.toInt → a.toInt ≤ to.toInt + 1 → g.toInt = cg (dB sd tx pm tc n x h) fr.toInt a.toInt → ∃ r, hX8_days_57 F x h to fuel g a S = some (r, S) ∧ r.toInt = cg (dB sd tx pm tc n x h) fr.toInt (to.toInt + 1)
  | 0, a, g, h1, _, _, _ => by omega
  | fuel + 1, a, g, h1, h2, h3, h4 => by
    have hg := o.1
    have hgb := cg_b (dB sd tx pm tc n x h) h2
    rw [hX8_days_57]
    by_cases c : to < a
    · rw [if_pos c]
      rw [fa_lt] at c
      exact ⟨g, rfl, by rw [h4, show a.toInt = to.toInt + 1 by omega]⟩
    · rw [if_neg c]
      rw [fa_lt] at c
      have e1 : (to + 1).toInt = to.toInt + 1 := by rw [add_toInt (by omega) (by omega) (by decide) (by decide)]; rfl
      have i1 := mdx (F := F) (x := x) (h := h) (to := to) (e := to + 1) (n := g) (a := a) hg hr (hX8_days_57 F x h to fuel) tc 0 F (by omega) (by omega)
      rw [show dns tx a (to + 1) 0 = to + 1 from rfl, nI_0] at i1
      simp only [ltt]
      rw [i1, mHrd oS mS o hr hF]
      simp only [Option.bind_some]
      obtain ⟨n1, n2, n3⟩ := dns_ok (tx := tx) (show a.toInt < (to + 1).toInt by omega) tc
      generalize dns tx a (to + 1) tc = b at n1 n2 n3 ⊢
      have cst : ∀ d, a.toInt ≤ d → d < b.toInt → dB sd tx pm tc n x h d = dB sd tx pm tc n x h a.toInt := by
        intro d d1 d2
        unfold dB
        rw [ltm_cong (d := d) (d' := a.toInt) tc (fun p hp => ?_)]
        have := n3 (pm p) (o.2.2.1 p hp)
        omega
      have st1 := cg_step h2 (show a.toInt ≤ b.toInt by omega) cst
      have es : (b - a).toInt = b.toInt - a.toInt := sub_toInt (by omega) (by omega) (by omega) (by omega)
      by_cases c2 : dB sd tx pm tc n x h a.toInt = true
      · rw [if_pos ((dB_m oS.1 hs).mpr c2)]
        refine mde oS mS o hr hF hs hf ht fuel b _ (by omega) (by omega) (by omega) ?_
        rw [add_toInt (by omega) (by omega) (by rw [es]; omega) (by rw [es]; omega), es, st1, c2, if_pos rfl, h4]
      · rw [if_neg (fun z => c2 ((dB_m oS.1 hs).mp z))]
        refine mde oS mS o hr hF hs hf ht fuel b _ (by omega) (by omega) (by omega) ?_
        rw [add_toInt (by omega) (by omega) (by decide) (by decide), st1, if_neg c2, h4]
        rfl
theorem pst25 (F : Nat) (hF : 20000 ≤ F) : St25 F Inv := by
  intro S hI x1 x2 x3 x4
  obtain ⟨n, yr, sd, oS, rS, mS⟩ := hI.s
  obtain ⟨tc, tx, pm, oT, rT, mT⟩ := hI.t
  have hn := oS.1
  have mT' : MT tc tx (T0 S) := mT.ag (T0_ag S)
  have mS' : MS n yr sd (T0 S) := mS.ag (T0_ag S)
  have e7 := isSet_eq (F := F) (x := x1) rS.2.1 hn
  have e8 := noSet_eq (F := F) (x := x1) mS'.1 hn
  by_cases c1 : isSt n x1 = true
  · by_cases c2 : wi 0 5 x2 = true
    · by_cases c3 : wi 0 9999 x3 = true
      · by_cases c4 : wi 0 9999 x4 = true
        · by_cases c5 : x3 ≤ x4
          · have r3 := wi_t.mp c3
            have r4 := wi_t.mp c4
            have c5' := (fa_le _ _).mp c5
            obtain ⟨r, hr1, hr2⟩ := cdl (F := F) (n := n) (sd := sd) (x := x1) (h := x2) (fr := x3) (to := x4) oT rT r3.1 r4.2 tc 0 F x3 0 (by omega) (by have := oT.1; omega) (Int.le_refl _) c5' (fun p hp => by omega) (by unfold cg; rw [Int.sub_self]; rfl)
            have q7 := cda (r := r) oS rS (show fX6_daysThatLet F (alls sd x1 n) x2 x3 x4 S = some r from hr1) n 0 F (by omega) (by omega)
            rw [show alls sd x1 0 = 0 from rfl, nI_0] at q7
            obtain ⟨r', hm1, hm2⟩ := mde (F := F) (x := x1) (h := x2) (fr := x3) (to := x4) oS mS' oT mT' (by omega) c1 r3.1 r4.2 F x3 0 (by have := r4.2; have := r3.1; omega) (Int.le_refl _) (by omega) (by unfold cg; rw [Int.sub_self]; rfl)
            have er : r' = r := (fa_eq _ _).mpr (by rw [hm2, hr2])
            subst er
            refine ⟨r', T0 S, ?_, ?_, hI.ag (T0_ag S)⟩
            · simp [fX7_days, e7, isHearer_eq, isDay_eq, c1, c2, c3, c4, c5, b01_ite, q7]
            · simp [fX8_days, stp, e8, i0_5, noDay_eq, c1, c2, c3, c4, c5, b01_ite, hm1]
          · refine ⟨-2, T0 S, ?_, ?_, hI.ag (T0_ag S)⟩
            · simp [fX7_days, e7, isHearer_eq, isDay_eq, c1, c2, c3, c4, c5, b01_ite]
            · simp [fX8_days, stp, e8, i0_5, noDay_eq, c1, c2, c3, c4, c5, b01_ite]
        · refine ⟨-2, T0 S, ?_, ?_, hI.ag (T0_ag S)⟩
          · simp [fX7_days, e7, isHearer_eq, isDay_eq, c1, c2, c3, c4, b01_ite]
          · simp [fX8_days, stp, e8, i0_5, noDay_eq, c1, c2, c3, c4, b01_ite]
      · refine ⟨-2, T0 S, ?_, ?_, hI.ag (T0_ag S)⟩
        · simp [fX7_days, e7, isHearer_eq, isDay_eq, c1, c2, c3, b01_ite]
        · simp [fX8_days, stp, e8, i0_5, noDay_eq, c1, c2, c3, b01_ite]
    · refine ⟨-1, T0 S, ?_, ?_, hI.ag (T0_ag S)⟩
      · simp [fX7_days, e7, isHearer_eq, isDay_eq, c1, c2, b01_ite]
      · simp [fX8_days, stp, e8, i0_5, noDay_eq, c1, c2, b01_ite]
  · refine ⟨-1, T0 S, ?_, ?_, hI.ag (T0_ag S)⟩
    · simp [fX7_days, e7, isHearer_eq, isDay_eq, c1, b01_ite]
    · simp [fX8_days, stp, e8, i0_5, noDay_eq, c1, b01_ite]
