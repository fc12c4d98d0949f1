/-! needed -/
def rch (lh nh : Nat → Int) (sv : Nat → Nat → Int) (m Y : Nat) (g : Int) (h : Nat) : Prop := ∃ f, feas lh nh m Y (h : Int) f ∧ g ≤ vS sv m Y f
theorem rch_mono {lh nh : Nat → Int} {sv : Nat → Nat → Int} {m Y : Nat} {g : Int} {a b : Nat} (h : rch lh nh sv m Y g a) (hab : a ≤ b) : rch lh nh sv m Y g b := by
  obtain ⟨f, h1, h2⟩ := h
  exact ⟨f, fun y hy => by have := h1 y hy; omega, h2⟩
theorem rch_mx {lh nh : Nat → Int} {sv : Nat → Nat → Int} {m Y : Nat} {g v : Int} {h : Nat} (hx : mxF lh nh sv m Y (fun _ => (h : Int)) v) : g ≤ v ↔ rch lh nh sv m Y g h := by
  obtain ⟨⟨f, h1, h2⟩, h3⟩ := hx
  constructor
  · intro z
    exact ⟨f, h1, by omega⟩
  · rintro ⟨f', q1, q2⟩
    have := h3 f' q1
    omega
def LH (R : Nat → Prop) (r : Int32) : Prop := (r = (-9) ∧ ∀ h, h ≤ 3000 → ¬ R h) ∨ ∃ T : Nat, T ≤ 3000 ∧ r = nI T ∧ R T ∧ ∀ h, h < T → ¬ R h
theorem LH_one {R : Nat → Prop} {r r' : Int32} (h : LH R r) (h' : LH R r') : r = r' := by
  rcases h with ⟨a1, a2⟩ | ⟨T, t1, t2, t3, t4⟩ <;> rcases h' with ⟨b1, b2⟩ | ⟨T', q1, q2, q3, q4⟩
  · rw [a1, b1]
  · exact absurd q3 (a2 T' q1)
  · exact absurd t3 (b2 T t1)
  · have h1 : ¬ T < T' := fun z => q4 T z t3
    have h2 : ¬ T' < T := fun z => t4 T' z q3
    rw [t2, q2, show T = T' by omega]
theorem dI_add {T q : Nat} (h : 1 ≤ q) : dI T + nI q = nI (T + q - 1) := by
  unfold dI
  rw [Int32.add_assoc, Int32.add_comm (-1) (nI q), ← Int32.add_assoc, nI_add, show T + q = (T + q - 1) + 1 by omega, nI_m1']
  rfl
theorem clh {F m Y : Nat} {lh nh : Nat → Int32} {sv : Nat → Nat → Int32} {g : Int32} (hB : PB m Y lh nh sv) (hF : 100 ≤ F) {R : Nat → Prop} (hR : ∀ h, R h ↔ rch (fun i => (lh i).toInt) (fun i => (nh i).toInt) (fun o i => (sv o i).toInt) m Y g.toInt h) {S : vs} : ∀ (j T fuel : Nat) (U : vs), j ≤ 12 → j < fuel → T ≤ 3001 → Ag WK S U → PD m Y lh nh sv U → (∀ h, h < T → ¬ R h) → (∀ h, h ≤ 3000 → T + 2 ^ j ≤ h + 1 → R h) → ∃ r U', hX0_leastHours_6 F g fuel (dI T) (nI (2 ^ j / 2)) U = some (r, U') ∧ Ag WK S U' ∧ LH R r := by
  have mono : ∀ a b, R a → a ≤ b → R b := fun a b h hab => (hR b).mpr (rch_mono ((hR a).mp h) hab)
  intro j
  induction j with
  | zero =>
    intro T fuel U hj hf hT hA hD h1 h2
    obtain ⟨f, rfl⟩ : ∃ f, fuel = f + 1 := ⟨fuel - 1, by omega⟩
    rw [hX0_leastHours_6, if_pos (by decide)]
    by_cases c : T = 3001
    · subst c
      rw [if_pos (by decide)]
      exact ⟨_, U, rfl, hA, Or.inl ⟨rfl, fun h hh => h1 h (by omega)⟩⟩
    · have lt : ¬ (3000 : Int32) ≤ dI T := by
        rw [fa_le]
        unfold dI
        rw [fb_addI (by rw [nI_toInt (by omega)]; show _ ≤ _ + (-1 : Int); omega) (by rw [nI_toInt (by omega)]; show _ + (-1 : Int) < _; omega), nI_toInt (by omega), show (3000 : Int32).toInt = 3000 from rfl, show (-1 : Int32).toInt = -1 from rfl]
        omega
      rw [if_neg lt]
      have := dI_add (T := T) (q := 1) (by omega)
      rw [show nI 1 = (1 : Int32) from rfl] at this
      rw [this]
      refine ⟨_, U, rfl, hA, Or.inr ⟨T, by omega, rfl, h2 T (by omega) (by simp), h1⟩⟩
  | succ j ih =>
    intro T fuel U hj hf hT hA hD h1 h2
    obtain ⟨f, rfl⟩ : ∃ f, fuel = f + 1 := ⟨fuel - 1, by omega⟩
    have p0 : 1 ≤ 2 ^ j := Nat.one_le_two_pow
    have p1 : 2 ^ j ≤ 2 ^ 11 := Nat.pow_le_pow_right (by decide) (by omega)
    have p2 : 2 ^ 11 = 2048 := by decide
    have e2 : 2 ^ (j + 1) / 2 = 2 ^ j := by rw [Nat.pow_succ]; omega
    have e3 : 2 ^ (j + 1) = 2 ^ j * 2 := Nat.pow_succ 2 j
    rw [e2, hX0_leastHours_6, if_neg (show ¬ nI (2 ^ j) ≤ 0 from nle_nI (a := 0) (by omega) (by omega)), dI_add p0]
    simp only [ltt, jX0_leastHours_36, half_I (show 2 ^ j < 2 ^ 31 by omega)]
    generalize hq : 2 ^ j = q at *
    by_cases c : T + q - 1 ≤ 3000
    · have n3 : ¬ (3000 : Int32) < nI (T + q - 1) := by
        rw [show (3000 : Int32) = nI 3000 from rfl, nI_ltI (by decide) (by omega)]
        omega
      rw [if_neg n3]
      have tI : (nI (T + q - 1)).toInt = ((T + q - 1 : Nat) : Int) := nI_toInt (by omega)
      obtain ⟨r, U1, e, g1, -, x1⟩ := cWith (F := F) (H := nI (T + q - 1)) hB hD hF (by rw [tI]; omega)
      rw [tI] at x1
      have rr := (rch_mx (g := g.toInt) x1).trans (hR _).symm
      rw [e]
      simp only [Option.bind_some, fa_le]
      have hA1 := hA.tr g1
      have hD1 := hD.ag g1
      by_cases c2 : g.toInt ≤ r.toInt
      · rw [if_pos c2]
        exact ih T f U1 (by omega) (by omega) hT hA1 hD1 h1 (fun h hh hl => mono _ _ (rr.mp c2) (by omega))
      · rw [if_neg c2]
        have nr : ¬ R (T + q - 1) := fun z => c2 (rr.mpr z)
        have := ih (T + q) f U1 (by omega) (by omega) (by omega) hA1 hD1 (fun h hh z => nr (mono _ _ z (by omega))) (fun h hh hl => h2 h hh (by omega))
        rw [show T + q = (T + q - 1) + 1 by omega, dI_s] at this
        exact this
    · have n3 : (3000 : Int32) < nI (T + q - 1) := by
        rw [show (3000 : Int32) = nI 3000 from rfl, nI_ltI (by decide) (by omega)]
        omega
      rw [if_pos n3]
      exact ih T f U (by omega) (by omega) hT hA hD h1 (fun h hh hl => by omega)
theorem cLeast {F m Y : Nat} {lh nh : Nat → Int32} {sv : Nat → Nat → Int32} {g : Int32} {S : vs} (hB : PB m Y lh nh sv) (hD : PD m Y lh nh sv S) (hF : 100 ≤ F) : ∃ r U', fX0_leastHours F g S = some (r, U') ∧ Ag WK S U' ∧ LH (rch (fun i => (lh i).toInt) (fun i => (nh i).toInt) (fun o i => (sv o i).toInt) m Y g.toInt) r := by
  have p : (2 : Nat) ^ 12 = 4096 := by decide
  have := clh (F := F) (g := g) hB hF (fun h => Iff.rfl) (S := S) 12 0 F S (by omega) (by omega) (by omega) (Ag.rf S) hD (fun h hh => by omega) (fun h hh hl => by omega)
  exact this
theorem mn51 {F n s Y : Nat} {yr g : Int32} {sd : Nat → Nat → Int32} {S : vs} (oS : OkS n yr sd) (hS : MS n yr sd S) (h6 : pcs s n ≤ 6) (hY : 1 ≤ Y ∧ Y ≤ 3) (hF : 100 ≤ F) {m B : Nat} (hm : m = pcs s n) (hB : B = 2 * Y + 1) {R : Nat → Nat → Prop} (hR : ∀ c (h : Nat), R c h ↔ feas (lhI sd s) (nhI sd s) m Y (h : Int) (dg B m c) ∧ g.toInt ≤ vS (svI sd s) m Y (dg B m c)) : ∀ (d k fuel : Nat) (x4 : Int32) (U : vs), k + d = B ^ m → d < fuel → Ag scr S U → MB m s U → LH (fun h => ∃ c, c < k ∧ R c h) x4 → ∃ r U', hX8_needed_51 F (nI Y) g fuel x4 (nI k) U = some (r, U') ∧ Ag scr S U' ∧ LH (fun h => ∃ c, c < B ^ m ∧ R c h) r := by
  have pl : B ^ m ≤ 117649 := by rw [hB]; exact pw_le hY.2 (by omega)
  intro d
  induction d with
  | zero =>
    intro k fuel x4 U hk hf hA hM hi
    obtain ⟨f, rfl⟩ : ∃ f, fuel = f + 1 := ⟨fuel - 1, by omega⟩
    have : k = B ^ m := by omega
    subst this
    have mc := mCodes (F := F) (Y := Y) hM (by omega) hF
    rw [← hB] at mc
    refine ⟨x4, U, ?_, hA, hi⟩
    rw [hX8_needed_51, mc]
    simp only [Option.bind_some]
    rw [if_pos (Int32.le_refl _)]
  | succ d ih =>
    intro k fuel x4 U hk hf hA hM hi
    obtain ⟨f, rfl⟩ : ∃ f, fuel = f + 1 := ⟨fuel - 1, by omega⟩
    have mc := mCodes (F := F) (Y := Y) hM (by omega) hF
    rw [← hB] at mc
    obtain ⟨U1, e, g1, g2, g3⟩ := mWeigh (F := F) (c := k) (Y := Y) oS hS h6 hY (by omega) hF hA (by rw [← hm]; exact hM)
    obtain ⟨r, er, hr⟩ := mMost (F := F) oS h6 hY g3
    rw [← hm] at g2
    rw [← hm, ← hB] at g3 hr
    rw [hX8_needed_51, mc]
    simp only [Option.bind_some]
    rw [if_neg (nle_nI (show k < B ^ m by omega) (by omega)), e]
    simp only [Option.bind_some]
    rw [er]
    simp only [Option.bind_some, jX8_needed_108, jX8_needed_102, ltt, nI_1, er]
    have sp : ∀ c, c < k + 1 → c < k ∨ c = k := fun c hc => by omega
    -- a code that is not good changes nothing
    have no : (∀ h, h ≤ 3000 → ¬ R k h) → LH (fun h => ∃ c, c < k + 1 ∧ R c h) x4 := fun hn => by
      rcases hi with ⟨h1, h2⟩ | ⟨T, t1, t2, ⟨c, t3, t4⟩, t5⟩
      · refine Or.inl ⟨h1, fun h hh => ?_⟩
        rintro ⟨c, c1, c2⟩
        rcases sp c c1 with z | z
        · exact h2 h hh ⟨c, z, c2⟩
        · rw [z] at c2; exact hn h hh c2
      · refine Or.inr ⟨T, t1, t2, ⟨c, by omega, t4⟩, fun h hh => ?_⟩
        rintro ⟨c', c1, c2⟩
        rcases sp c' c1 with z | z
        · exact t5 h hh ⟨c', z, c2⟩
        · rw [z] at c2; exact hn h (by omega) c2
    by_cases c1 : (U1.1 (0, 1) 33) < g
    · rw [if_pos c1]
      rw [fa_lt, g3.1] at c1
      exact ih (k + 1) f x4 U1 (by omega) (by omega) g1 g2 (no (fun h hh z => by have := ((hR k h).mp z).2; omega))
    · rw [if_neg c1]
      rw [fa_lt, g3.1] at c1
      by_cases c2 : 3000 < r
      · rw [if_pos c2]
        rw [fa_lt, show (3000 : Int32).toInt = 3000 from rfl] at c2
        refine ih (k + 1) f x4 U1 (by omega) (by omega) g1 g2 (no (fun h hh z => ?_))
        have := (hr.2 (h : Int) (by omega)).mpr ((hR k h).mp z).1
        omega
      · rw [if_neg c2]
        rw [fa_lt, show (3000 : Int32).toInt = 3000 from rfl] at c2
        obtain ⟨t, ht, rfl⟩ := rg_of (n := 3000) (x := r) ⟨hr.1, by omega⟩
        have tI : (nI t).toInt = (t : Int) := nI_toInt (by omega)
        rw [tI] at hr
        have Rt : R k t := (hR k t).mpr ⟨(hr.2 (t : Int) (by omega)).mp (Int.le_refl _), by omega⟩
        have Rn : ∀ h, R k h → t ≤ h := fun h z => by
          have := (hr.2 (h : Int) (by omega)).mpr ((hR k h).mp z).1
          omega
        rcases hi with ⟨h1, h2⟩ | ⟨T, t1, t2, ⟨c, t3, t4⟩, t5⟩
        · rw [if_pos h1]
          refine ih (k + 1) f _ U1 (by omega) (by omega) g1 g2 (Or.inr ⟨t, ht, rfl, ⟨k, by omega, Rt⟩, fun h hh => ?_⟩)
          rintro ⟨c', q1, q2⟩
          rcases sp c' q1 with z | z
          · exact h2 h (by omega) ⟨c', z, q2⟩
          · rw [z] at q2; have := Rn h q2; omega
        · rw [if_neg (show ¬ x4 = (-9) by rw [t2]; exact nI_nm9 (by omega)), t2]
          have le : (nI T ≤ nI t) ↔ T ≤ t := by
            rw [fa_le, tI, nI_toInt (show T < 2 ^ 31 by omega)]
            omega
          by_cases c3 : T ≤ t
          · rw [if_pos (le.mpr c3)]
            refine ih (k + 1) f _ U1 (by omega) (by omega) g1 g2 (Or.inr ⟨T, t1, rfl, ⟨c, by omega, t4⟩, fun h hh => ?_⟩)
            rintro ⟨c', q1, q2⟩
            rcases sp c' q1 with z | z
            · exact t5 h hh ⟨c', z, q2⟩
            · rw [z] at q2; have := Rn h q2; omega
          · rw [if_neg (fun z => c3 (le.mp z))]
            refine ih (k + 1) f _ U1 (by omega) (by omega) g1 g2 (Or.inr ⟨t, ht, rfl, ⟨k, by omega, Rt⟩, fun h hh => ?_⟩)
            rintro ⟨c', q1, q2⟩
            rcases sp c' q1 with z | z
            · exact t5 h (by omega) ⟨c', z, q2⟩
            · rw [z] at q2; have := Rn h q2; omega
theorem mLeastH {F n s Y : Nat} {yr g : Int32} {sd : Nat → Nat → Int32} {S : vs} (oS : OkS n yr sd) (hS : MS n yr sd S) (h6 : pcs s n ≤ 6) (hs : s < 65536) (hY : 1 ≤ Y ∧ Y ≤ 3) (hF : 200000 ≤ F) : ∃ r U', ((fX8_gather F (nI s) S).bind fun a => hX8_needed_51 F (nI Y) g F (-9) 0 a) = some (r, U') ∧ Ag scr S U' ∧ LH (rch (lhI sd s) (nhI sd s) (svI sd s) (pcs s n) Y g.toInt) r := by
  obtain ⟨U1, e1, g1, m1⟩ := mGather (F := F) oS hS h6 hs (by omega)
  have pl : (2 * Y + 1) ^ (pcs s n) ≤ 117649 := pw_le hY.2 h6
  obtain ⟨r, U', e, g2, l⟩ := mn51 (F := F) (g := g) (m := pcs s n) (B := 2 * Y + 1) oS hS h6 hY (by omega) rfl rfl (fun c h => Iff.rfl) ((2 * Y + 1) ^ (pcs s n)) 0 F (-9) U1 (by omega) (by omega) g1 m1 (Or.inl ⟨rfl, fun h hh z => by obtain ⟨c, hc, -⟩ := z; omega⟩)
  have iff : ∀ h : Nat, (∃ c, c < (2 * Y + 1) ^ (pcs s n) ∧ feas (lhI sd s) (nhI sd s) (pcs s n) Y (h : Int) (dg (2 * Y + 1) (pcs s n) c) ∧ g.toInt ≤ vS (svI sd s) (pcs s n) Y (dg (2 * Y + 1) (pcs s n) c)) ↔ rch (lhI sd s) (nhI sd s) (svI sd s) (pcs s n) Y g.toInt h := fun h => by
    constructor
    · rintro ⟨c, -, c2⟩
      exact ⟨_, c2⟩
    · rintro ⟨f, f1, f2⟩
      have ct : ∀ p, p < pcs s n → cut Y f p < 2 * Y + 1 := fun p _ => by unfold cut; split <;> omega
      refine ⟨cd (2 * Y + 1) (cut Y f) (pcs s n), cd_lt _ ct, fun y hy => ?_, ?_⟩
      · rw [uS_congr (dg_cd _ ct), uS_cut hy]; exact f1 y hy
      · rw [vS_congr (dg_cd _ ct), vS_cut]; exact f2
  refine ⟨r, U', ?_, g2, ?_⟩
  · rw [e1]
    simp only [Option.bind_some]
    rw [nI_0] at e
    exact e
  · rcases l with ⟨h1, h2⟩ | ⟨T, t1, t2, t3, t5⟩
    · exact Or.inl ⟨h1, fun h hh z => h2 h hh ((iff h).mpr z)⟩
    · exact Or.inr ⟨T, t1, t2, (iff T).mp t3, fun h hh z => t5 h hh ((iff h).mpr z)⟩
theorem pOk_n (s : Nat) (y a : Int32) : pOk s y a 600000 = (pOk s y 0 3000 && wi 0 600000 a) := by
  unfold pOk
  rw [show wi 0 3000 0 = true from rfl, Bool.and_true]
theorem pst7 (F : Nat) (hF : 200000 ≤ F) : St7 F Inv := by
  intro S hI x1 x2 x3
  obtain ⟨n, yr, sd, oS, rS, mS⟩ := hI.s
  have hn := oS.1
  have aT := T0_ag S
  by_cases c : isSt n x1 = true
  · obtain ⟨s, hs, rfl⟩ := tb_set hn c
    have s16 := lt16 hn hs
    have e16 := pcs_16 hn hs
    have cr := cRef (F := F) (y := x2) (a := x3) (hi := 600000) rS.2.1 hn hs
    rw [if_pos c, show (600000 : Int32).toInt = 600000 from rfl] at cr
    by_cases c2 : pOk s x2 x3 600000 = true
    · obtain ⟨p1, ⟨Y, hY, rfl⟩, p3, p4⟩ := pOk_t c2
      have c3 := c2
      rw [pOk_n, Bool.and_eq_true] at c3
      rw [e16] at p1
      obtain ⟨U1, e1, g1, d1⟩ := cInto (F := F) oS rS p1 hY.2 (by omega)
      have hB := PB_M (sd := sd) oS p1 hY
      obtain ⟨r, U2, e2, g2, l2⟩ := cLeast (F := F) (g := x3) hB d1 (by omega)
      have ag : Ag scr S (T0 U2) := (g1.tr (WK_scr g2)).tr (T0_ag U2)
      obtain ⟨r', U3, e3, g3, l3⟩ := mLeastH (F := F) (g := x3) oS (mS.ag ag) p1 s16 hY hF
      have er : r' = r := LH_one l3 l2
      refine ⟨r, U2, U3, ?_, ?_, hI.ag (ag.tr g3)⟩
      · unfold fX7_needed
        rw [cr, if_pos c2]
        simp only [Option.bind_some, if_true, e1, e2]
      · simp only [fX8_needed, stp]
        rw [noSet_eq (mS.ag ag).1 hn]
        simp only [Option.bind_some, b01_ite, c, Bool.not_true, Bool.false_eq_true, if_false, mBad s16 (show 100 ≤ F by omega), c3.1, i0_600000, c3.2, show (b01 false = 0) = True by decide, if_true]
        rw [← er]
        exact e3
    · have c3 : ¬ (pOk s x2 0 3000 = true ∧ wi 0 600000 x3 = true) := fun z => c2 (by rw [pOk_n, z.1, z.2]; rfl)
      refine ⟨-2, S, T0 S, ?_, ?_, hI.ag aT⟩
      · unfold fX7_needed
        rw [cr, if_neg c2]
        simp only [Option.bind_some, show ((-2 : Int32) = 0) = False by decide, if_false]
      · simp only [fX8_needed, stp]
        rw [noSet_eq (mS.ag aT).1 hn]
        simp only [Option.bind_some, b01_ite, c, Bool.not_true, Bool.false_eq_true, if_false, mBad s16 (show 100 ≤ F by omega), i0_600000]
        by_cases c4 : pOk s x2 0 3000 = true
        · have c5 : ¬ wi 0 600000 x3 = true := fun z => c3 ⟨c4, z⟩
          simp only [c4, Bool.not_true, Bool.false_eq_true, if_false, if_neg c5, show (b01 false = 0) = True by decide, if_true]
        · simp only [Bool.eq_false_iff.mpr c4, Bool.not_false, if_true]
  · refine ⟨-1, S, T0 S, ?_, ?_, hI.ag aT⟩
    · unfold fX7_needed
      rw [cRef0 rS.2.1 hn c]
      simp only [Option.bind_some, show ((-1 : Int32) = 0) = False by decide, if_false]
    · simp only [fX8_needed, stp]
      rw [noSet_eq (mS.ag aT).1 hn]
      simp only [Option.bind_some, b01_ite, Bool.eq_false_iff.mpr c, Bool.not_false, if_true]
