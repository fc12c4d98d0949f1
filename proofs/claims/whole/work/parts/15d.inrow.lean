/-! inRow -/
def lf (Q : Nat → Bool) : Nat → Option Nat
  | 0 => none
  | k + 1 => match lf Q k with
    | some b => some b
    | none => if Q k = true then some k else none
theorem lf_some {Q : Nat → Bool} {b : Nat} (hq : Q b = true) (hl : ∀ a, a < b → Q a = false) : ∀ k, b < k → lf Q k = some b
  | 0, h => by omega
  | k + 1, h => by
    rw [lf]
    by_cases e : b = k
    · subst e
      have : ∀ j, j ≤ b → lf Q j = none := fun j => by
        induction j with
        | zero => intro _; rfl
        | succ j ih => intro hj; rw [lf, ih (by omega)]; simp [hl j (by omega)]
      rw [this b (Nat.le_refl _)]
      simp [hq]
    · rw [lf_some hq hl k (by omega)]
theorem lf_is {Q : Nat → Bool} : ∀ {k b : Nat}, lf Q k = some b → b < k ∧ Q b = true
  | 0, b, h => by simp [lf] at h
  | k + 1, b, h => by
    rw [lf] at h
    cases e : lf Q k with
    | none =>
      rw [e] at h
      by_cases c : Q k = true
      · simp [c] at h; subst h; exact ⟨by omega, c⟩
      · simp [c] at h
    | some q =>
      rw [e] at h
      simp at h
      subst h
      have := lf_is e
      exact ⟨by omega, this.2⟩
theorem lf_no {Q : Nat → Bool} : ∀ {k : Nat}, lf Q k = none → ∀ a, a < k → Q a = false
  | 0, _, a, ha => by omega
  | k + 1, h, a, ha => by
    rw [lf] at h
    cases e : lf Q k with
    | some q => rw [e] at h; simp at h
    | none =>
      rw [e] at h
      by_cases c : Q k = true
      · simp [c] at h
      · by_cases z : a = k
        · rw [z]; exact Bool.eq_false_iff.mpr c
        · exact lf_no e a (by omega)
def dn (Q : Nat → Bool) : Nat → Int32 → Int32
  | 0, x => x
  | k + 1, x => dn Q k (if Q k = true then nI k else x)
theorem dn_lf (Q : Nat → Bool) : ∀ (k : Nat) (x : Int32), dn Q k x = match lf Q k with
    | some b => nI b
    | none => x
  | 0, x => rfl
  | k + 1, x => by
    rw [dn, dn_lf Q k, lf]
    cases lf Q k with
    | none => simp only []; split <;> rfl
    | some b => rfl
def dI (k : Nat) : Int32 := nI k + (-1)
theorem dI_s (k : Nat) : dI (k + 1) = nI k := nI_m1' k
def Qr (g : Nat) (tol : Int32) (pp : Nat → Nat → Int32) (R a b : Nat) : Bool := R.testBit b && decide (gp pp a b ≤ tol) && decide (gp pp a b + LL g tol pp (R ^^^ 2 ^ b) b g = LL g tol pp R a g)
theorem LL_ex {g R a : Nat} {tol : Int32} {pp : Nat → Nat → Int32} (o : OkP g tol pp) (hR : R < 128) (h0 : R ≠ 0) : ∀ k, k ≤ g → (LL g tol pp R a k = 1000000 ∨ ∃ b, b < k ∧ R.testBit b = true ∧ gp pp a b ≤ tol ∧ gp pp a b + LL g tol pp (R ^^^ 2 ^ b) b g = LL g tol pp R a k)
  | 0, _ => Or.inl (by rw [LL_0, if_neg h0])
  | k + 1, hk => by
    have hg := o.1
    have ih := LL_ex o hR h0 k (by omega) (a := a)
    rw [LL_s hR (by omega)]
    by_cases c : R.testBit k = true ∧ gp pp a k ≤ tol
    · rw [if_pos c]
      by_cases c2 : LL g tol pp R a k ≤ gp pp a k + LL g tol pp (R ^^^ 2 ^ k) k g
      · rw [if_pos c2]
        rcases ih with h | ⟨b, h1, h2, h3, h4⟩
        · exact Or.inl h
        · exact Or.inr ⟨b, by omega, h2, h3, h4⟩
      · rw [if_neg c2]
        exact Or.inr ⟨k, by omega, c.1, c.2, rfl⟩
    · rw [if_neg c]
      rcases ih with h | ⟨b, h1, h2, h3, h4⟩
      · exact Or.inl h
      · exact Or.inr ⟨b, by omega, h2, h3, h4⟩
theorem cnp {F g R a : Nat} {tol : Int32} {pp : Nat → Nat → Int32} {U : vs} (o : OkP g tol pp) (h : RP g tol pp U) (hT : TC g tol pp U (2 ^ g - 1) 0) (hR : R < 2 ^ g) (ha : a < g) (hRa : R.testBit a = false) (hL : (LL g tol pp R a g).toInt ≤ 12573) : ∀ (d k fuel : Nat), k + d = g → d < fuel → lf (Qr g tol pp R a) k = none → hX1_nextPiece_2 F U (nI (2 ^ g - 1 - R)) (nI a) fuel (nI k) = some (oI (lf (Qr g tol pp R a) g)) := by
  have hg := o.1
  have h7 := two7 hg
  have hRl : R < 2 ^ g - 1 := by
    have := all_bit hg hR ha
    rw [hRa] at this
    by_cases z : R = 2 ^ g - 1
    · rw [z] at this; simp at this
    · omega
  have qa := hT R a ha hR hRa (Or.inl hRl)
  intro d
  induction d with
  | zero =>
    intro k fuel hk hf hn
    obtain ⟨f, rfl⟩ : ∃ f, fuel = f + 1 := ⟨fuel - 1, by omega⟩
    have : k = g := by omega
    subst this
    rw [hX1_nextPiece_2, h.2.1, if_pos (Int32.le_refl _), hn]
    rfl
  | succ d ih =>
    intro k fuel hk hf hn
    obtain ⟨f, rfl⟩ : ∃ f, fuel = f + 1 := ⟨fuel - 1, by omega⟩
    have hkg : k < g := by omega
    have nx := ih (k + 1) f (by omega) (by omega)
    have no : Qr g tol pp R a k = false → lf (Qr g tol pp R a) (k + 1) = none := fun z => by rw [lf, hn]; simp [z]
    rw [hX1_nextPiece_2, h.2.1, if_neg (nle_nI hkg (by omega))]
    simp only [cCan o h hR ha hkg, Option.bind_some, b01_ite, bit_nI (show k < 16 by omega), fa_or, fX1_cell, cell1, ltt, al21, gd, jX1_nextPiece_75, nI_1, cgap o h ha hkg]
    by_cases c : R.testBit k = true ∧ gp pp a k ≤ tol
    · obtain ⟨c1, c2⟩ := c
      have lt := flp_lt (show R < 128 by omega) (by omega) c1
      have q := hT (R ^^^ 2 ^ k) k hkg (by omega) (by rw [fb_bit_flip, c1]; simp) (Or.inl (by omega))
      have b1 := LL_bd o (R := R ^^^ 2 ^ k) (k := g) (a := k) (by omega) hkg (Nat.le_refl _)
      have gb := gp_b o ha hkg
      have lb := LL_bd o (R := R) (k := g) (a := a) (by omega) ha (Nat.le_refl _)
      rw [if_pos (by rw [c1, decide_eq_true c2]; rfl), all_or hg hR hkg c1, inb_nI (show 7 * (2 ^ g - 1 - (R ^^^ 2 ^ k)) + k < 896 by omega) (by decide), inb_nI (show 7 * (2 ^ g - 1 - R) + a < 896 by omega) (by decide), cl_nI (show 7 * (2 ^ g - 1 - (R ^^^ 2 ^ k)) + k < 2 ^ 31 by omega), cl_nI (show 7 * (2 ^ g - 1 - R) + a < 2 ^ 31 by omega), q.2, qa.2]
      simp only [if_true]
      have e : (gp pp a k + LL g tol pp (R ^^^ 2 ^ k) k g).toInt = (gp pp a k).toInt + (LL g tol pp (R ^^^ 2 ^ k) k g).toInt := fb_addI (by omega) (by omega)
      by_cases c3 : (LL g tol pp (R ^^^ 2 ^ k) k g).toInt = 1000000
      · rw [if_pos ((nn_9 b1.1).mpr c3)]
        refine nx (no ?_)
        unfold Qr
        rw [decide_eq_false (p := gp pp a k + LL g tol pp (R ^^^ 2 ^ k) k g = LL g tol pp R a g) (fun z => by have := (fa_eq _ _).mp z; rw [e] at this; omega)]
        simp
      · rw [if_neg (fun z => c3 ((nn_9 b1.1).mp z)), nn_s c3, nn_s (by omega)]
        by_cases c4 : gp pp a k + LL g tol pp (R ^^^ 2 ^ k) k g = LL g tol pp R a g
        · rw [if_pos c4]
          have hq : Qr g tol pp R a k = true := by unfold Qr; simp [c1, c2, c4]
          rw [lf_some hq (lf_no hn) g hkg]
          rfl
        · rw [if_neg c4]
          refine nx (no ?_)
          unfold Qr
          simp [c4]
    · rw [if_neg (fun z => c (by simpa using z))]
      refine nx (no ?_)
      unfold Qr
      cases z1 : R.testBit k
      · rfl
      · rw [decide_eq_false (fun z => c ⟨z1, z⟩)]; rfl
theorem mnp {F g R a : Nat} {tol x1 x5 : Int32} {pp : Nat → Nat → Int32} {U : vs} (o : OkP g tol pp) (h : MP g tol pp U) (hT : TM g tol pp U (2 ^ g) 0) (hR : R < 2 ^ g) (ha : a < g) (kk : Int32 → Int32 → Int32 → vs → Option (Int32 × vs)) : ∀ (k fuel : Nat) (x : Int32), k ≤ g → k < fuel → hX8_inRow_113 kk F x1 (nI a) (nI R) x5 fuel x (dI k) U = kk (dn (Qr g tol pp R a) k x) (nI R ^^^ ((1 : Int32) <<< (dn (Qr g tol pp R a) k x &&& 31))) (x5 + 1) U
  | 0, fuel, x, _, hf => by
    obtain ⟨f, rfl⟩ : ∃ f, fuel = f + 1 := ⟨fuel - 1, by omega⟩
    rw [hX8_inRow_113, if_pos (show dI 0 < 0 by decide)]
    rfl
  | k + 1, fuel, x, hk, hf => by
    obtain ⟨f, rfl⟩ : ∃ f, fuel = f + 1 := ⟨fuel - 1, by omega⟩
    have hg := o.1
    have h7 := two7 hg
    have hkg : k < g := by omega
    have nx := fun x => mnp (F := F) (x1 := x1) (x5 := x5) o h hT hR ha kk k f x (by omega) (by omega)
    have qa := hT R a ha (Or.inl hR)
    rw [dI_s, hX8_inRow_113, if_neg (nI_pos (show k < 2 ^ 31 by omega)), dn, ← nx]
    simp only [shr_1 (show k < 32 by omega), tb_nI R (show k < 32 by omega), map o h ha hkg, Option.bind_some, far_ap o ha hkg, bit_nI (show k < 16 by omega), fb_xorI, cell2, ltt, al49, gd, jX8_inRow_201, jX8_inRow_187, jX8_inRow_186]
    have d1 : nI k + (-1) = dI k := rfl
    simp only [d1, if_true, show ((1 : Int32) = 0) = False by decide, if_false]
    by_cases c1 : R.testBit k = true
    · rw [if_pos c1]
      by_cases c2 : gp pp a k ≤ tol
      · have lt := flp_lt (show R < 128 by omega) (by omega) c1
        have q := hT (R ^^^ 2 ^ k) k hkg (Or.inl (by omega))
        rw [if_neg (fun z => z c2), if_pos c2, inb_nI (show 7 * (R ^^^ 2 ^ k) + k < 896 by omega) (by decide), inb_nI (show 7 * R + a < 896 by omega) (by decide), cl_nI (show 7 * (R ^^^ 2 ^ k) + k < 2 ^ 31 by omega), cl_nI (show 7 * R + a < 2 ^ 31 by omega), q.1, qa.1, if_pos (show true = true from rfl), if_pos (show true = true from rfl)]
        unfold Qr
        by_cases c4 : gp pp a k + LL g tol pp (R ^^^ 2 ^ k) k g = LL g tol pp R a g
        · rw [if_pos c4, if_pos (by simp [c1, c2, c4])]
        · rw [if_neg c4, if_neg (by simp [c4])]
      · rw [if_pos c2]
        unfold Qr
        rw [if_neg (by simp [c2])]
    · rw [if_neg c1]
      unfold Qr
      rw [if_neg (by simp [c1])]
def pcn (R : Nat) : Nat := ((List.range 7).filter (fun i => R.testBit i)).length
theorem pcn_flip {R b : Nat} (hR : R < 128) (hb : b < 7) (h : R.testBit b = true) : pcn (R ^^^ 2 ^ b) + 1 = pcn R := by
  have : ∀ R : Fin 128, ∀ b : Fin 7, R.val.testBit b.val = true → pcn (R.val ^^^ 2 ^ b.val) + 1 = pcn R.val := by decide +kernel
  exact this ⟨R, hR⟩ ⟨b, hb⟩ h
theorem pcn_ot {g p : Nat} (hg : g ≤ 7) (hp : p < g) : pcn (ot g p) + 1 = g := by
  have : ∀ g : Fin 8, ∀ p : Fin 7, p.val < g.val → pcn (2 ^ g.val - 1 - 2 ^ p.val) + 1 = g.val := by decide +kernel
  exact this ⟨g, by omega⟩ ⟨p, by omega⟩ hp
theorem row_loop {F g pl : Nat} {tol : Int32} {pp : Nat → Nat → Int32} {U V : vs} (o : OkP g tol pp) (h : RP g tol pp U) (hT : TC g tol pp U (2 ^ g - 1) 0) (h' : MP g tol pp V) (hT' : TM g tol pp V (2 ^ g) 0) (hF : 100 ≤ F) (hpl : pl < g) : ∀ (d k a q R fuel fuel' : Nat), k + d = pl → d < fuel → d < fuel' → pcn R + 1 + k = g → R < 2 ^ g → a < g → R.testBit a = false → (LL g tol pp R a g).toInt ≤ 12573 → q ||| 2 ^ a = 2 ^ g - 1 - R → ∃ r, hX1_pieceAt_31 F (nI pl) fuel (nI a) (nI q) (nI k) U = some (r, U) ∧ hX8_inRow_95 F (nI pl) fuel' (nI a) (nI R) (nI k) V = some (r, V) := by
  have hg := o.1
  have h7 := two7 hg
  intro d
  induction d with
  | zero =>
    intro k a q R fuel fuel' hk hf hf' _ _ _ _ _ _
    obtain ⟨f, rfl⟩ : ∃ f, fuel = f + 1 := ⟨fuel - 1, by omega⟩
    obtain ⟨f', rfl⟩ : ∃ f, fuel' = f + 1 := ⟨fuel' - 1, by omega⟩
    have : k = pl := by omega
    subst this
    exact ⟨nI a, by rw [hX1_pieceAt_31, if_pos (Int32.le_refl _)], by rw [hX8_inRow_95, if_pos (Int32.le_refl _)]⟩
  | succ d ih =>
    intro k a q R fuel fuel' hk hf hf' hpc hR ha hRa hL hq
    obtain ⟨f, rfl⟩ : ∃ f, fuel = f + 1 := ⟨fuel - 1, by omega⟩
    obtain ⟨f', rfl⟩ : ∃ f, fuel' = f + 1 := ⟨fuel' - 1, by omega⟩
    have R0 : R ≠ 0 := fun z => by rw [z, show pcn 0 = 0 from rfl] at hpc; omega
    have ex : ∃ b, b < g ∧ Qr g tol pp R a b = true := by
      rcases LL_ex o (show R < 128 by omega) R0 g (Nat.le_refl _) (a := a) with z | ⟨b, h1, h2, h3, h4⟩
      · rw [z] at hL; exact absurd hL (by decide)
      · exact ⟨b, h1, by unfold Qr; simp [h2, h3, h4]⟩
    obtain ⟨b, hb⟩ : ∃ b, lf (Qr g tol pp R a) g = some b := by
      cases e : lf (Qr g tol pp R a) g with
      | some b => exact ⟨b, rfl⟩
      | none =>
        obtain ⟨b, h1, h2⟩ := ex
        rw [lf_no e b h1] at h2
        exact absurd h2 (by decide)
    obtain ⟨hbg, hQ⟩ := lf_is hb
    unfold Qr at hQ
    simp only [Bool.and_eq_true, decide_eq_true_eq] at hQ
    obtain ⟨⟨q1, q2⟩, q3⟩ := hQ
    have lt := flp_lt (show R < 128 by omega) (by omega) q1
    have gb := gp_b o ha hbg
    have b1 := LL_bd o (R := R ^^^ 2 ^ b) (k := g) (a := b) (by omega) hbg (Nat.le_refl _)
    have e : (gp pp a b + LL g tol pp (R ^^^ 2 ^ b) b g).toInt = (gp pp a b).toInt + (LL g tol pp (R ^^^ 2 ^ b) b g).toInt := fb_addI (by omega) (by omega)
    rw [q3] at e
    obtain ⟨r, e1, e2⟩ := ih (k + 1) b (2 ^ g - 1 - R) (R ^^^ 2 ^ b) f f' (by omega) (by omega) (by omega) (by have := pcn_flip (show R < 128 by omega) (by omega) q1; omega) (by omega) hbg (by rw [fb_bit_flip, q1]; simp) (by omega) (all_or hg hR hbg q1)
    have n1 := cnp (F := F) o h hT hR ha hRa hL g 0 F (by omega) (by omega) rfl
    rw [hb, nI_0] at n1
    have n2 := mnp (F := F) (x1 := nI pl) (x5 := nI k) o h' hT' hR ha (hX8_inRow_95 F (nI pl) f') g F (-9) (Nat.le_refl _) (by omega)
    have ed : dn (Qr g tol pp R a) g (-9) = nI b := by rw [dn_lf, hb]
    rw [ed, bit_nI (by omega), fb_xorI, nI_1] at n2
    refine ⟨r, ?_, ?_⟩
    · rw [hX1_pieceAt_31, if_neg (nle_nI (show k < pl by omega) (by omega)), if_neg (nI_nm9t (show a < 2 ^ 31 by omega)), bit_nI (by omega), fa_or, hq]
      simp only [ltt, fX1_nextPiece, n1, Option.bind_some, nI_1]
      exact e1
    · rw [hX8_inRow_95, if_neg (nle_nI (show k < pl by omega) (by omega)), h'.2.1]
      simp only [ltt]
      rw [show nI g - 1 = dI g by unfold dI; rw [Int32.sub_eq_add_neg], n2]
      exact e2
theorem m46 {F g : Nat} {tol x1 n : Int32} {pp : Nat → Nat → Int32} {U : vs} (o : OkP g tol pp) (h : MP g tol pp U) (hT : TM g tol pp U (2 ^ g) 0) : ∀ (k fuel : Nat) (x : Int32), k ≤ g → k < fuel → hX8_inRow_46 F x1 n fuel x (dI k) U = (fX8_others F (dn (fun a => decide (LL g tol pp (ot g a) a g = n)) k x) U).bind (fun a_5 => hX8_inRow_95 F x1 F (dn (fun a => decide (LL g tol pp (ot g a) a g = n)) k x) a_5 0 U)
  | 0, fuel, x, _, hf => by
    obtain ⟨f, rfl⟩ : ∃ f, fuel = f + 1 := ⟨fuel - 1, by omega⟩
    rw [hX8_inRow_46, if_pos (show dI 0 < 0 by decide)]
    rfl
  | k + 1, fuel, x, hk, hf => by
    obtain ⟨f, rfl⟩ : ∃ f, fuel = f + 1 := ⟨fuel - 1, by omega⟩
    have hg := o.1
    have hkg : k < g := by omega
    have nx := fun x => m46 (F := F) (x1 := x1) (n := n) o h hT k f x (by omega) (by omega)
    have := ot_lt hg (p := k)
    rw [dI_s, hX8_inRow_46, if_neg (nI_pos (show k < 2 ^ 31 by omega)), dn, ← nx]
    have d1 : nI k + (-1) = dI k := rfl
    simp only [mOth o h hkg, cell2, Option.bind_some, al49, inb_nI (show 7 * ot g k + k < 896 by omega) (by decide), cl_nI (show 7 * ot g k + k < 2 ^ 31 by omega), gd, if_true, ltt, (cell_m hg hkg hT).1, jX8_inRow_78, d1, decide_eq_true_eq]
    split <;> rfl
theorem pst19 (F : Nat) (hF : 200 ≤ F) : St19 F Inv := by
  intro S hI x1
  obtain ⟨g, tol, pp, oP, rP, mP⟩ := hI.p
  have hg := oP.1
  obtain ⟨U1, e1, g1, t1⟩ := cFirst (F := F) oP rP hF
  have ag1 : Ag scr S (T0 U1) := g1.tr (T0_ag U1)
  obtain ⟨U2, e2, g2, t2⟩ := mLeast (F := F) oP (mP.ag ag1) hF
  have rU := rP.ag g1
  have mU := mP.ag (ag1.tr g2)
  have ok := (fsp_ok oP g (Nat.le_refl _)).1
  cases e : fsp g tol pp g with
  | none =>
    rw [e] at ok e1
    have ok : (bst g tol pp g).toInt = 1000000 := ok
    refine ⟨-9, U1, U2, ?_, ?_, hI.ag (ag1.tr g2)⟩
    · simp [fX7_inRow, fX1_pieceAt, e1, show oI none = -9 from rfl]
    · simp only [fX8_inRow, stp, e2, Option.bind_some]
      rw [if_pos (show 1000000 ≤ bst g tol pp g by rw [fa_le, ok]; decide)]
  | some f =>
    rw [e] at ok e1
    obtain ⟨i1, i2, i3, i4⟩ := ok
    have nf : ¬ oI (some f) = -9 := nI_nm9t (show f < 2 ^ 31 by omega)
    have nb : ¬ 1000000 ≤ bst g tol pp g := by rw [fa_le, show (1000000 : Int32).toInt = 1000000 from rfl]; omega
    have ei : fX8_in F x1.toInt64 0 ((U2.1 (0, 1) 20 - 1).toInt64) U2 = some (b01 (wi 0 ((g : Int) - 1) x1)) := in_eq 0 ((g : Int) - 1) rfl (by rw [mU.2.1]; exact nI_m1 (by omega))
    by_cases c : wi 0 ((g : Int) - 1) x1 = true
    · obtain ⟨pl, hpl, rfl⟩ := wi_side c
      obtain ⟨h1, h2, h3, h4⟩ := all_one hg i1
      obtain ⟨r, r1, r2⟩ := row_loop (F := F) oP rU t1 mU t2 (by omega) hpl pl 0 f 0 (ot g f) F F (by omega) (by omega) (by omega) (by have := pcn_ot hg i1; omega) h2 i1 h4 (by rw [i2]; omega) (by unfold ot; rw [h3]; simp)
      have ed : dn (fun a => decide (LL g tol pp (ot g a) a g = bst g tol pp g)) g (-9) = nI f := by
        rw [dn_lf, lf_some (Q := fun a => decide (LL g tol pp (ot g a) a g = bst g tol pp g)) (b := f) (decide_eq_true i2) (fun a ha => decide_eq_false (fun z => by have := i4 a ha; rw [z] at this; omega)) g i1]
      have m := m46 (F := F) (x1 := nI pl) (n := bst g tol pp g) oP mU t2 g F (-9) (Nat.le_refl _) (by omega)
      rw [ed, mOth oP mU i1] at m
      rw [nI_0] at r1 r2
      refine ⟨r, U1, U2, ?_, ?_, hI.ag (ag1.tr g2)⟩
      · simp only [fX7_inRow, fX1_pieceAt, e1, Option.bind_some]
        rw [if_neg nf, if_neg (nI_pos (show pl < 2 ^ 31 by omega)), rU.2.1, if_pos (nI_lt hpl (by omega)), show oI (some f) = nI f from rfl, r1]
        rfl
      · simp only [fX8_inRow, stp, e2, Option.bind_some]
        rw [if_neg nb, ei, c]
        simp only [Option.bind_some, b01_ite, if_true, ltt]
        rw [mU.2.1, show nI g - 1 = dI g by unfold dI; rw [Int32.sub_eq_add_neg], m]
        exact r2
    · refine ⟨-9, U1, U2, ?_, ?_, hI.ag (ag1.tr g2)⟩
      · simp only [fX7_inRow, fX1_pieceAt, e1, Option.bind_some]
        rw [if_neg nf]
        by_cases c1 : x1 < 0
        · rw [if_pos c1]; rfl
        · rw [if_neg c1, rU.2.1, if_neg (fun z => c (wi_t.mpr ⟨?_, ?_⟩))]
          · rfl
          · rw [fa_lt, show (0 : Int32).toInt = 0 from rfl] at c1; omega
          · rw [fa_lt, nI_toInt (by omega)] at z; omega
      · simp only [fX8_inRow, stp, e2, Option.bind_some]
        rw [if_neg nb, ei]
        simp only [Option.bind_some, b01_ite, c]
        rfl
