/-! side, sign: new objects -/
theorem r2_1 (S : vs) (k : vk) (j i : Nat) : (r2 S k j i).1 = S.1 := rfl
theorem r2_2 (S : vs) (k : vk) (j i : Nat) : (r2 S k j i).2.2 = S.2.2 := rfl
theorem r2_at (S : vs) (k k' : vk) (j j' i : Nat) : (r2 S k j i).2.1 k' j' = if k' = k ∧ j' = j then some i else S.2.1 k' j' := by
  by_cases h : k' = k
  · subst h
    by_cases h2 : j' = j
    · simp [r2, h2]
    · simp [r2, h2]
  · simp [r2, h]
theorem RS.cg {n : Nat} {yr : Int32} {sd : Nat → Nat → Int32} {S S' : vs} (h : RS n yr sd S) (e1 : S'.2.2.1 = S.2.2.1) (e2 : ∀ j, S'.1 (0, 0) j = S.1 (0, 0) j) (e3 : ∀ i, S'.2.1 (0, 6) i = S.2.1 (0, 6) i) (e4 : ∀ i j, S'.1 (1, i) j = S.1 (1, i) j) : RS n yr sd S' := by
  obtain ⟨a, b, c, d, e⟩ := h
  exact ⟨e1.trans a, (e2 1).trans b, (e2 2).trans c, fun i hi => (e3 i).trans (d i hi), fun i j hi hj => (e4 i j).trans (e i j hi hj)⟩
theorem MS.cg {n : Nat} {yr : Int32} {sd : Nat → Nat → Int32} {S S' : vs} (h : MS n yr sd S) (e : ∀ a j, (a = 1 ∨ (23 ≤ a ∧ a ≤ 33)) → S'.1 (0, a) j = S.1 (0, a) j) : MS n yr sd S' := by
  obtain ⟨a, b, c, d⟩ := h
  exact ⟨(e 1 1 (Or.inl rfl)).trans a, (e 1 2 (Or.inl rfl)).trans b, fun i j hi hj => (e _ _ (Or.inr (mk_rg hj))).trans (c i j hi hj), fun i hi => ⟨(e _ _ (by omega)).trans (d i hi).1, (e _ _ (by omega)).trans (d i hi).2.1, (e _ _ (by omega)).trans (d i hi).2.2⟩⟩
theorem IG.cg {S S' : vs} (h : IG S) (e1 : S'.2.2.2.1 = S.2.2.2.1) (e2 : ∀ a j, (a = 1 ∨ a = 3 ∨ (34 ≤ a ∧ a ≤ 38)) → S'.1 (0, a) j = S.1 (0, a) j) (e3 : ∀ i, S'.2.1 (0, 17) i = S.2.1 (0, 17) i) (e4 : ∀ i j, S'.1 (2, i) j = S.1 (2, i) j) : IG S' := by
  obtain ⟨g, sg, o, ⟨a, b, c, d⟩, a', b', c', d'⟩ := h
  exact ⟨g, sg, o, ⟨e1.trans a, (e2 _ _ (by omega)).trans b, fun i hi => (e3 i).trans (c i hi), fun i j hi hj => (e4 i j).trans (d i j hi hj)⟩, (e2 _ _ (by omega)).trans a', fun i j hi hj => (e2 _ _ (by omega)).trans (b' i j hi hj), fun i hi => (e2 _ _ (by omega)).trans (c' i hi), fun i hi => (e2 _ _ (by omega)).trans (d' i hi)⟩
theorem IP.cg {S S' : vs} (h : IP S) (e : ∀ a j, (a = 1 ∨ a = 4 ∨ a = 18 ∨ a = 19 ∨ a = 39 ∨ a = 40) → S'.1 (0, a) j = S.1 (0, a) j) : IP S' := by
  obtain ⟨g, tol, pp, o, ⟨a, b, c⟩, a', b', c'⟩ := h
  exact ⟨g, tol, pp, o, ⟨(e _ _ (by omega)).trans a, (e _ _ (by omega)).trans b, fun i hi => ⟨(e _ _ (by omega)).trans (c i hi).1, (e _ _ (by omega)).trans (c i hi).2⟩⟩, (e _ _ (by omega)).trans a', (e _ _ (by omega)).trans b', fun i hi => ⟨(e _ _ (by omega)).trans (c' i hi).1, (e _ _ (by omega)).trans (c' i hi).2⟩⟩
theorem IT.cg {S S' : vs} (h : IT S) (e1 : S'.2.2.2.2 = S.2.2.2.2) (e2 : ∀ a j, (a = 1 ∨ a = 5 ∨ (41 ≤ a ∧ a ≤ 45)) → S'.1 (0, a) j = S.1 (0, a) j) (e3 : ∀ i, S'.2.1 (0, 22) i = S.2.1 (0, 22) i) (e4 : ∀ i j, S'.1 (3, i) j = S.1 (3, i) j) : IT S' := by
  obtain ⟨tc, tx, pm, o, ⟨a, b, c, d⟩, a', b'⟩ := h
  refine ⟨tc, tx, pm, o, ⟨e1.trans a, (e2 _ _ (by omega)).trans b, fun i hi => (e3 i).trans (c i hi), fun i hi => ?_⟩, (e2 _ _ (by omega)).trans a', fun i j hi hj => (e2 _ _ (by omega)).trans (b' i j hi hj)⟩
  rw [e4, e4, e4, e4, e4]
  exact d i hi
theorem IS.cg {S S' : vs} (h : IS S) (e1 : S'.2.2.1 = S.2.2.1) (e2 : ∀ a j, (a = 0 ∨ a = 1 ∨ (23 ≤ a ∧ a ≤ 33)) → S'.1 (0, a) j = S.1 (0, a) j) (e3 : ∀ i, S'.2.1 (0, 6) i = S.2.1 (0, 6) i) (e4 : ∀ i j, S'.1 (1, i) j = S.1 (1, i) j) : IS S' := by
  obtain ⟨n, yr, sd, o, r, m⟩ := h
  exact ⟨n, yr, sd, o, r.cg e1 (fun j => e2 _ _ (by omega)) e3 e4, m.cg (fun a j ha => e2 _ _ (by omega))⟩
/-- a new SIDE's fields -/
def ini1 (S : vs) (n : Nat) (x1 x2 x3 x4 : Int32) : vs := s2 (s2 (s2 (s2 (s2 (s2 (s2 (s2 (s2 (s2 (s2 S (1, n) 0 x1) (1, n) 3 x2) (1, n) 1 x3) (1, n) 2 x4) (1, n) 4 10) (1, n) 5 5) (1, n) 6 0) (1, n) 7 (-9)) (1, n) 8 (-9)) (1, n) 9 0) (1, n) 10 0
theorem ini1_eq {F n : Nat} {x1 x2 x3 x4 : Int32} {S : vs} (h : alv S.2.2 (1, n) = true) : fX2_init F n x1 x2 x3 x4 S = some (ini1 S n x1 x2 x3 x4) := by
  simp only [fX2_init, stp, gd, s2_2, h, if_true]
  rfl
/-- the field of a new SIDE -/
def nsd (x1 x2 x3 x4 : Int32) (j : Nat) : Int32 := if j = 0 then x1 else if j = 1 then x3 else if j = 2 then x4 else if j = 3 then x2 else if j = 4 then 10 else if j = 5 then 5 else if j = 7 then (-9) else if j = 8 then (-9) else 0
def asd (sd : Nat → Nat → Int32) (n : Nat) (f : Nat → Int32) : Nat → Nat → Int32 := fun i j => if i = n then f j else sd i j
theorem ini1_n {n : Nat} {x1 x2 x3 x4 : Int32} {S : vs} {j : Nat} (hj : j < 11) : (ini1 S n x1 x2 x3 x4).1 (1, n) j = nsd x1 x2 x3 x4 j := by
  unfold ini1 nsd
  rcases (show j = 0 ∨ j = 1 ∨ j = 2 ∨ j = 3 ∨ j = 4 ∨ j = 5 ∨ j = 6 ∨ j = 7 ∨ j = 8 ∨ j = 9 ∨ j = 10 by omega) with rfl | rfl | rfl | rfl | rfl | rfl | rfl | rfl | rfl | rfl | rfl <;> simp [s2_at]
theorem ini1_o {n : Nat} {x1 x2 x3 x4 : Int32} {S : vs} {k : vk} {j : Nat} (hk : k ≠ (1, n)) : (ini1 S n x1 x2 x3 x4).1 k j = S.1 k j := by
  unfold ini1
  simp [s2_at, hk]
theorem ini1_2 {n : Nat} {x1 x2 x3 x4 : Int32} {S : vs} : (ini1 S n x1 x2 x3 x4).2 = S.2 := rfl
theorem sn1_o {S : vs} {k : vk} {j : Nat} (hk : k ≠ (1, S.2.2.1)) : (sn1 S).1 k j = S.1 k j := by simp [sn1, hk]
/-- the class's state with a new SIDE -/
def nS1 (S : vs) (n : Nat) (x1 x2 x3 x4 : Int32) : vs := s2 (r2 (ini1 (sn1 S) n x1 x2 x3 x4) (0, 6) n n) (0, 0) 1 (nI (n + 1))
theorem nS1_o {S : vs} {n : Nat} {x1 x2 x3 x4 : Int32} (hn : S.2.2.1 = n) {k : vk} {j : Nat} (hk : k ≠ (1, n)) (h0 : k ≠ (0, 0)) : (nS1 S n x1 x2 x3 x4).1 k j = S.1 k j := by
  unfold nS1
  rw [s2_at, if_neg (fun q => h0 q.1), r2_1, ini1_o hk, sn1_o (by rw [hn]; exact hk)]
theorem nS1_s {S : vs} {n : Nat} {x1 x2 x3 x4 yr : Int32} {sd : Nat → Nat → Int32} (h : RS n yr sd S) : RS (n + 1) yr (asd sd n (nsd x1 x2 x3 x4)) (nS1 S n x1 x2 x3 x4) := by
  obtain ⟨a, b, c, d, e⟩ := h
  refine ⟨?_, ?_, ?_, fun i hi => ?_, fun i j hi hj => ?_⟩
  · show S.2.2.1 + 1 = n + 1; rw [a]
  · unfold nS1; rw [s2_at, if_pos ⟨rfl, rfl⟩]
  · unfold nS1; rw [s2_at, if_neg (by simp), r2_1, ini1_o (by simp), sn1_o (by simp)]; exact c
  · show (r2 (ini1 (sn1 S) n x1 x2 x3 x4) (0, 6) n n).2.1 (0, 6) i = some i
    rw [r2_at]
    by_cases q : i = n
    · rw [if_pos ⟨rfl, q⟩, q]
    · rw [if_neg (fun z => q z.2)]
      exact d i (by omega)
  · unfold asd
    by_cases q : i = n
    · subst q
      rw [if_pos rfl]
      unfold nS1
      rw [s2_at, if_neg (by simp), r2_1, ini1_n hj]
    · rw [if_neg q, nS1_o a (by simp; exact q) (by simp)]
      exact e i j (by omega) hj
theorem nI_nm9 {j : Nat} (hj : j < 2 ^ 31) : ¬ nI j = (-9) := fun e => by
  have := nI_toInt hj
  rw [e, show ((-9 : Int32)).toInt = -9 from rfl] at this
  omega
theorem par_none {sd : Nat → Nat → Int32} {i : Nat} (h : sd i 8 = (-9)) : par sd i = none := by
  unfold par
  exact if_pos h
theorem par_some {sd : Nat → Nat → Int32} {i j : Nat} (h : sd i 8 = nI j) (hj : j < 2 ^ 31) : par sd i = some j := by
  have h2 : ¬ sd i 8 = (-9) := fun e => nI_nm9 hj (h.symm.trans e)
  have h3 : (sd i 8).toNatClampNeg = j := by rw [h]; exact cl_nI hj
  unfold par
  rw [if_neg h2, h3]
theorem obind {o : Option Nat} {f g : Nat → Option Nat} (h : ∀ q, o = some q → f q = g q) : o.bind f = o.bind g := by
  cases o with
  | none => rfl
  | some q => exact h q rfl
theorem obind_lt {o : Option Nat} {f : Nat → Option Nat} {n : Nat} (h : ∀ q, o = some q → ∀ q', f q = some q' → q' < n) : ∀ q', o.bind f = some q' → q' < n := by
  cases o with
  | none => intro q' h'; cases h'
  | some q => exact h q rfl
theorem par_lt {sd : Nat → Nat → Int32} {n : Nat} {yr : Int32} (h : OkS n yr sd) {q q' : Nat} (hq : q < n) (e : par sd q = some q') : q' < n := by
  have hn := h.1
  rcases (h.2.2.1 q hq).2.2.2.2.2.2.2.2 with h8 | ⟨j, hj, h8⟩
  · rw [par_none h8] at e; cases e
  · rw [par_some h8 (by omega)] at e; cases e; exact hj
theorem chn_lt {sd : Nat → Nat → Int32} {n : Nat} {yr : Int32} (h : OkS n yr sd) {i : Nat} (hi : i < n) (m : Nat) : ∀ q, chn sd i m = some q → q < n := by
  induction m with
  | zero => intro q hq; cases hq; exact hi
  | succ m ih => exact obind_lt (fun q hq q' hq' => par_lt h (ih q hq) hq')
theorem asd_chn {sd : Nat → Nat → Int32} {n : Nat} {yr : Int32} {f : Nat → Int32} (h : OkS n yr sd) {i : Nat} (hi : i < n) (m : Nat) : chn (asd sd n f) i m = chn sd i m := by
  induction m with
  | zero => rfl
  | succ m ih =>
    simp only [chn, ih]
    refine obind (fun q hq => ?_)
    have hqn := chn_lt h hi m q hq
    have e : asd sd n f q 8 = sd q 8 := if_neg (by omega)
    simp only [par, e]
theorem asd_ok {sd : Nat → Nat → Int32} {n : Nat} {yr x1 x2 x3 x4 : Int32} (h : OkS n yr sd) (hn : n < 16) (h1 : rg 0 1000 x1) (h2 : rg 0 100 x2) (h3 : rg 0 100 x3) (h4 : rg 0 100 x4) : OkS (n + 1) yr (asd sd n (nsd x1 x2 x3 x4)) := by
  refine ⟨by omega, h.2.1, fun i hi => ?_, fun i hi => ?_⟩
  · unfold asd
    by_cases q : i = n
    · simp only [q, if_true]
      rw [show nsd x1 x2 x3 x4 4 = 10 from rfl, show nsd x1 x2 x3 x4 5 = 5 from rfl, show nsd x1 x2 x3 x4 9 = 0 from rfl, show nsd x1 x2 x3 x4 10 = 0 from rfl]
      exact ⟨h1, h3, h4, h2, ⟨by decide, by decide⟩, ⟨by decide, by decide⟩, ⟨by decide, by decide⟩, ⟨by decide, by decide⟩, Or.inl rfl⟩
    · simp only [q, if_false]
      obtain ⟨c0, c1, c2, c3, c4, c5, c9, c10, c8⟩ := h.2.2.1 i (by omega)
      refine ⟨c0, c1, c2, c3, c4, c5, c9, c10, ?_⟩
      rcases c8 with e | ⟨j, hj, e⟩
      · exact Or.inl e
      · exact Or.inr ⟨j, by omega, e⟩
  · by_cases q : i = n
    · refine ⟨1, ?_⟩
      simp only [chn, Option.bind_some, par]
      rw [if_pos (by rw [q]; unfold asd; rw [if_pos rfl]; rfl)]
    · obtain ⟨m, hm⟩ := h.2.2.2 i (by omega)
      exact ⟨m, (asd_chn h (show i < n by omega) m).trans hm⟩
/-- the reference's state with a new SIDE -/
def nM1 (S : vs) (n : Nat) (x1 x2 x3 x4 : Int32) : vs := s2 (s2 (s2 (s2 (s2 (s2 (s2 (s2 (s2 S (0, 23) n x1) (0, 24) n x2) (0, 25) n x3) (0, 26) n x4) (0, 27) n 10) (0, 28) n 5) (0, 30) n (-9)) (0, 31) n (-9)) (0, 1) 1 (nI (n + 1))
theorem nM1_s {S : vs} {n : Nat} {x1 x2 x3 x4 yr : Int32} {sd : Nat → Nat → Int32} (h : MS n yr sd S) : MS (n + 1) yr (asd sd n (nsd x1 x2 x3 x4)) (nM1 S n x1 x2 x3 x4) := by
  obtain ⟨a, b, c, d⟩ := h
  have z := d n (Nat.le_refl n)
  have c' : ∀ i j, i < n → j < 11 → S.1 (0, mk j) i = sd i j := c
  refine ⟨by simp [nM1, s2_at], by simp [nM1, s2_at]; exact b, fun i j hi hj => ?_, fun i hi => ?_⟩
  · unfold asd nM1 nsd
    by_cases q : i = n
    · subst q
      rcases (show j = 0 ∨ j = 1 ∨ j = 2 ∨ j = 3 ∨ j = 4 ∨ j = 5 ∨ j = 6 ∨ j = 7 ∨ j = 8 ∨ j = 9 ∨ j = 10 by omega) with rfl | rfl | rfl | rfl | rfl | rfl | rfl | rfl | rfl | rfl | rfl <;> simp [s2_at, mk, z]
    · have := c i j (by omega) hj
      simp only [s2_at, q, and_false, if_false]
      rw [if_neg (fun z => by have := z.1; have := mk_rg hj; simp at *; omega)]
      exact this
  · have q : i ≠ n := by omega
    have z := d i (by omega)
    simp [nM1, s2_at, q, z]
set_option maxHeartbeats 4000000 in
theorem pst0 (F : Nat) : St0 F Inv := by
  intro S hI x1 x2 x3 x4
  obtain ⟨n, yr, sd, oS, rS, mS⟩ := hI.s
  have hn := oS.1
  have mT : MS n yr sd (T0 S) := mS.ag (T0_ag S)
  by_cases c1 : wi 0 1000 x1 = true
  · by_cases c2 : wi 0 100 x2 = true
    · by_cases c3 : wi 0 100 x3 = true
      · by_cases c4 : wi 0 100 x4 = true
        · by_cases c5 : n = 16
          · subst c5
            refine ⟨-4, S, T0 S, ?_, ?_, hI.ag (T0_ag S)⟩
            · simp [fX7_side, jX7_side_47, w0_1000, w0_100, c1, c2, c3, c4, b01_ite, rS.2.1, show ¬ (nI 16 < 16) by decide]
            · simp [fX8_side, stp, i0_1000, i0_100, c1, c2, c3, c4, b01_ite, mT.1, show nI 16 = 16 from rfl]
          · have n16 : n < 16 := by omega
            have hin : inb (nI n) 16 = true := inb_nI n16 (by decide)
            have hcl : (nI n).toNatClampNeg = n := cl_nI (by omega)
            have hlt : nI n < 16 := nI_lt n16 (by decide)
            have hne : ¬ nI n = 16 := fun e => by
              have := (nI_eq (a := n) (b := 16) (by omega) (by decide)).mp e
              omega
            have a0 := rS.1
            have r1 := nS1_s (x1 := x1) (x2 := x2) (x3 := x3) (x4 := x4) rS
            have m1 : MS n yr sd (nS1 S n x1 x2 x3 x4) := mS.cg (fun a j ha => nS1_o a0 (by simp) (by simp; omega))
            have m2 : MS n yr sd (T0 (nS1 S n x1 x2 x3 x4)) := m1.fr (by simp) (by simp)
            have m3 := nM1_s (x1 := x1) (x2 := x2) (x3 := x3) (x4 := x4) m2
            have i3 : I3s (nS1 S n x1 x2 x3 x4) := ⟨hI.g.cg rfl (fun a j ha => nS1_o a0 (by simp) (by simp; omega)) (fun i => by show (r2 _ (0, 6) n n).2.1 (0, 17) i = _; rw [r2_at, if_neg (by simp)]; rfl) (fun i j => nS1_o a0 (by simp) (by simp)), hI.p.cg (fun a j ha => nS1_o a0 (by simp) (by simp; omega)), hI.t.cg rfl (fun a j ha => nS1_o a0 (by simp) (by simp; omega)) (fun i => by show (r2 _ (0, 6) n n).2.1 (0, 22) i = _; rw [r2_at, if_neg (by simp)]; rfl) (fun i j => nS1_o a0 (by simp) (by simp))⟩
            refine ⟨nI n, nS1 S n x1 x2 x3 x4, nM1 (T0 (nS1 S n x1 x2 x3 x4)) n x1 x2 x3 x4, ?_, ?_, ?_⟩
            · have al : alv (sn1 S).2.2 (1, n) = true := by
                show decide (n < S.2.2.1 + 1) = true
                rw [a0]; exact decide_eq_true (by omega)
              have al2 : alv (ini1 (sn1 S) n x1 x2 x3 x4).2.2 (1, n) = true := al
              have b1 : (r2 (ini1 (sn1 S) n x1 x2 x3 x4) (0, 6) n n).1 (0, 0) 1 = nI n := by rw [r2_1, ini1_o (by simp), sn1_o (by simp)]; exact rS.2.1
              have b2 : (nS1 S n x1 x2 x3 x4).1 (0, 0) 1 = nI (n + 1) := r1.2.1
              simp only [fX7_side, jX7_side_47, w0_1000, w0_100, c1, c2, c3, c4, b01_ite, Option.bind_some, if_true, rS.2.1, hlt, stp, a0, ini1_eq al, hin, gd, al2, hcl, b1, nI_1, show ((1 : Int32) = 0) = False by decide, if_false]
              rw [show s2 (r2 (ini1 (sn1 S) n x1 x2 x3 x4) (0, 6) n n) (0, 0) 1 (nI (n + 1)) = nS1 S n x1 x2 x3 x4 from rfl, b2, nI_pred]
            · generalize hS : T0 (nS1 S n x1 x2 x3 x4) = U at m2 m3
              have hS' : s2 (nS1 S n x1 x2 x3 x4) (0, 1) 0 0 = U := hS
              have b0 : U.1 (0, 1) 1 = nI n := m2.1
              simp only [fX8_side, stp, hS', i0_1000, i0_100, c1, c2, c3, c4, b01_ite, Option.bind_some, if_true, b0, hne, if_false, gd, al23, al24, al25, al26, al27, al28, al30, al31, s2_at, hin, hcl, Prod.mk.injEq, show ((1 : Nat) = 23) = False by decide, show ((1 : Nat) = 24) = False by decide, show ((1 : Nat) = 25) = False by decide, show ((1 : Nat) = 26) = False by decide, show ((1 : Nat) = 27) = False by decide, show ((1 : Nat) = 28) = False by decide, show ((1 : Nat) = 30) = False by decide, show ((1 : Nat) = 31) = False by decide, and_false, false_and, and_self, nI_1, nI_pred]
              rfl
            · refine Inv.sides (asd_ok oS n16 (wi_t.mp c1) (wi_t.mp c2) (wi_t.mp c3) (wi_t.mp c4)) ?_ m3 ?_
              · unfold nM1
                exact ((((((((((r1.fr (by simp) (by simp)).fr (by simp) (by simp)).fr (by simp) (by simp)).fr (by simp) (by simp)).fr (by simp) (by simp)).fr (by simp) (by simp)).fr (by simp) (by simp)).fr (by simp) (by simp)).fr (by simp) (by simp)).fr (by simp) (by simp))
              · unfold nM1
                exact (((((((((((i3.fr k3s_T0).fr (k3s_ms _ (by decide))).fr (k3s_ms _ (by decide))).fr (k3s_ms _ (by decide))).fr (k3s_ms _ (by decide))).fr (k3s_ms _ (by decide))).fr (k3s_ms _ (by decide))).fr (k3s_ms _ (by decide))).fr (k3s_ms _ (by decide))).fr (by simp [gok, pok, tok])))
        · refine ⟨-2, S, T0 S, ?_, ?_, hI.ag (T0_ag S)⟩
          · simp [fX7_side, jX7_side_46, jX7_side_47, w0_1000, w0_100, c1, c2, c3, c4, b01_ite]
          · simp [fX8_side, stp, i0_1000, i0_100, c1, c2, c3, c4, b01_ite]
      · refine ⟨-2, S, T0 S, ?_, ?_, hI.ag (T0_ag S)⟩
        · simp [fX7_side, jX7_side_46, jX7_side_47, w0_1000, w0_100, c1, c2, c3, b01_ite]
        · simp [fX8_side, stp, i0_1000, i0_100, c1, c2, c3, b01_ite]
    · refine ⟨-2, S, T0 S, ?_, ?_, hI.ag (T0_ag S)⟩
      · simp [fX7_side, jX7_side_46, jX7_side_47, w0_1000, w0_100, c1, c2, b01_ite]
      · simp [fX8_side, stp, i0_1000, i0_100, c1, c2, b01_ite]
  · refine ⟨-2, S, T0 S, ?_, ?_, hI.ag (T0_ag S)⟩
    · simp [fX7_side, jX7_side_46, jX7_side_47, w0_1000, c1, b01_ite]
    · simp [fX8_side, stp, i0_1000, c1, b01_ite]
