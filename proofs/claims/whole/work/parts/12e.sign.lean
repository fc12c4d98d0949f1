/-! sign -/
def ini2 (S : vs) (n : Nat) (x1 x2 x3 x4 : Int32) : vs := s2 (s2 (s2 (s2 (s2 S (2, n) 0 x1) (2, n) 1 x2) (2, n) 2 x3) (2, n) 3 x4) (2, n) 4 1
theorem ini2_eq {F n : Nat} {x1 x2 x3 x4 : Int32} {S : vs} (h : alv S.2.2 (2, n) = true) : fX3_init F n x1 x2 x3 x4 S = some (ini2 S n x1 x2 x3 x4) := by
  simp only [fX3_init, stp, gd, s2_2, h, if_true]
  rfl
def nsg (x1 x2 x3 x4 : Int32) (j : Nat) : Int32 := if j = 0 then x1 else if j = 1 then x2 else if j = 2 then x3 else if j = 3 then x4 else 1
theorem ini2_n {n : Nat} {x1 x2 x3 x4 : Int32} {S : vs} {j : Nat} (hj : j < 5) : (ini2 S n x1 x2 x3 x4).1 (2, n) j = nsg x1 x2 x3 x4 j := by
  unfold ini2 nsg
  rcases (show j = 0 ∨ j = 1 ∨ j = 2 ∨ j = 3 ∨ j = 4 by omega) with rfl | rfl | rfl | rfl | rfl <;> simp [s2_at]
theorem ini2_o {n : Nat} {x1 x2 x3 x4 : Int32} {S : vs} {k : vk} {j : Nat} (hk : k ≠ (2, n)) : (ini2 S n x1 x2 x3 x4).1 k j = S.1 k j := by
  unfold ini2
  simp [s2_at, hk]
theorem sn2_o {S : vs} {k : vk} {j : Nat} (hk : k ≠ (2, S.2.2.2.1)) : (sn2 S).1 k j = S.1 k j := by simp [sn2, hk]
def nS2 (S : vs) (n : Nat) (x1 x2 x3 x4 : Int32) : vs := s2 (r2 (ini2 (sn2 S) n x1 x2 x3 x4) (0, 17) n n) (0, 3) 1 (nI (n + 1))
theorem nS2_o {S : vs} {n : Nat} {x1 x2 x3 x4 : Int32} (hn : S.2.2.2.1 = n) {k : vk} {j : Nat} (hk : k ≠ (2, n)) (h0 : k ≠ (0, 3)) : (nS2 S n x1 x2 x3 x4).1 k j = S.1 k j := by
  unfold nS2
  rw [s2_at, if_neg (fun q => h0 q.1), r2_1, ini2_o hk, sn2_o (by rw [hn]; exact hk)]
theorem nS2_s {S : vs} {n : Nat} {x1 x2 x3 x4 : Int32} {sg : Nat → Nat → Int32} (h : RG n sg S) : RG (n + 1) (asd sg n (nsg x1 x2 x3 x4)) (nS2 S n x1 x2 x3 x4) := by
  obtain ⟨a, b, d, e⟩ := h
  refine ⟨?_, ?_, fun i hi => ?_, fun i j hi hj => ?_⟩
  · show S.2.2.2.1 + 1 = n + 1; rw [a]
  · unfold nS2; rw [s2_at, if_pos ⟨rfl, rfl⟩]
  · show (r2 (ini2 (sn2 S) n x1 x2 x3 x4) (0, 17) n n).2.1 (0, 17) i = some i
    rw [r2_at]
    by_cases q : i = n
    · rw [if_pos ⟨rfl, q⟩, q]
    · rw [if_neg (fun z => q z.2)]
      exact d i (by omega)
  · unfold asd
    by_cases q : i = n
    · subst q
      rw [if_pos rfl]
      unfold nS2
      rw [s2_at, if_neg (by simp), r2_1, ini2_n hj]
    · rw [if_neg q, nS2_o a (by simp; exact q) (by simp)]
      exact e i j (by omega) hj
def nM2 (S : vs) (n : Nat) (x1 x2 x3 x4 : Int32) : vs := s2 (s2 (s2 (s2 (s2 S (0, 34) n x1) (0, 35) n x2) (0, 36) n x3) (0, 37) n x4) (0, 1) 14 (nI (n + 1))
theorem nM2_s {S : vs} {n : Nat} {x1 x2 x3 x4 : Int32} {sg : Nat → Nat → Int32} (h : MG n sg S) : MG (n + 1) (asd sg n (nsg x1 x2 x3 x4)) (nM2 S n x1 x2 x3 x4) := by
  obtain ⟨a, b, c, d⟩ := h
  have z := d n (Nat.le_refl n)
  refine ⟨by simp [nM2, s2_at], fun i j hi hj => ?_, fun i hi => ?_, fun i hi => ?_⟩
  · unfold asd nM2 nsg
    by_cases q : i = n
    · subst q
      rcases (show j = 0 ∨ j = 1 ∨ j = 2 ∨ j = 3 by omega) with rfl | rfl | rfl | rfl <;> simp [s2_at]
    · have := b i j (by omega) hj
      simp only [s2_at, q, and_false, if_false]
      rw [if_neg (fun z => by have := z.1; simp at this; omega)]
      exact this
  · unfold asd nM2
    by_cases q : i = n
    · subst q
      simp only [s2_at, if_true]
      simp [z, nsg]
    · simp only [q, if_false]
      simp [s2_at]
      exact c i (by omega)
  · have := d i (by omega)
    simp [nM2, s2_at, this]
set_option maxHeartbeats 4000000 in
theorem pst8 (F : Nat) : St8 F Inv := by
  intro S hI x1 x2 x3 x4
  obtain ⟨n, yr, sd, oS, rS, mS⟩ := hI.s
  obtain ⟨g, sg, oG, rG, mG⟩ := hI.g
  have hn := oS.1
  have hg := oG.1
  have e7 := isSide_eq (F := F) (x := x1) rS.2.1 (by omega)
  have mT : MS n yr sd (T0 S) := mS.ag (T0_ag S)
  have mGT : MG g sg (T0 S) := mG.ag (T0_ag S)
  have e8 : ∀ S', MS n yr sd S' → fX8_noSide F x1 S' = _ := fun S' h => noSide_eq (F := F) (x := x1) h.1 (by omega)
  have w7 : ∀ S', fX7_within F x2 1 x3 S' = some (b01 (wi 1 x3.toInt x2)) := fun S' => wi_eq 1 x3.toInt rfl rfl
  have w8 : ∀ S', fX8_in F x2.toInt64 1 x3.toInt64 S' = some (b01 (wi 1 x3.toInt x2)) := fun S' => in_eq 1 x3.toInt rfl (Int32.toInt_toInt64 _)
  by_cases c1 : wi 0 ((n : Int) - 1) x1 = true
  · by_cases c2 : wi 1 x3.toInt x2 = true
    · by_cases c3 : 30000 < x3
      · have c3' : ¬ wi 1 30000 x3 = true := fun e => by
          have := (wi_t.mp e).2
          rw [fa_lt, show (30000 : Int32).toInt = 30000 from rfl] at c3
          omega
        refine ⟨-2, S, T0 S, ?_, ?_, hI.ag (T0_ag S)⟩
        · simp [fX7_sign, jX7_sign_45, jX7_sign_46, e7, w1_30000, c1, c3', b01_ite]
        · simp [fX8_sign, stp, e8 _ mT, w8, c1, c2, c3, b01_ite]
      · have c3' : wi 1 30000 x3 = true := wi_t.mpr ⟨by have := wi_t.mp c2; have := this.1; have := (wi_t.mp c2).2; omega, by rw [fa_lt, show (30000 : Int32).toInt = 30000 from rfl] at c3; omega⟩
        by_cases c4 : wi 1 9 x4 = true
        · by_cases c5 : g = 60
          · subst c5
            refine ⟨-4, S, T0 S, ?_, ?_, hI.ag (T0_ag S)⟩
            · simp [fX7_sign, jX7_sign_46, fX4_isFull, e7, w1_30000, w7, w1_9, c1, c2, c3', c4, b01_ite, rG.2.1, show ¬ (nI 60 < 60) by decide]
            · simp [fX8_sign, stp, e8 _ mT, w8, i1_9, c1, c2, c3, c4, b01_ite, mGT.1, show nI 60 = 60 from rfl]
          · have g60 : g < 60 := by omega
            have hin : inb (nI g) 60 = true := inb_nI g60 (by decide)
            have hcl : (nI g).toNatClampNeg = g := cl_nI (by omega)
            have hlt : nI g < 60 := nI_lt g60 (by decide)
            have hne : ¬ nI g = 60 := fun e => by
              have := (nI_eq (a := g) (b := 60) (by omega) (by decide)).mp e
              omega
            have a0 := rG.1
            have r1 := nS2_s (x1 := x1) (x2 := x2) (x3 := x3) (x4 := x4) rG
            have m1 : MS n yr sd (nS2 S g x1 x2 x3 x4) := mS.cg (fun a j ha => nS2_o a0 (by simp) (by simp; omega))
            have m1' : MS n yr sd (T0 (nS2 S g x1 x2 x3 x4)) := m1.fr (by simp) (by simp)
            have g1 : MG g sg (nS2 S g x1 x2 x3 x4) := by
              obtain ⟨a, b, c, d⟩ := mG
              exact ⟨(nS2_o a0 (by simp) (by simp)).trans a, fun i j hi hj => (nS2_o a0 (by simp) (by simp; omega)).trans (b i j hi hj), fun i hi => (nS2_o a0 (by simp) (by simp)).trans (c i hi), fun i hi => (nS2_o a0 (by simp) (by simp)).trans (d i hi)⟩
            have g2 : MG g sg (T0 (nS2 S g x1 x2 x3 x4)) := g1.fr (by simp) (by simp)
            have g3 := nM2_s (x1 := x1) (x2 := x2) (x3 := x3) (x4 := x4) g2
            have i3 : I3g (nS2 S g x1 x2 x3 x4) := ⟨hI.s.cg rfl (fun a j ha => nS2_o a0 (by simp) (by simp; omega)) (fun i => by show (r2 _ (0, 17) g g).2.1 (0, 6) i = _; rw [r2_at, if_neg (by simp)]; rfl) (fun i j => nS2_o a0 (by simp) (by simp)), hI.p.cg (fun a j ha => nS2_o a0 (by simp) (by simp; omega)), hI.t.cg rfl (fun a j ha => nS2_o a0 (by simp) (by simp; omega)) (fun i => by show (r2 _ (0, 17) g g).2.1 (0, 22) i = _; rw [r2_at, if_neg (by simp)]; rfl) (fun i j => nS2_o a0 (by simp) (by simp))⟩
            refine ⟨nI g, nS2 S g x1 x2 x3 x4, nM2 (T0 (nS2 S g x1 x2 x3 x4)) g x1 x2 x3 x4, ?_, ?_, ?_⟩
            · have al : alv (sn2 S).2.2 (2, g) = true := by
                show decide (g < S.2.2.2.1 + 1) = true
                rw [a0]; exact decide_eq_true (by omega)
              have al2 : alv (ini2 (sn2 S) g x1 x2 x3 x4).2.2 (2, g) = true := al
              have b0 : (ini2 (sn2 S) g x1 x2 x3 x4).1 (0, 3) 1 = nI g := by rw [ini2_o (by simp), sn2_o (by simp)]; exact rG.2.1
              have b1 : (r2 (ini2 (sn2 S) g x1 x2 x3 x4) (0, 17) g g).1 (0, 3) 1 = nI g := b0
              have b2 : (nS2 S g x1 x2 x3 x4).1 (0, 3) 1 = nI (g + 1) := r1.2.1
              simp only [fX7_sign, jX7_sign_46, fX4_isFull, fX4_add, e7, w1_30000, w7, w1_9, c1, c2, c3', c4, b01_ite, Option.bind_some, if_true, rG.2.1, hlt, stp, a0, ini2_eq al, b0, hin, gd, al2, hcl, b1, nI_1, show ((1 : Int32) = 0) = False by decide, if_false]
              rw [show s2 (r2 (ini2 (sn2 S) g x1 x2 x3 x4) (0, 17) g g) (0, 3) 1 (nI (g + 1)) = nS2 S g x1 x2 x3 x4 from rfl, b2, nI_pred]
            · generalize hS : T0 (nS2 S g x1 x2 x3 x4) = U at m1' g2 g3
              have hS' : s2 (nS2 S g x1 x2 x3 x4) (0, 1) 0 0 = U := hS
              have b0 : U.1 (0, 1) 14 = nI g := g2.1
              simp only [fX8_sign, stp, hS', e8 _ m1', w8, i1_9, c1, c2, c3, c4, b01_ite, Bool.not_true, Bool.false_eq_true, Option.bind_some, if_true, b0, hne, if_false, gd, al34, al35, al36, al37, s2_at, hin, hcl, Prod.mk.injEq, show ((1 : Nat) = 34) = False by decide, show ((1 : Nat) = 35) = False by decide, show ((1 : Nat) = 36) = False by decide, show ((1 : Nat) = 37) = False by decide, and_false, false_and, and_self, nI_1, nI_pred]
              rfl
            · refine Inv.signs ⟨by omega, fun q hq => ?_⟩ ?_ g3 ?_
              · unfold asd
                by_cases e : q = g
                · simp only [e, if_true]
                  have h2 := wi_t.mp c2
                  have h3 := wi_t.mp c3'
                  exact ⟨⟨h2.1, by have := h2.2; have := h3.2; exact Int.le_trans h2.2 h3.2⟩, h3, h2.2, wi_t.mp c4, Or.inr rfl⟩
                · simp only [e, if_false]
                  exact oG.2 q (by omega)
              · unfold nM2
                exact (((((r1.fr (by simp) (by simp)).fr (by simp) (by simp)).fr (by simp) (by simp)).fr (by simp) (by simp)).fr (by simp) (by simp)).fr (by simp) (by simp)
              · unfold nM2
                exact (((((i3.fr k3g_T0).fr (k3g_ms _ (by decide))).fr (k3g_ms _ (by decide))).fr (k3g_ms _ (by decide))).fr (k3g_ms _ (by decide))).fr (by simp [sok, pok, tok])
        · refine ⟨-2, S, T0 S, ?_, ?_, hI.ag (T0_ag S)⟩
          · simp [fX7_sign, jX7_sign_45, jX7_sign_46, e7, w1_30000, w7, w1_9, c1, c2, c3', c4, b01_ite]
          · simp [fX8_sign, stp, e8 _ mT, w8, i1_9, c1, c2, c3, c4, b01_ite]
    · refine ⟨-2, S, T0 S, ?_, ?_, hI.ag (T0_ag S)⟩
      · by_cases c3 : wi 1 30000 x3 = true
        · simp [fX7_sign, jX7_sign_45, jX7_sign_46, e7, w1_30000, w7, c1, c2, c3, b01_ite]
        · simp [fX7_sign, jX7_sign_45, jX7_sign_46, e7, w1_30000, c1, c3, b01_ite]
      · simp [fX8_sign, stp, e8 _ mT, w8, c1, c2, b01_ite]
  · refine ⟨-1, S, T0 S, ?_, ?_, hI.ag (T0_ag S)⟩
    · simp [fX7_sign, e7, c1, b01_ite]
    · simp [fX8_sign, stp, e8 _ mT, c1, b01_ite]
