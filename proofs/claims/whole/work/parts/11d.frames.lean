/-! the parts of the invariant, each by itself -/
def IS (S : vs) : Prop := ∃ (n : Nat) (yr : Int32) (sd : Nat → Nat → Int32), OkS n yr sd ∧ RS n yr sd S ∧ MS n yr sd S
def IG (S : vs) : Prop := ∃ (g : Nat) (sg : Nat → Nat → Int32), OkG g sg ∧ RG g sg S ∧ MG g sg S
def IP (S : vs) : Prop := ∃ (pc : Nat) (tol : Int32) (pp : Nat → Nat → Int32), OkP pc tol pp ∧ RP pc tol pp S ∧ MP pc tol pp S
def IT (S : vs) : Prop := ∃ (tc : Nat) (tx : Nat → Nat → Int32) (pm : Nat → Nat), OkT tc tx pm ∧ RT tc tx pm S ∧ MT tc tx S
theorem Inv.of {S : vs} (a : IS S) (b : IG S) (c : IP S) (d : IT S) : Inv S := by
  obtain ⟨n, yr, sd, a⟩ := a
  obtain ⟨g, sg, b⟩ := b
  obtain ⟨pc, tol, pp, c⟩ := c
  obtain ⟨tc, tx, pm, d⟩ := d
  exact ⟨n, yr, sd, g, sg, pc, tol, pp, tc, tx, pm, a, b, c, d⟩
theorem Inv.s {S : vs} (h : Inv S) : IS S := by
  obtain ⟨n, yr, sd, g, sg, pc, tol, pp, tc, tx, pm, a, b, c, d⟩ := h
  exact ⟨n, yr, sd, a⟩
theorem Inv.g {S : vs} (h : Inv S) : IG S := by
  obtain ⟨n, yr, sd, g, sg, pc, tol, pp, tc, tx, pm, a, b, c, d⟩ := h
  exact ⟨g, sg, b⟩
theorem Inv.p {S : vs} (h : Inv S) : IP S := by
  obtain ⟨n, yr, sd, g, sg, pc, tol, pp, tc, tx, pm, a, b, c, d⟩ := h
  exact ⟨pc, tol, pp, c⟩
theorem Inv.t {S : vs} (h : Inv S) : IT S := by
  obtain ⟨n, yr, sd, g, sg, pc, tol, pp, tc, tx, pm, a, b, c, d⟩ := h
  exact ⟨tc, tx, pm, d⟩
def sok (k : vk) (j : Nat) : Prop := (k.1 ≠ 1 ∧ (k = (0, 0) → j ≠ 1 ∧ j ≠ 2)) ∧ (k.1 = 0 → ¬ (23 ≤ k.2 ∧ k.2 ≤ 33)) ∧ (k = (0, 1) → j ≠ 1 ∧ j ≠ 2)
def gok (k : vk) (j : Nat) : Prop := (k.1 ≠ 2 ∧ (k = (0, 3) → j ≠ 1)) ∧ (k.1 = 0 → ¬ (34 ≤ k.2 ∧ k.2 ≤ 38)) ∧ (k = (0, 1) → j ≠ 14)
def pok (k : vk) (j : Nat) : Prop := (k ≠ (0, 18) ∧ k ≠ (0, 19) ∧ (k = (0, 4) → j ≠ 0 ∧ j ≠ 1)) ∧ k ≠ (0, 39) ∧ k ≠ (0, 40) ∧ (k = (0, 1) → j ≠ 20 ∧ j ≠ 21)
def tok (k : vk) (j : Nat) : Prop := (k.1 ≠ 3 ∧ (k = (0, 5) → j ≠ 1)) ∧ (k.1 = 0 → ¬ (41 ≤ k.2 ∧ k.2 ≤ 45)) ∧ (k = (0, 1) → j ≠ 24)
theorem IS.fr {S : vs} {k : vk} {j : Nat} {x : Int32} (h : IS S) (q : sok k j) : IS (s2 S k j x) := by
  obtain ⟨n, yr, sd, a, b, c⟩ := h
  exact ⟨n, yr, sd, a, b.fr q.1.1 q.1.2, c.fr q.2.1 q.2.2⟩
theorem IG.fr {S : vs} {k : vk} {j : Nat} {x : Int32} (h : IG S) (q : gok k j) : IG (s2 S k j x) := by
  obtain ⟨g, sg, a, b, c⟩ := h
  exact ⟨g, sg, a, b.fr q.1.1 q.1.2, c.fr q.2.1 q.2.2⟩
theorem IP.fr {S : vs} {k : vk} {j : Nat} {x : Int32} (h : IP S) (q : pok k j) : IP (s2 S k j x) := by
  obtain ⟨pc, tol, pp, a, b, c⟩ := h
  exact ⟨pc, tol, pp, a, b.fr q.1.1 q.1.2.1 q.1.2.2, c.fr q.2.1 q.2.2.1 q.2.2.2⟩
theorem IT.fr {S : vs} {k : vk} {j : Nat} {x : Int32} (h : IT S) (q : tok k j) : IT (s2 S k j x) := by
  obtain ⟨tc, tx, pm, a, b, c⟩ := h
  exact ⟨tc, tx, pm, a, b.fr q.1.1 q.1.2, c.fr q.2.1 q.2.2⟩
/-- three parts at once: what a call on sides, signs, pieces, texts leaves -/
def I3s (S : vs) : Prop := IG S ∧ IP S ∧ IT S
def I3g (S : vs) : Prop := IS S ∧ IP S ∧ IT S
def I3p (S : vs) : Prop := IS S ∧ IG S ∧ IT S
def I3t (S : vs) : Prop := IS S ∧ IG S ∧ IP S
theorem I3s.fr {S : vs} {k : vk} {j : Nat} {x : Int32} (h : I3s S) (q : gok k j ∧ pok k j ∧ tok k j) : I3s (s2 S k j x) := ⟨h.1.fr q.1, h.2.1.fr q.2.1, h.2.2.fr q.2.2⟩
theorem I3g.fr {S : vs} {k : vk} {j : Nat} {x : Int32} (h : I3g S) (q : sok k j ∧ pok k j ∧ tok k j) : I3g (s2 S k j x) := ⟨h.1.fr q.1, h.2.1.fr q.2.1, h.2.2.fr q.2.2⟩
theorem I3p.fr {S : vs} {k : vk} {j : Nat} {x : Int32} (h : I3p S) (q : sok k j ∧ gok k j ∧ tok k j) : I3p (s2 S k j x) := ⟨h.1.fr q.1, h.2.1.fr q.2.1, h.2.2.fr q.2.2⟩
theorem I3t.fr {S : vs} {k : vk} {j : Nat} {x : Int32} (h : I3t S) (q : sok k j ∧ gok k j ∧ pok k j) : I3t (s2 S k j x) := ⟨h.1.fr q.1, h.2.1.fr q.2.1, h.2.2.fr q.2.2⟩
theorem Inv.i3s {S : vs} (h : Inv S) : I3s S := ⟨h.g, h.p, h.t⟩
theorem Inv.i3g {S : vs} (h : Inv S) : I3g S := ⟨h.s, h.p, h.t⟩
theorem Inv.i3p {S : vs} (h : Inv S) : I3p S := ⟨h.s, h.g, h.t⟩
theorem Inv.i3t {S : vs} (h : Inv S) : I3t S := ⟨h.s, h.g, h.p⟩
theorem k3s_side (i j : Nat) : gok (1, i) j ∧ pok (1, i) j ∧ tok (1, i) j := by simp [gok, pok, tok]
theorem k3s_T0 : gok (0, 1) 0 ∧ pok (0, 1) 0 ∧ tok (0, 1) 0 := by simp [gok, pok, tok]
theorem k3s_ms {a : Nat} (j : Nat) (h : 23 ≤ a ∧ a ≤ 33) : gok (0, a) j ∧ pok (0, a) j ∧ tok (0, a) j := by
  refine ⟨⟨⟨by simp, fun q => by simp at q; omega⟩, fun _ => by simp; omega, fun q => by simp at q; omega⟩, ⟨⟨fun q => by simp at q; omega, fun q => by simp at q; omega, fun q => by simp at q; omega⟩, fun q => by simp at q; omega, fun q => by simp at q; omega, fun q => by simp at q; omega⟩, ⟨by simp, fun q => by simp at q; omega⟩, fun _ => by simp; omega, fun q => by simp at q; omega⟩
theorem Inv.sides {S : vs} {n : Nat} {yr : Int32} {sd : Nat → Nat → Int32} (a : OkS n yr sd) (b : RS n yr sd S) (c : MS n yr sd S) (d : I3s S) : Inv S := Inv.of ⟨n, yr, sd, a, b, c⟩ d.1 d.2.1 d.2.2
