/-! THE INVARIANT: what the class's cells and the reference's cells hold, in one set of words -/
theorem s2_at (S : vs) (k k' : vk) (j j' : Nat) (x : Int32) : (s2 S k j x).1 k' j' = if k' = k ∧ j' = j then x else S.1 k' j' := by
  by_cases h : k' = k
  · subst h
    by_cases h2 : j' = j
    · subst h2; simp [s2, upd]
    · simp [s2, upd, h2]
  · simp [s2, h]
def rg (lo hi : Int) (x : Int32) : Prop := lo ≤ x.toInt ∧ x.toInt ≤ hi
theorem rg_nI {lo hi : Int} {k : Nat} (hk : k < 2 ^ 31) : rg lo hi (nI k) ↔ lo ≤ (k : Int) ∧ (k : Int) ≤ hi := by unfold rg; rw [nI_toInt hk]
theorem rg_of {n : Nat} {x : Int32} (h : rg 0 n x) : ∃ i : Nat, i ≤ n ∧ x = nI i := by
  obtain ⟨h1, h2⟩ := h
  have hlt : x.toInt.toNat < 2 ^ 31 := by have := (fb_rng x).2; omega
  refine ⟨x.toInt.toNat, by omega, (fa_eq _ _).mpr ?_⟩
  rw [nI_toInt hlt]
  omega
theorem rg_of1 {n : Nat} {x : Int32} (h : rg 0 ((n : Int) - 1) x) : ∃ i : Nat, i < n ∧ x = nI i := by
  obtain ⟨h1, h2⟩ := h
  have hlt : x.toInt.toNat < 2 ^ 31 := by have := (fb_rng x).2; omega
  refine ⟨x.toInt.toNat, by omega, (fa_eq _ _).mpr ?_⟩
  rw [nI_toInt hlt]
  omega
/-- states that differ in given places alone -/
def Ag (P : vk → Nat → Prop) (S S' : vs) : Prop := (∀ k j, ¬ P k j → S'.1 k j = S.1 k j) ∧ S'.2 = S.2
theorem Ag.rf {P : vk → Nat → Prop} (S : vs) : Ag P S S := ⟨fun _ _ _ => rfl, rfl⟩
theorem Ag.tr {P : vk → Nat → Prop} {S S' S'' : vs} (h : Ag P S S') (h2 : Ag P S' S'') : Ag P S S'' := ⟨fun k j hk => (h2.1 k j hk).trans (h.1 k j hk), h2.2.trans h.2⟩
theorem Ag.put {P : vk → Nat → Prop} {S : vs} {k : vk} {j : Nat} {x : Int32} (h : P k j) : Ag P S (s2 S k j x) := ⟨fun k' j' hk => by
  rw [s2_at, if_neg]
  intro q
  rw [q.1, q.2] at hk
  exact hk h, rfl⟩
theorem Ag.mono {P Q : vk → Nat → Prop} {S S' : vs} (h : Ag P S S') (hq : ∀ k j, P k j → Q k j) : Ag Q S S' := ⟨fun k j hk => h.1 k j (fun q => hk (hq k j q)), h.2⟩
/-- the places that nothing is kept in -/
def scr (k : vk) (j : Nat) : Prop := k = (0, 2) ∨ (k.1 = 0 ∧ 7 ≤ k.2 ∧ k.2 ≤ 16) ∨ k.1 = 4 ∨ k = (0, 20) ∨ k = (0, 21) ∨ (k = (0, 1) ∧ (j = 0 ∨ j = 30 ∨ j = 33)) ∨ (k.1 = 0 ∧ 46 ≤ k.2 ∧ k.2 ≤ 50)
theorem nscr {a j : Nat} (h : ¬ (a = 2 ∨ (7 ≤ a ∧ a ≤ 16) ∨ a = 20 ∨ a = 21 ∨ (a = 1 ∧ (j = 0 ∨ j = 30 ∨ j = 33)) ∨ (46 ≤ a ∧ a ≤ 50))) : ¬ scr (0, a) j := by
  unfold scr
  simp only [Prod.mk.injEq]
  omega
theorem nscr1 {a i j : Nat} (h : a = 1 ∨ a = 2 ∨ a = 3) : ¬ scr (a, i) j := by
  unfold scr
  simp only [Prod.mk.injEq]
  omega
def up2 (f : Nat → Nat → Int32) (i j : Nat) (x : Int32) : Nat → Nat → Int32 := fun i' j' => if i' = i ∧ j' = j then x else f i' j'
theorem up2_s (f : Nat → Nat → Int32) (i j : Nat) (x : Int32) : up2 f i j x i j = x := by simp [up2]
theorem up2_j (f : Nat → Nat → Int32) {i j i' j' : Nat} (x : Int32) (h : j' ≠ j) : up2 f i j x i' j' = f i' j' := by simp [up2, h]
theorem up2_i (f : Nat → Nat → Int32) {i j i' j' : Nat} (x : Int32) (h : i' ≠ i) : up2 f i j x i' j' = f i' j' := by simp [up2, h]
/-- where the reference keeps a Side's field -/
def mk (j : Nat) : Nat := if j = 0 then 23 else if j = 1 then 25 else if j = 2 then 26 else if j = 3 then 24 else 23 + j
theorem mk_rg {j : Nat} (h : j < 11) : 23 ≤ mk j ∧ mk j ≤ 33 := by unfold mk; split <;> (try split) <;> (try split) <;> (try split) <;> omega
theorem mk_inj {j k : Nat} (h : mk j = mk k) : j = k := by
  unfold mk at h
  repeat' split at h
  all_goals omega
-- SIDES
def RS (n : Nat) (yr : Int32) (sd : Nat → Nat → Int32) (S : vs) : Prop := S.2.2.1 = n ∧ S.1 (0, 0) 1 = nI n ∧ S.1 (0, 0) 2 = yr ∧ (∀ i, i < n → S.2.1 (0, 6) i = some i) ∧ ∀ i j, i < n → j < 11 → S.1 (1, i) j = sd i j
def MS (n : Nat) (yr : Int32) (sd : Nat → Nat → Int32) (S : vs) : Prop := S.1 (0, 1) 1 = nI n ∧ S.1 (0, 1) 2 = yr ∧ (∀ i j, i < n → j < 11 → S.1 (0, mk j) i = sd i j) ∧ ∀ i, n ≤ i → S.1 (0, 29) i = 0 ∧ S.1 (0, 32) i = 0 ∧ S.1 (0, 33) i = 0
theorem RS.fr {n : Nat} {yr : Int32} {sd : Nat → Nat → Int32} {S : vs} {k : vk} {j : Nat} {x : Int32} (h : RS n yr sd S) (h1 : k.1 ≠ 1) (h2 : k = (0, 0) → j ≠ 1 ∧ j ≠ 2) : RS n yr sd (s2 S k j x) := by
  obtain ⟨a, b, c, d, e⟩ := h
  refine ⟨a, ?_, ?_, d, fun i j' hi hj => ?_⟩
  · rw [s2_at, if_neg (fun q => (h2 q.1.symm).1 q.2.symm)]; exact b
  · rw [s2_at, if_neg (fun q => (h2 q.1.symm).2 q.2.symm)]; exact c
  · rw [s2_at, if_neg (fun q => h1 (by rw [← q.1]))]; exact e i j' hi hj
theorem RS.put {n : Nat} {yr : Int32} {sd : Nat → Nat → Int32} {S : vs} {i j : Nat} {x : Int32} (h : RS n yr sd S) : RS n yr (up2 sd i j x) (s2 S (1, i) j x) := by
  obtain ⟨a, b, c, d, e⟩ := h
  refine ⟨a, ?_, ?_, d, fun i' j' hi hj => ?_⟩
  · rw [s2_at, if_neg (fun q => by have := q.1; simp at this)]; exact b
  · rw [s2_at, if_neg (fun q => by have := q.1; simp at this)]; exact c
  · rw [s2_at]
    unfold up2
    by_cases q : i' = i ∧ j' = j
    · rw [if_pos q, if_pos ⟨by rw [q.1], q.2⟩]
    · rw [if_neg q, if_neg (fun z => q ⟨by have := z.1; simp at this; exact this, z.2⟩)]
      exact e i' j' hi hj
theorem RS.year {n : Nat} {yr x : Int32} {sd : Nat → Nat → Int32} {S : vs} (h : RS n yr sd S) : RS n x sd (s2 S (0, 0) 2 x) := by
  obtain ⟨a, b, c, d, e⟩ := h
  refine ⟨a, ?_, ?_, d, fun i' j' hi hj => ?_⟩
  · rw [s2_at, if_neg (by simp)]; exact b
  · rw [s2_at, if_pos ⟨rfl, rfl⟩]
  · rw [s2_at, if_neg (by simp)]; exact e i' j' hi hj
theorem RS.ag {n : Nat} {yr : Int32} {sd : Nat → Nat → Int32} {S S' : vs} (h : RS n yr sd S) (g : Ag scr S S') : RS n yr sd S' := by
  obtain ⟨a, b, c, d, e⟩ := h
  refine ⟨by rw [g.2]; exact a, ?_, ?_, fun i hi => by rw [g.2]; exact d i hi, fun i j hi hj => ?_⟩
  · rw [g.1 _ _ (nscr (by omega))]; exact b
  · rw [g.1 _ _ (nscr (by omega))]; exact c
  · rw [g.1 _ _ (nscr1 (Or.inl rfl))]; exact e i j hi hj
theorem MS.fr {n : Nat} {yr : Int32} {sd : Nat → Nat → Int32} {S : vs} {k : vk} {j : Nat} {x : Int32} (h : MS n yr sd S) (h1 : k.1 = 0 → ¬ (23 ≤ k.2 ∧ k.2 ≤ 33)) (h2 : k = (0, 1) → j ≠ 1 ∧ j ≠ 2) : MS n yr sd (s2 S k j x) := by
  obtain ⟨a, b, c, d⟩ := h
  refine ⟨?_, ?_, fun i j' hi hj => ?_, fun i hi => ⟨?_, ?_, ?_⟩⟩
  · rw [s2_at, if_neg (fun q => (h2 q.1.symm).1 q.2.symm)]; exact a
  · rw [s2_at, if_neg (fun q => (h2 q.1.symm).2 q.2.symm)]; exact b
  · rw [s2_at, if_neg (fun q => h1 (by rw [← q.1]) (by rw [← q.1]; exact mk_rg hj))]; exact c i j' hi hj
  · rw [s2_at, if_neg (fun q => h1 (by rw [← q.1]) (by rw [← q.1]; decide))]; exact (d i hi).1
  · rw [s2_at, if_neg (fun q => h1 (by rw [← q.1]) (by rw [← q.1]; decide))]; exact (d i hi).2.1
  · rw [s2_at, if_neg (fun q => h1 (by rw [← q.1]) (by rw [← q.1]; decide))]; exact (d i hi).2.2
theorem MS.put {n : Nat} {yr : Int32} {sd : Nat → Nat → Int32} {S : vs} {i j a : Nat} {x : Int32} (h : MS n yr sd S) (hi : i < n) (ha : a = mk j) (hj : j < 11) : MS n yr (up2 sd i j x) (s2 S (0, a) i x) := by
  subst ha
  obtain ⟨a, b, c, d⟩ := h
  have hr := mk_rg hj
  have ne : ∀ i', n ≤ i' → i' ≠ i := fun i' h e => by omega
  refine ⟨?_, ?_, fun i' j' hi' hj' => ?_, fun i' hi' => ⟨?_, ?_, ?_⟩⟩
  · rw [s2_at, if_neg (fun q => by have := q.1; simp at this; omega)]; exact a
  · rw [s2_at, if_neg (fun q => by have := q.1; simp at this; omega)]; exact b
  · rw [s2_at]
    unfold up2
    by_cases q : i' = i ∧ j' = j
    · rw [if_pos q, if_pos ⟨by rw [q.2], q.1⟩]
    · rw [if_neg q, if_neg (fun z => q ⟨z.2, mk_inj (by have := z.1; simp at this; exact this)⟩)]
      exact c i' j' hi' hj'
  · rw [s2_at, if_neg (fun q => ne i' hi' q.2)]; exact (d i' hi').1
  · rw [s2_at, if_neg (fun q => ne i' hi' q.2)]; exact (d i' hi').2.1
  · rw [s2_at, if_neg (fun q => ne i' hi' q.2)]; exact (d i' hi').2.2
theorem MS.year {n : Nat} {yr x : Int32} {sd : Nat → Nat → Int32} {S : vs} (h : MS n yr sd S) : MS n x sd (s2 S (0, 1) 2 x) := by
  obtain ⟨a, b, c, d⟩ := h
  refine ⟨?_, ?_, fun i j' hi hj => ?_, fun i hi => ⟨?_, ?_, ?_⟩⟩
  · rw [s2_at, if_neg (by simp)]; exact a
  · rw [s2_at, if_pos ⟨rfl, rfl⟩]
  · rw [s2_at, if_neg (fun q => by have := q.1; have := mk_rg hj; simp at *; omega)]; exact c i j' hi hj
  · rw [s2_at, if_neg (by simp)]; exact (d i hi).1
  · rw [s2_at, if_neg (by simp)]; exact (d i hi).2.1
  · rw [s2_at, if_neg (by simp)]; exact (d i hi).2.2
theorem MS.ag {n : Nat} {yr : Int32} {sd : Nat → Nat → Int32} {S S' : vs} (h : MS n yr sd S) (g : Ag scr S S') : MS n yr sd S' := by
  obtain ⟨a, b, c, d⟩ := h
  refine ⟨?_, ?_, fun i j hi hj => ?_, fun i hi => ⟨?_, ?_, ?_⟩⟩
  · rw [g.1 _ _ (nscr (by omega))]; exact a
  · rw [g.1 _ _ (nscr (by omega))]; exact b
  · rw [g.1 _ _ (nscr (by have := mk_rg hj; omega))]; exact c i j hi hj
  · rw [g.1 _ _ (nscr (by omega))]; exact (d i hi).1
  · rw [g.1 _ _ (nscr (by omega))]; exact (d i hi).2.1
  · rw [g.1 _ _ (nscr (by omega))]; exact (d i hi).2.2
-- SIGNS
def RG (g : Nat) (sg : Nat → Nat → Int32) (S : vs) : Prop := S.2.2.2.1 = g ∧ S.1 (0, 3) 1 = nI g ∧ (∀ q, q < g → S.2.1 (0, 17) q = some q) ∧ ∀ q j, q < g → j < 5 → S.1 (2, q) j = sg q j
def MG (g : Nat) (sg : Nat → Nat → Int32) (S : vs) : Prop := S.1 (0, 1) 14 = nI g ∧ (∀ q j, q < g → j < 4 → S.1 (0, 34 + j) q = sg q j) ∧ (∀ q, q < g → S.1 (0, 38) q = 1 - sg q 4) ∧ ∀ q, g ≤ q → S.1 (0, 38) q = 0
theorem RG.fr {g : Nat} {sg : Nat → Nat → Int32} {S : vs} {k : vk} {j : Nat} {x : Int32} (h : RG g sg S) (h1 : k.1 ≠ 2) (h2 : k = (0, 3) → j ≠ 1) : RG g sg (s2 S k j x) := by
  obtain ⟨a, b, c, d⟩ := h
  refine ⟨a, ?_, c, fun i j' hi hj => ?_⟩
  · rw [s2_at, if_neg (fun q => h2 q.1.symm q.2.symm)]; exact b
  · rw [s2_at, if_neg (fun q => h1 (by rw [← q.1]))]; exact d i j' hi hj
theorem RG.ag {g : Nat} {sg : Nat → Nat → Int32} {S S' : vs} (h : RG g sg S) (ha : Ag scr S S') : RG g sg S' := by
  obtain ⟨a, b, c, d⟩ := h
  refine ⟨by rw [ha.2]; exact a, ?_, fun q hq => by rw [ha.2]; exact c q hq, fun q j hq hj => ?_⟩
  · rw [ha.1 _ _ (nscr (by omega))]; exact b
  · rw [ha.1 _ _ (nscr1 (by omega))]; exact d q j hq hj
theorem MG.fr {g : Nat} {sg : Nat → Nat → Int32} {S : vs} {k : vk} {j : Nat} {x : Int32} (h : MG g sg S) (h1 : k.1 = 0 → ¬ (34 ≤ k.2 ∧ k.2 ≤ 38)) (h2 : k = (0, 1) → j ≠ 14) : MG g sg (s2 S k j x) := by
  obtain ⟨a, b, c, d⟩ := h
  refine ⟨?_, fun i j' hi hj => ?_, fun i hi => ?_, fun i hi => ?_⟩
  · rw [s2_at, if_neg (fun q => h2 q.1.symm q.2.symm)]; exact a
  · rw [s2_at, if_neg (fun q => h1 (by rw [← q.1]) (by rw [← q.1]; exact ⟨by simp, by show 34 + j' ≤ 38; omega⟩))]; exact b i j' hi hj
  · rw [s2_at, if_neg (fun q => h1 (by rw [← q.1]) (by rw [← q.1]; decide))]; exact c i hi
  · rw [s2_at, if_neg (fun q => h1 (by rw [← q.1]) (by rw [← q.1]; decide))]; exact d i hi
theorem MG.ag {g : Nat} {sg : Nat → Nat → Int32} {S S' : vs} (h : MG g sg S) (ha : Ag scr S S') : MG g sg S' := by
  obtain ⟨a, b, c, d⟩ := h
  refine ⟨?_, fun i j' hi hj => ?_, fun i hi => ?_, fun i hi => ?_⟩
  · rw [ha.1 _ _ (nscr (by omega))]; exact a
  · rw [ha.1 _ _ (nscr (by omega))]; exact b i j' hi hj
  · rw [ha.1 _ _ (nscr (by omega))]; exact c i hi
  · rw [ha.1 _ _ (nscr (by omega))]; exact d i hi
-- PIECES
def RP (g : Nat) (tol : Int32) (pp : Nat → Nat → Int32) (S : vs) : Prop := S.1 (0, 4) 0 = tol ∧ S.1 (0, 4) 1 = nI g ∧ ∀ i, i < g → S.1 (0, 18) i = pp i 0 ∧ S.1 (0, 19) i = pp i 1
def MP (g : Nat) (tol : Int32) (pp : Nat → Nat → Int32) (S : vs) : Prop := S.1 (0, 1) 21 = tol ∧ S.1 (0, 1) 20 = nI g ∧ ∀ i, i < g → S.1 (0, 39) i = pp i 0 ∧ S.1 (0, 40) i = pp i 1
theorem RP.fr {g : Nat} {tol : Int32} {pp : Nat → Nat → Int32} {S : vs} {k : vk} {j : Nat} {x : Int32} (h : RP g tol pp S) (h1 : k ≠ (0, 18)) (h2 : k ≠ (0, 19)) (h3 : k = (0, 4) → j ≠ 0 ∧ j ≠ 1) : RP g tol pp (s2 S k j x) := by
  obtain ⟨a, b, c⟩ := h
  refine ⟨?_, ?_, fun i hi => ⟨?_, ?_⟩⟩
  · rw [s2_at, if_neg (fun q => (h3 q.1.symm).1 q.2.symm)]; exact a
  · rw [s2_at, if_neg (fun q => (h3 q.1.symm).2 q.2.symm)]; exact b
  · rw [s2_at, if_neg (fun q => h1 q.1.symm)]; exact (c i hi).1
  · rw [s2_at, if_neg (fun q => h2 q.1.symm)]; exact (c i hi).2
theorem RP.ag {g : Nat} {tol : Int32} {pp : Nat → Nat → Int32} {S S' : vs} (h : RP g tol pp S) (ha : Ag scr S S') : RP g tol pp S' := by
  obtain ⟨a, b, c⟩ := h
  refine ⟨?_, ?_, fun i hi => ⟨?_, ?_⟩⟩
  · rw [ha.1 _ _ (nscr (by omega))]; exact a
  · rw [ha.1 _ _ (nscr (by omega))]; exact b
  · rw [ha.1 _ _ (nscr (by omega))]; exact (c i hi).1
  · rw [ha.1 _ _ (nscr (by omega))]; exact (c i hi).2
theorem MP.fr {g : Nat} {tol : Int32} {pp : Nat → Nat → Int32} {S : vs} {k : vk} {j : Nat} {x : Int32} (h : MP g tol pp S) (h1 : k ≠ (0, 39)) (h2 : k ≠ (0, 40)) (h3 : k = (0, 1) → j ≠ 20 ∧ j ≠ 21) : MP g tol pp (s2 S k j x) := by
  obtain ⟨a, b, c⟩ := h
  refine ⟨?_, ?_, fun i hi => ⟨?_, ?_⟩⟩
  · rw [s2_at, if_neg (fun q => (h3 q.1.symm).2 q.2.symm)]; exact a
  · rw [s2_at, if_neg (fun q => (h3 q.1.symm).1 q.2.symm)]; exact b
  · rw [s2_at, if_neg (fun q => h1 q.1.symm)]; exact (c i hi).1
  · rw [s2_at, if_neg (fun q => h2 q.1.symm)]; exact (c i hi).2
theorem MP.ag {g : Nat} {tol : Int32} {pp : Nat → Nat → Int32} {S S' : vs} (h : MP g tol pp S) (ha : Ag scr S S') : MP g tol pp S' := by
  obtain ⟨a, b, c⟩ := h
  refine ⟨?_, ?_, fun i hi => ⟨?_, ?_⟩⟩
  · rw [ha.1 _ _ (nscr (by omega))]; exact a
  · rw [ha.1 _ _ (nscr (by omega))]; exact b
  · rw [ha.1 _ _ (nscr (by omega))]; exact (c i hi).1
  · rw [ha.1 _ _ (nscr (by omega))]; exact (c i hi).2
-- TEXTS
/-- the pairs of FAMILY and SONG that a text is for, as bits -/
def prs (f so : Int32) : Int32 := if so = (-9) then (1 : Int32) <<< (f &&& 31) ||| (1 : Int32) <<< ((8 + f) &&& 31) ||| (1 : Int32) <<< ((16 + f) &&& 31) ||| (1 : Int32) <<< ((24 + f) &&& 31) else (1 : Int32) <<< (((so * 8) + f) &&& 31)
def RT (tc : Nat) (tx : Nat → Nat → Int32) (pm : Nat → Nat) (S : vs) : Prop := S.2.2.2.2 = tc ∧ S.1 (0, 5) 1 = nI tc ∧ (∀ p, p < tc → S.2.1 (0, 22) p = some (pm p)) ∧ ∀ t, t < tc → S.1 (3, t) 0 = nI t ∧ S.1 (3, t) 1 = prs (tx t 0) (tx t 1) ∧ S.1 (3, t) 2 = tx t 2 ∧ S.1 (3, t) 3 = tx t 3 ∧ S.1 (3, t) 4 = tx t 4
def MT (tc : Nat) (tx : Nat → Nat → Int32) (S : vs) : Prop := S.1 (0, 1) 24 = nI tc ∧ ∀ t j, t < tc → j < 5 → S.1 (0, 41 + j) t = tx t j
theorem RT.fr {tc : Nat} {tx : Nat → Nat → Int32} {pm : Nat → Nat} {S : vs} {k : vk} {j : Nat} {x : Int32} (h : RT tc tx pm S) (h1 : k.1 ≠ 3) (h2 : k = (0, 5) → j ≠ 1) : RT tc tx pm (s2 S k j x) := by
  obtain ⟨a, b, c, d⟩ := h
  have e : ∀ t j', (s2 S k j x).1 (3, t) j' = S.1 (3, t) j' := fun t j' => by rw [s2_at, if_neg (fun q => h1 (by rw [← q.1]))]
  refine ⟨a, ?_, c, fun t ht => ?_⟩
  · rw [s2_at, if_neg (fun q => h2 q.1.symm q.2.symm)]; exact b
  · rw [e, e, e, e, e]; exact d t ht
theorem RT.ag {tc : Nat} {tx : Nat → Nat → Int32} {pm : Nat → Nat} {S S' : vs} (h : RT tc tx pm S) (ha : Ag scr S S') : RT tc tx pm S' := by
  obtain ⟨a, b, c, d⟩ := h
  have e : ∀ t j', S'.1 (3, t) j' = S.1 (3, t) j' := fun t j' => ha.1 _ _ (nscr1 (by omega))
  refine ⟨by rw [ha.2]; exact a, ?_, fun p hp => by rw [ha.2]; exact c p hp, fun t ht => ?_⟩
  · rw [ha.1 _ _ (nscr (by omega))]; exact b
  · rw [e, e, e, e, e]; exact d t ht
theorem MT.fr {tc : Nat} {tx : Nat → Nat → Int32} {S : vs} {k : vk} {j : Nat} {x : Int32} (h : MT tc tx S) (h1 : k.1 = 0 → ¬ (41 ≤ k.2 ∧ k.2 ≤ 45)) (h2 : k = (0, 1) → j ≠ 24) : MT tc tx (s2 S k j x) := by
  obtain ⟨a, b⟩ := h
  refine ⟨?_, fun i j' hi hj => ?_⟩
  · rw [s2_at, if_neg (fun q => h2 q.1.symm q.2.symm)]; exact a
  · rw [s2_at, if_neg (fun q => h1 (by rw [← q.1]) (by rw [← q.1]; exact ⟨by simp, by show 41 + j' ≤ 45; omega⟩))]; exact b i j' hi hj
theorem MT.ag {tc : Nat} {tx : Nat → Nat → Int32} {S S' : vs} (h : MT tc tx S) (ha : Ag scr S S') : MT tc tx S' := by
  obtain ⟨a, b⟩ := h
  refine ⟨?_, fun i j' hi hj => ?_⟩
  · rw [ha.1 _ _ (nscr (by omega))]; exact a
  · rw [ha.1 _ _ (nscr (by omega))]; exact b i j' hi hj
-- WHAT THE NUMBERS ARE
/-- what a Side is a COPY of -/
def par (sd : Nat → Nat → Int32) (i : Nat) : Option Nat := if sd i 8 = (-9) then none else some (sd i 8).toNatClampNeg
def chn (sd : Nat → Nat → Int32) (i : Nat) : Nat → Option Nat
  | 0 => some i
  | m + 1 => (chn sd i m).bind (par sd)
def OkS (n : Nat) (yr : Int32) (sd : Nat → Nat → Int32) : Prop := n ≤ 16 ∧ rg 0 1000 yr ∧ (∀ i, i < n → rg 0 1000 (sd i 0) ∧ rg 0 100 (sd i 1) ∧ rg 0 100 (sd i 2) ∧ rg 0 100 (sd i 3) ∧ rg 1 1000 (sd i 4) ∧ rg 1 1000 (sd i 5) ∧ rg 0 255 (sd i 9) ∧ rg 0 3 (sd i 10) ∧ (sd i 8 = (-9) ∨ ∃ j, j < n ∧ sd i 8 = nI j)) ∧ ∀ i, i < n → ∃ m, chn sd i m = none
def OkG (g : Nat) (sg : Nat → Nat → Int32) : Prop := g ≤ 60 ∧ ∀ q, q < g → rg 1 30000 (sg q 1) ∧ rg 1 30000 (sg q 2) ∧ (sg q 1).toInt ≤ (sg q 2).toInt ∧ rg 1 9 (sg q 3) ∧ (sg q 4 = 0 ∨ sg q 4 = 1)
def OkP (g : Nat) (tol : Int32) (pp : Nat → Nat → Int32) : Prop := g ≤ 7 ∧ rg 0 99 tol ∧ ∀ i, i < g → rg 0 99 (pp i 0) ∧ rg 0 99 (pp i 1)
def OkT (tc : Nat) (tx : Nat → Nat → Int32) (pm : Nat → Nat) : Prop := tc ≤ 60 ∧ (∀ t, t < tc → rg 0 7 (tx t 0) ∧ (tx t 1 = (-9) ∨ rg 0 3 (tx t 1)) ∧ (tx t 2 = (-9) ∨ rg 0 5 (tx t 2)) ∧ rg 0 9999 (tx t 3) ∧ (tx t 4 = 0 ∨ tx t 4 = 1)) ∧ (∀ p, p < tc → pm p < tc) ∧ (∀ t, t < tc → ∃ p, p < tc ∧ pm p = t) ∧ ∀ p q, p < q → q < tc → (tx (pm p) 3).toInt < (tx (pm q) 3).toInt ∨ ((tx (pm p) 3).toInt = (tx (pm q) 3).toInt ∧ pm p < pm q)
def Inv (S : vs) : Prop := ∃ (n : Nat) (yr : Int32) (sd : Nat → Nat → Int32) (g : Nat) (sg : Nat → Nat → Int32) (pc : Nat) (tol : Int32) (pp : Nat → Nat → Int32) (tc : Nat) (tx : Nat → Nat → Int32) (pm : Nat → Nat), (OkS n yr sd ∧ RS n yr sd S ∧ MS n yr sd S) ∧ (OkG g sg ∧ RG g sg S ∧ MG g sg S) ∧ (OkP pc tol pp ∧ RP pc tol pp S ∧ MP pc tol pp S) ∧ (OkT tc tx pm ∧ RT tc tx pm S ∧ MT tc tx S)
theorem Inv.ag {S S' : vs} (h : Inv S) (ha : Ag scr S S') : Inv S' := by
  obtain ⟨n, yr, sd, g, sg, pc, tol, pp, tc, tx, pm, ⟨a1, a2, a3⟩, ⟨b1, b2, b3⟩, ⟨c1, c2, c3⟩, d1, d2, d3⟩ := h
  exact ⟨n, yr, sd, g, sg, pc, tol, pp, tc, tx, pm, ⟨a1, a2.ag ha, a3.ag ha⟩, ⟨b1, b2.ag ha, b3.ag ha⟩, ⟨c1, c2.ag ha, c3.ag ha⟩, d1, d2.ag ha, d3.ag ha⟩
theorem Inv0 : Inv S0 := by
  refine ⟨0, 0, fun _ _ => 0, 0, fun _ _ => 0, 0, 0, fun _ _ => 0, 0, fun _ _ => 0, fun _ => 0, ⟨⟨by omega, ⟨by decide, by decide⟩, fun i h => by omega, fun i h => by omega⟩, ⟨rfl, rfl, rfl, fun i h => by omega, fun i j h => by omega⟩, rfl, rfl, fun i j h => by omega, fun i _ => ⟨rfl, rfl, rfl⟩⟩, ⟨⟨by omega, fun i h => by omega⟩, ⟨rfl, rfl, fun i h => by omega, fun i j h => by omega⟩, rfl, fun i j h => by omega, fun i h => by omega, fun i _ => rfl⟩, ⟨⟨by omega, ⟨by decide, by decide⟩, fun i h => by omega⟩, ⟨rfl, rfl, fun i h => by omega⟩, rfl, rfl, fun i h => by omega⟩, ⟨by omega, fun i h => by omega, fun i h => by omega, fun i h => by omega, fun p q _ h => by omega⟩, ⟨rfl, rfl, fun i h => by omega, fun i h => by omega⟩, rfl, fun i j h => by omega⟩
/-- the reference's first store -/
abbrev T0 (S : vs) : vs := s2 S (0, 1) 0 0
theorem T0_ag (S : vs) : Ag scr S (T0 S) := Ag.put (by unfold scr; simp)
