/-- the fixed cells: X7:0, X8:1, X0:2, X4:3, X1:4, X6:5 -/
abbrev fsX7 : List (Option vk) := [some (0, 6), none, none, some (0, 2), some (0, 3), some (0, 4), some (0, 5)]
abbrev fsX8 : List (Option vk) := [none, none, none, some (0, 23), some (0, 24), some (0, 25), some (0, 26), some (0, 27), some (0, 28), some (0, 29), some (0, 30), some (0, 31), some (0, 32), some (0, 33), none, some (0, 34), some (0, 35), some (0, 36), some (0, 37), some (0, 38), none, none, some (0, 39), some (0, 40), none, some (0, 41), some (0, 42), some (0, 43), some (0, 44), some (0, 45), none, some (0, 46), some (0, 47), none, some (0, 48), some (0, 49), some (0, 50)]
abbrev fsX0 : List (Option vk) := [none, none, some (0, 7), some (0, 8), some (0, 9), some (0, 10), some (0, 11), some (0, 12), some (0, 13), some (0, 14), some (0, 15), some (0, 16)]
abbrev fsX4 : List (Option vk) := [some (0, 17), none]
abbrev fsX1 : List (Option vk) := [none, none, some (0, 18), some (0, 19), some (0, 20), some (0, 21)]
abbrev fsX6 : List (Option vk) := [some (0, 22), none]
abbrev fsX2 : List (Option vk) := [none, none, none, none, none, none, none, none, none, none, none]
abbrev fsX3 : List (Option vk) := [none, none, none, none, none]
abbrev fsX5 : List (Option vk) := [none, none, none, none, none]
abbrev vsh : Type := (Nat × List (Option vk)) ⊕ (Nat × Nat × Option (Option (Nat → Option Nat)))
def shp (k : vk) : Option vsh := match k with
  | (0, i) => match i with
    | 0 => some (.inl (7, fsX7))
    | 1 => some (.inl (8, fsX8))
    | 2 => some (.inl (0, fsX0))
    | 3 => some (.inl (4, fsX4))
    | 4 => some (.inl (1, fsX1))
    | 5 => some (.inl (6, fsX6))
    | 6 => some (.inr (2, 16, some none))
    | 7 => some (.inr (0, 6, none))
    | 8 => some (.inr (0, 6, none))
    | 9 => some (.inr (5, 6, some (some (fun j => if j < 6 then some j else none))))
    | 10 => some (.inr (0, 3, none))
    | 11 => some (.inr (0, 64, none))
    | 12 => some (.inr (0, 64, none))
    | 13 => some (.inr (0, 64, none))
    | 14 => some (.inr (0, 64, none))
    | 15 => some (.inr (0, 64, none))
    | 16 => some (.inr (0, 64, none))
    | 17 => some (.inr (3, 60, some none))
    | 18 => some (.inr (0, 7, none))
    | 19 => some (.inr (0, 7, none))
    | 20 => some (.inr (0, 896, none))
    | 21 => some (.inr (0, 896, none))
    | 22 => some (.inr (4, 60, some none))
    | 23 => some (.inr (0, 16, none))
    | 24 => some (.inr (0, 16, none))
    | 25 => some (.inr (0, 16, none))
    | 26 => some (.inr (0, 16, none))
    | 27 => some (.inr (0, 16, none))
    | 28 => some (.inr (0, 16, none))
    | 29 => some (.inr (0, 16, none))
    | 30 => some (.inr (0, 16, none))
    | 31 => some (.inr (0, 16, none))
    | 32 => some (.inr (0, 16, none))
    | 33 => some (.inr (0, 16, none))
    | 34 => some (.inr (0, 60, none))
    | 35 => some (.inr (0, 60, none))
    | 36 => some (.inr (0, 60, none))
    | 37 => some (.inr (0, 60, none))
    | 38 => some (.inr (1, 60, none))
    | 39 => some (.inr (0, 7, none))
    | 40 => some (.inr (0, 7, none))
    | 41 => some (.inr (0, 60, none))
    | 42 => some (.inr (0, 60, none))
    | 43 => some (.inr (0, 60, none))
    | 44 => some (.inr (0, 60, none))
    | 45 => some (.inr (1, 60, none))
    | 46 => some (.inr (0, 6, none))
    | 47 => some (.inr (0, 6, none))
    | 48 => some (.inr (0, 3, none))
    | 49 => some (.inr (0, 896, none))
    | 50 => some (.inr (0, 896, none))
    | _ => none
  | (1, _) => some (.inl (2, fsX2))
  | (2, _) => some (.inl (3, fsX3))
  | (3, _) => some (.inl (5, fsX5))
  | (4, _) => some (.inr (0, 6, none))
  | _ => none
theorem sh0_0 : shp (0, 0) = some (.inl (7, fsX7)) := rfl
theorem sh0_1 : shp (0, 1) = some (.inl (8, fsX8)) := rfl
theorem sh0_2 : shp (0, 2) = some (.inl (0, fsX0)) := rfl
theorem sh0_3 : shp (0, 3) = some (.inl (4, fsX4)) := rfl
theorem sh0_4 : shp (0, 4) = some (.inl (1, fsX1)) := rfl
theorem sh0_5 : shp (0, 5) = some (.inl (6, fsX6)) := rfl
theorem sh0_6 : shp (0, 6) = some (.inr (2, 16, some none)) := rfl
theorem sh0_7 : shp (0, 7) = some (.inr (0, 6, none)) := rfl
theorem sh0_8 : shp (0, 8) = some (.inr (0, 6, none)) := rfl
theorem sh0_9 : shp (0, 9) = some (.inr (5, 6, some (some (fun j => if j < 6 then some j else none)))) := rfl
theorem sh0_10 : shp (0, 10) = some (.inr (0, 3, none)) := rfl
theorem sh0_11 : shp (0, 11) = some (.inr (0, 64, none)) := rfl
theorem sh0_12 : shp (0, 12) = some (.inr (0, 64, none)) := rfl
theorem sh0_13 : shp (0, 13) = some (.inr (0, 64, none)) := rfl
theorem sh0_14 : shp (0, 14) = some (.inr (0, 64, none)) := rfl
theorem sh0_15 : shp (0, 15) = some (.inr (0, 64, none)) := rfl
theorem sh0_16 : shp (0, 16) = some (.inr (0, 64, none)) := rfl
theorem sh0_17 : shp (0, 17) = some (.inr (3, 60, some none)) := rfl
theorem sh0_18 : shp (0, 18) = some (.inr (0, 7, none)) := rfl
theorem sh0_19 : shp (0, 19) = some (.inr (0, 7, none)) := rfl
theorem sh0_20 : shp (0, 20) = some (.inr (0, 896, none)) := rfl
theorem sh0_21 : shp (0, 21) = some (.inr (0, 896, none)) := rfl
theorem sh0_22 : shp (0, 22) = some (.inr (4, 60, some none)) := rfl
theorem sh0_23 : shp (0, 23) = some (.inr (0, 16, none)) := rfl
theorem sh0_24 : shp (0, 24) = some (.inr (0, 16, none)) := rfl
theorem sh0_25 : shp (0, 25) = some (.inr (0, 16, none)) := rfl
theorem sh0_26 : shp (0, 26) = some (.inr (0, 16, none)) := rfl
theorem sh0_27 : shp (0, 27) = some (.inr (0, 16, none)) := rfl
theorem sh0_28 : shp (0, 28) = some (.inr (0, 16, none)) := rfl
theorem sh0_29 : shp (0, 29) = some (.inr (0, 16, none)) := rfl
theorem sh0_30 : shp (0, 30) = some (.inr (0, 16, none)) := rfl
theorem sh0_31 : shp (0, 31) = some (.inr (0, 16, none)) := rfl
theorem sh0_32 : shp (0, 32) = some (.inr (0, 16, none)) := rfl
theorem sh0_33 : shp (0, 33) = some (.inr (0, 16, none)) := rfl
theorem sh0_34 : shp (0, 34) = some (.inr (0, 60, none)) := rfl
theorem sh0_35 : shp (0, 35) = some (.inr (0, 60, none)) := rfl
theorem sh0_36 : shp (0, 36) = some (.inr (0, 60, none)) := rfl
theorem sh0_37 : shp (0, 37) = some (.inr (0, 60, none)) := rfl
theorem sh0_38 : shp (0, 38) = some (.inr (1, 60, none)) := rfl
theorem sh0_39 : shp (0, 39) = some (.inr (0, 7, none)) := rfl
theorem sh0_40 : shp (0, 40) = some (.inr (0, 7, none)) := rfl
theorem sh0_41 : shp (0, 41) = some (.inr (0, 60, none)) := rfl
theorem sh0_42 : shp (0, 42) = some (.inr (0, 60, none)) := rfl
theorem sh0_43 : shp (0, 43) = some (.inr (0, 60, none)) := rfl
theorem sh0_44 : shp (0, 44) = some (.inr (0, 60, none)) := rfl
theorem sh0_45 : shp (0, 45) = some (.inr (1, 60, none)) := rfl
theorem sh0_46 : shp (0, 46) = some (.inr (0, 6, none)) := rfl
theorem sh0_47 : shp (0, 47) = some (.inr (0, 6, none)) := rfl
theorem sh0_48 : shp (0, 48) = some (.inr (0, 3, none)) := rfl
theorem sh0_49 : shp (0, 49) = some (.inr (0, 896, none)) := rfl
theorem sh0_50 : shp (0, 50) = some (.inr (0, 896, none)) := rfl
/-- a state: the ints by cell and place, the references by cell and place (numbers of the kind that the array holds), how many Sides, Signs, Texts there are -/
abbrev vs : Type := (vk → Nat → Int32) × (vk → Nat → Option Nat) × (Nat × Nat × Nat)
def kdt (t : Nat) : Nat := t - 1
def fenc (f : Nat → Int32) : Nat → List (Option vk) → List vf
  | _, [] => []
  | j, none :: t => .inl (f j) :: fenc f (j + 1) t
  | j, some r :: t => .inr (some r) :: fenc f (j + 1) t
def renc (t : Nat) (g : Nat → Option Nat) : Nat → Option vk := fun j => (g j).map (fun i => (kdt t, i))
def cenc (f : Nat → Int32) (g : Nat → Option Nat) (h : vsh) : vc := match h with
  | .inl (ci, fs) => .inl (ci, fenc f 0 fs)
  | .inr (t, n, none) => .inr (t, n, .inl f)
  | .inr (t, n, some none) => .inr (t, n, .inr (renc t g))
  | .inr (t, n, some (some g')) => .inr (t, n, .inr (renc t g'))
def alv (d : Nat × Nat × Nat) (k : vk) : Bool := match k with
  | (0, _) => true
  | (1, i) => decide (i < d.1)
  | (2, i) => decide (i < d.2.1)
  | (3, i) => decide (i < d.2.2)
  | (_, i) => decide (i < 6)
def enc (S : vs) : vw := fun k => if alv S.2.2 k = true then (shp k).map (cenc (S.1 k) (S.2.1 k)) else none
theorem enc_at {S : vs} {k : vk} {h : vsh} (ha : alv S.2.2 k = true) (hs : shp k = some h) : enc S k = some (cenc (S.1 k) (S.2.1 k) h) := by
  unfold enc; rw [if_pos ha, hs]; rfl
/-- a place is set -/
def s2 (S : vs) (k : vk) (j : Nat) (x : Int32) : vs := (fun k' => if k' = k then upd (S.1 k) j x else S.1 k', S.2)
def r2 (S : vs) (k : vk) (j : Nat) (i : Nat) : vs := (S.1, fun k' => if k' = k then (fun j' => if j' = j then some i else S.2.1 k j') else S.2.1 k', S.2.2)
theorem s2_2 (S : vs) (k : vk) (j : Nat) (x : Int32) : (s2 S k j x).2 = S.2 := rfl
theorem s2_s (S : vs) (k : vk) (j : Nat) (x : Int32) : (s2 S k j x).1 k j = x := by simp [s2, upd]
theorem s2_k (S : vs) (k : vk) (j : Nat) (x : Int32) : (s2 S k j x).1 k = upd (S.1 k) j x := by simp [s2]
theorem s2_n (S : vs) {k k' : vk} (j : Nat) (x : Int32) (h : k' ≠ k) : (s2 S k j x).1 k' = S.1 k' := by simp [s2, h]
theorem s2_j (S : vs) (k : vk) {j j' : Nat} (x : Int32) (h : j' ≠ j) : (s2 S k j x).1 k j' = S.1 k j' := by simp [s2, upd, h]
theorem fenc_get (f : Nat → Int32) : ∀ (fs : List (Option vk)) (i p : Nat), fs[p]? = some none → (fenc f i fs)[p]? = some (.inl (f (i + p)))
  | [], i, p, h => by simp at h
  | x :: t, i, 0, h => by
    have : x = none := by simpa using h
    subst this
    rfl
  | x :: t, i, p + 1, h => by
    have ih := fenc_get f t (i + 1) p (by simpa using h)
    have e : i + 1 + p = i + (p + 1) := by omega
    rw [e] at ih
    cases x <;> exact ih
theorem fenc_ref (f : Nat → Int32) {r : vk} : ∀ (fs : List (Option vk)) (i p : Nat), fs[p]? = some (some r) → (fenc f i fs)[p]? = some (.inr (some r))
  | [], i, p, h => by simp at h
  | x :: t, i, 0, h => by
    have : x = some r := by simpa using h
    subst this
    rfl
  | x :: t, i, p + 1, h => by
    have ih := fenc_ref f t (i + 1) p (by simpa using h)
    cases x <;> exact ih
theorem fenc_len (f : Nat → Int32) : ∀ (fs : List (Option vk)) (i : Nat), (fenc f i fs).length = fs.length
  | [], i => rfl
  | x :: t, i => by
    have ih := fenc_len f t (i + 1)
    cases x <;> (show _ + 1 = _ + 1; rw [ih])
theorem fenc_cong {f g : Nat → Int32} : ∀ (fs : List (Option vk)) (i : Nat), (∀ p, f (i + p) = g (i + p)) → fenc f i fs = fenc g i fs
  | [], i, h => rfl
  | x :: t, i, h => by
    have ih := fenc_cong (f := f) (g := g) t (i + 1) (fun p => by have := h (1 + p); rw [← Nat.add_assoc] at this; exact this)
    cases x with
    | none => show Sum.inl (f i) :: fenc f (i + 1) t = Sum.inl (g i) :: fenc g (i + 1) t; rw [ih, show f i = g i from h 0]
    | some r => show Sum.inr (some r) :: fenc f (i + 1) t = Sum.inr (some r) :: fenc g (i + 1) t; rw [ih]
theorem fenc_set (f : Nat → Int32) (x : Int32) : ∀ (fs : List (Option vk)) (i p : Nat), fs[p]? = some none → fenc (upd f (i + p) x) i fs = (fenc f i fs).set p (.inl x)
  | [], i, p, h => by simp at h
  | y :: t, i, 0, h => by
    have : y = none := by simpa using h
    subst this
    show Sum.inl (upd f (i + 0) x i) :: fenc (upd f (i + 0) x) (i + 1) t = Sum.inl x :: fenc f (i + 1) t
    rw [fenc_cong (f := upd f (i + 0) x) (g := f) t (i + 1) (fun p => by unfold upd; rw [if_neg (by omega)])]
    unfold upd
    rw [if_pos (by omega)]
  | y :: t, i, p + 1, h => by
    have ih := fenc_set f x t (i + 1) p (by simpa using h)
    have e : i + 1 + p = i + (p + 1) := by omega
    rw [e] at ih
    cases y with
    | none =>
      show Sum.inl (upd f (i + (p + 1)) x i) :: fenc (upd f (i + (p + 1)) x) (i + 1) t = Sum.inl (f i) :: (fenc f (i + 1) t).set p (.inl x)
      rw [ih]
      unfold upd
      rw [if_neg (by omega)]
    | some r =>
      show Sum.inr (some r) :: fenc (upd f (i + (p + 1)) x) (i + 1) t = Sum.inr (some r) :: (fenc f (i + 1) t).set p (.inl x)
      rw [ih]
theorem enc_ne {S S' : vs} {k k' : vk} (h : k' ≠ k) (h1 : S'.1 k' = S.1 k') (h2 : S'.2.1 k' = S.2.1 k') (h3 : S'.2.2 = S.2.2) (c : vc) (hk : k' ≠ k) : wup (enc S) k c k' = enc S' k' := by
  rw [wup_n _ _ hk]
  unfold enc
  rw [h1, h2, h3]
theorem enc_setf {S : vs} {k : vk} {ci j : Nat} {fs : List (Option vk)} {x : Int32} (ha : alv S.2.2 k = true) (hs : shp k = some (.inl (ci, fs))) (hf : fs[j]? = some none) : wup (enc S) k (.inl (ci, (fenc (S.1 k) 0 fs).set j (.inl x))) = enc (s2 S k j x) := by
  funext k'
  by_cases h : k' = k
  · subst h
    have e := fenc_set (S.1 k') x fs 0 j hf
    rw [Nat.zero_add] at e
    rw [wup_s, enc_at (S := s2 S k' j x) ha hs, s2_k, ← e]
    rfl
  · exact enc_ne h (s2_n S j x h) rfl rfl _ h
theorem enc_seta {S : vs} {k : vk} {t n j : Nat} {x : Int32} (ha : alv S.2.2 k = true) (hs : shp k = some (.inr (t, n, none))) : wup (enc S) k (.inr (t, n, .inl (upd (S.1 k) j x))) = enc (s2 S k j x) := by
  funext k'
  by_cases h : k' = k
  · subst h
    rw [wup_s, enc_at (S := s2 S k' j x) ha hs, s2_k]
    rfl
  · exact enc_ne h (s2_n S j x h) rfl rfl _ h
theorem enc_setr {S : vs} {k : vk} {t n j i : Nat} (ha : alv S.2.2 k = true) (hs : shp k = some (.inr (t, n, some none))) : wup (enc S) k (.inr (t, n, .inr (rup (renc t (S.2.1 k)) j (kdt t, i)))) = enc (r2 S k j i) := by
  funext k'
  by_cases h : k' = k
  · subst h
    rw [wup_s, enc_at (S := r2 S k' j i) ha hs]
    show some (Sum.inr (t, n, Sum.inr (rup (renc t (S.2.1 k')) j (kdt t, i)))) = some (Sum.inr (t, n, Sum.inr (renc t ((r2 S k' j i).2.1 k'))))
    have e : rup (renc t (S.2.1 k')) j (kdt t, i) = renc t ((r2 S k' j i).2.1 k') := by
      funext q
      by_cases hq : q = j
      · simp [rup, renc, r2, hq]
      · simp [rup, renc, r2, hq]
    rw [e]
  · exact enc_ne (S := S) (S' := r2 S k j i) h rfl (by simp [r2, h]) rfl _ h
/-- the length of an array of ints, of booleans -/
def alen (t : Nat) (d : Nat × Nat × Nat) (k : vk) : Nat := if alv d k = true then (match shp k with
  | some (.inr (t', n, none)) => if t' = t then n else 0
  | _ => 0) else 0
theorem alen_at {t : Nat} {d : Nat × Nat × Nat} {k : vk} {i : Int32} (h : inb i (alen t d k) = true) : alv d k = true ∧ shp k = some (.inr (t, alen t d k, none)) := by
  have hp : 0 < alen t d k := by
    unfold inb at h
    rw [Bool.and_eq_true, decide_eq_true_eq, decide_eq_true_eq] at h
    omega
  unfold alen at hp ⊢
  by_cases ha : alv d k = true
  · rw [if_pos ha] at hp ⊢
    refine ⟨ha, ?_⟩
    match hs : shp k with
    | none => rw [hs] at hp; simp at hp
    | some (.inl _) => rw [hs] at hp; simp at hp
    | some (.inr (t', n, none)) =>
      rw [hs] at hp
      by_cases ht : t' = t
      · subst ht; simp
      · simp [ht] at hp
    | some (.inr (t', n, some g)) => rw [hs] at hp; simp at hp
  · rw [if_neg ha] at hp
    omega
/-- the number that an array of references holds -/
def rget (t : Nat) (S : vs) (k : vk) (i : Int32) : Option Nat := if alv S.2.2 k = true then (match shp k with
  | some (.inr (t', n, some none)) => if t' = t ∧ inb i n = true then S.2.1 k i.toNatClampNeg else none
  | some (.inr (t', n, some (some g))) => if t' = t ∧ inb i n = true then g i.toNatClampNeg else none
  | _ => none) else none
theorem rget_at {t : Nat} {S : vs} {k : vk} {i : Int32} {q : Nat} (h : rget t S k i = some q) : ∃ (n : Nat) (g : Nat → Option Nat), enc S k = some (.inr (t, n, .inr (renc t g))) ∧ inb i n = true ∧ g i.toNatClampNeg = some q := by
  unfold rget at h
  by_cases ha : alv S.2.2 k = true
  · rw [if_pos ha] at h
    match hs : shp k with
    | none => rw [hs] at h; simp at h
    | some (.inl _) => rw [hs] at h; simp at h
    | some (.inr (t', n, none)) => rw [hs] at h; simp at h
    | some (.inr (t', n, some none)) =>
      rw [hs] at h
      by_cases hc : t' = t ∧ inb i n = true
      · obtain ⟨rfl, hi⟩ := hc
        simp only [hi, and_self, if_true] at h
        exact ⟨n, S.2.1 k, by rw [enc_at ha hs]; rfl, hi, h⟩
      · simp [hc] at h
    | some (.inr (t', n, some (some g))) =>
      rw [hs] at h
      by_cases hc : t' = t ∧ inb i n = true
      · obtain ⟨rfl, hi⟩ := hc
        simp only [hi, and_self, if_true] at h
        exact ⟨n, g, by rw [enc_at ha hs]; rfl, hi, h⟩
      · simp [hc] at h
  · rw [if_neg ha] at h
    cases h
/-- what a method answers: an int and a state; an int alone (the state stays); a state alone -/
def phI (a : Int32 × vs) : Option Int32 × vw := (some a.1, enc a.2)
def phP (S : vs) (a : Int32) : Option Int32 × vw := (some a, enc S)
def phV (S : vs) : Option Int32 × vw := (none, enc S)
/-- an int that is a boolean -/
def zb (x : Int32) : Bool := decide (x = 0) || decide (x = 1)
theorem zb_n {x : Int32} (h : zb x = true) : narrow .boolean (.int x) = .int x := by
  unfold zb at h
  rw [Bool.or_eq_true, decide_eq_true_eq, decide_eq_true_eq] at h
  rcases h with rfl | rfl <;> rfl
theorem zb_f {x : Int32} (h : zb x = true) : fits .boolean (.int x) = true := by
  unfold zb at h
  rw [Bool.or_eq_true, decide_eq_true_eq, decide_eq_true_eq] at h
  rcases h with rfl | rfl <;> rfl
section VState
variable {l : Launch} {G : vg} {M : vmt} {o : Option vw} {β : Type} {φ : β → Option Int32 × vw} {res A B : Option β} {pc : Nat} {L : vls} {st : List vv} {S : vs} {cs sl : Nat}
theorem V.lsub {w : vw} {L' : vls} (ks : List Nat) (h : ks.filterMap (fun k => L[k]?) = L') (k : V l G M o φ res pc L' st w cs sl) : V l G M o φ res pc L st w cs sl := by
  subst h
  intro p e s m args below meth c al0 al H locs ls S hB hH hS hl b hr
  refine k p e s m args below meth c al0 al H locs ls S hB hH hS ⟨hl.1, hl.2.1, fun q hq => ?_⟩ b hr
  obtain ⟨x, hx, rfl⟩ := List.mem_map.mp hq
  obtain ⟨i, -, hi⟩ := List.mem_filterMap.mp hx
  exact hl.2.2 _ (List.mem_map.mpr ⟨x, List.mem_of_getElem? hi, rfl⟩)
theorem V.sgI {k : vk} {idx : Nat} (ci j : Nat) {fs : List (Option vk)} (hd : decode M.2.1 pc = .ok (.getfield idx, 3)) (hg : gfl M.1.cls idx ci j) (hs : shp k = some (.inl (ci, fs))) (hf : fs[j]? = some none) (ha : alv S.2.2 k = true) (kk : V l G M o φ res (pc + 3) L (vI (S.1 k j) :: st) (enc S) cs sl) : V l G M o φ res pc L (vR k :: st) (enc S) cs sl :=
  V.getI ci j hd hg (enc_at ha hs) (by rw [fenc_get _ fs 0 j hf, Nat.zero_add]) kk
theorem V.sgR {k r : vk} {idx : Nat} (ci j : Nat) {fs : List (Option vk)} (hd : decode M.2.1 pc = .ok (.getfield idx, 3)) (hg : gfl M.1.cls idx ci j) (hs : shp k = some (.inl (ci, fs))) (hf : fs[j]? = some (some r)) (ha : alv S.2.2 k = true) (kk : V l G M o φ res (pc + 3) L (vR r :: st) (enc S) cs sl) : V l G M o φ res pc L (vR k :: st) (enc S) cs sl :=
  V.getR ci j hd hg (enc_at ha hs) (fenc_ref _ fs 0 j hf) kk
theorem V.spX {k : vk} {idx : Nat} (ci j : Nat) {fs : List (Option vk)} {x : Int32} {ty : FieldType} {fin : Bool} (hd : decode M.2.1 pc = .ok (.putfield idx, 3)) (hg : pfl M.1.cls idx ci j ty fin) (hini : fin = true → M.1.name = "<init>" ∧ ∃ T N, vwCl[ci]? = some (M.1.cls, T, N)) (hs : shp k = some (.inl (ci, fs))) (hf : fs[j]? = some none) (ha : alv S.2.2 k = true) (hn : narrow ty (.int x) = .int x) (hfit : fits ty (.int x) = true) (kk : V l G M o φ res (pc + 3) L st (enc (s2 S k j x)) cs sl) : V l G M o φ res pc L (vI x :: vR k :: st) (enc S) cs sl := by
  refine V.putX ci j (u := .inl x) hd hg hini (enc_at ha hs) ?_ (fun _ => rfl) (fun _ => hn) (fun _ => hfit) (fun _ h => by cases h) ?_
  · rw [fenc_len]
    exact (List.getElem?_eq_some_iff.mp hf).1
  · rw [enc_setf ha hs hf]
    exact kk
theorem V.spI {k : vk} {idx : Nat} (ci j : Nat) {fs : List (Option vk)} {x : Int32} (hd : decode M.2.1 pc = .ok (.putfield idx, 3)) (hg : pfl M.1.cls idx ci j .int false) (hs : shp k = some (.inl (ci, fs))) (hf : fs[j]? = some none) (ha : alv S.2.2 k = true) (kk : V l G M o φ res (pc + 3) L st (enc (s2 S k j x)) cs sl) : V l G M o φ res pc L (vI x :: vR k :: st) (enc S) cs sl :=
  V.spX ci j hd hg (fun h => by cases h) hs hf ha rfl rfl kk
theorem V.spZ {k : vk} {idx : Nat} (ci j : Nat) {fs : List (Option vk)} {x : Int32} (hd : decode M.2.1 pc = .ok (.putfield idx, 3)) (hg : pfl M.1.cls idx ci j .boolean false) (hs : shp k = some (.inl (ci, fs))) (hf : fs[j]? = some none) (ha : alv S.2.2 k = true) (hx : zb x = true) (kk : V l G M o φ res (pc + 3) L st (enc (s2 S k j x)) cs sl) : V l G M o φ res pc L (vI x :: vR k :: st) (enc S) cs sl :=
  V.spX ci j hd hg (fun h => by cases h) hs hf ha (zb_n hx) (zb_f hx) kk
theorem V.sia {k : vk} {i : Int32} (hd : decode M.2.1 pc = .ok (.iaload, 1)) (hi : inb i (alen 0 S.2.2 k) = true) (kk : V l G M o φ res (pc + 1) L (vI (S.1 k i.toNatClampNeg) :: st) (enc S) cs sl) : V l G M o φ res pc L (vI i :: vR k :: st) (enc S) cs sl :=
  V.iald hd (enc_at (alen_at hi).1 (alen_at hi).2) hi kk
theorem V.sza {k : vk} {i : Int32} (hd : decode M.2.1 pc = .ok (.baload, 1)) (hi : inb i (alen 1 S.2.2 k) = true) (kk : V l G M o φ res (pc + 1) L (vI (S.1 k i.toNatClampNeg) :: st) (enc S) cs sl) : V l G M o φ res pc L (vI i :: vR k :: st) (enc S) cs sl :=
  V.zald hd (enc_at (alen_at hi).1 (alen_at hi).2) hi kk
theorem V.sis {k : vk} {i x : Int32} (hd : decode M.2.1 pc = .ok (.iastore, 1)) (hi : inb i (alen 0 S.2.2 k) = true) (kk : V l G M o φ res (pc + 1) L st (enc (s2 S k i.toNatClampNeg x)) cs sl) : V l G M o φ res pc L (vI x :: vI i :: vR k :: st) (enc S) cs sl := by
  refine V.iast hd (enc_at (alen_at hi).1 (alen_at hi).2) hi ?_
  rw [enc_seta (alen_at hi).1 (alen_at hi).2]
  exact kk
theorem V.szs {k : vk} {i x : Int32} (hd : decode M.2.1 pc = .ok (.bastore, 1)) (hi : inb i (alen 1 S.2.2 k) = true) (hx : zb x = true) (kk : V l G M o φ res (pc + 1) L st (enc (s2 S k i.toNatClampNeg x)) cs sl) : V l G M o φ res pc L (vI x :: vI i :: vR k :: st) (enc S) cs sl := by
  refine V.zast hd (enc_at (alen_at hi).1 (alen_at hi).2) hi (zb_n hx) ?_
  rw [enc_seta (alen_at hi).1 (alen_at hi).2]
  exact kk
theorem V.saa {k : vk} {t q : Nat} {ty : FieldType} {i : Int32} (hd : decode M.2.1 pc = .ok (.aaload, 1)) (ht : (vtys G.2.1)[t]? = some (G.2.1 t, ty)) (hty : ty.isReference = true) (hq : rget t S k i = some q) (kk : V l G M o φ res (pc + 1) L (vR (kdt t, q) :: st) (enc S) cs sl) : V l G M o φ res pc L (vI i :: vR k :: st) (enc S) cs sl := by
  obtain ⟨n, g, h1, h2, h3⟩ := rget_at hq
  exact V.aald hd ht hty h1 h2 (by unfold renc; rw [h3]; rfl) kk
/-- a reference is stored -/
theorem V.sas {k : vk} {t n ci q : Nat} {C : String} {T : u_T} {N : Nat} {fs : List (Option vk)} {i : Int32} (hd : decode M.2.1 pc = .ok (.aastore, 1)) (ht : (vtys G.2.1)[t]? = some (G.2.1 t, .object C)) (hc : vwCl[ci]? = some (C, T, N)) (ha : alv S.2.2 k = true) (hs : shp k = some (.inr (t, n, some none))) (hi : inb i n = true) (ha2 : alv S.2.2 (kdt t, q) = true) (hs2 : shp (kdt t, q) = some (.inl (ci, fs))) (kk : V l G M o φ res (pc + 1) L st (enc (r2 S k i.toNatClampNeg q)) cs sl) : V l G M o φ res pc L (vR (kdt t, q) :: vI i :: vR k :: st) (enc S) cs sl := by
  refine V.aast hd ht hc (enc_at ha hs) hi (enc_at ha2 hs2) ?_
  rw [enc_setr ha hs]
  exact kk
theorem V.sbind {γ : Type} {x : Option γ} {K : γ → Option β} {w : vw} (h : ∀ a, x = some a → V l G M o φ (K a) pc L st w cs sl) : V l G M o φ (x.bind K) pc L st w cs sl := by
  cases x with
  | none => exact V.nil
  | some a => exact h a rfl
end VState
