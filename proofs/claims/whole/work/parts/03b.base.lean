/-! the layer of virtual worlds: keys, values, cells, worlds; a world is held by a heap through a map of keys to addresses -/
abbrev vk : Type := Nat × Nat
abbrev vv : Type := Int32 ⊕ (Int64 ⊕ vk)
abbrev vI (x : Int32) : vv := .inl x
abbrev vJ (x : Int64) : vv := .inr (.inl x)
abbrev vR (k : vk) : vv := .inr (.inr k)
def mv (al : vk → Nat) (v : vv) : Value := match v with
  | .inl x => .int x
  | .inr (.inl x) => .long x
  | .inr (.inr k) => .ref (al k)
def vcat (v : vv) : Nat := match v with
  | .inr (.inl _) => 2
  | _ => 1
theorem mv_cat (al : vk → Nat) (v : vv) : (mv al v).category = vcat v := by
  rcases v with x | x | k <;> rfl
abbrev vf : Type := Int32 ⊕ Option vk
def mf (al : vk → Nat) (v : vf) : Value := match v with
  | .inl x => .int x
  | .inr r => va_rf (r.map al)
abbrev vc : Type := (Nat × List vf) ⊕ (Nat × Nat × ((Nat → Int32) ⊕ (Nat → Option vk)))
def rc (ar : Nat → ClassId) (al : vk → Nat) (c : vc) : va_E := match c with
  | .inl o => .inr (o.1, o.2.map (mf al))
  | .inr (t, n, .inl f) => .inl (ar t, n, .inl f)
  | .inr (t, n, .inr f) => .inl (ar t, n, .inr (.inr (.inr (.inr (fun j => (f j).map al)))))
abbrev vw : Type := vk → Option vc
def vref (c : vc) (r : vk) : Prop := match c with
  | .inl o => Sum.inr (some r) ∈ o.2
  | .inr (_, _, .inl _) => False
  | .inr (_, _, .inr f) => ∃ j, f j = some r
abbrev vg : Type := va_G × (Nat → ClassId) × Nat
def Hol (G : vg) (al : vk → Nat) (w : vw) (H : Heap) : Prop :=
  (∀ k c, w k = some c → va_at G.1 vwCl (al k, rc G.2.1 al c) H) ∧ (∀ j k a b, w j = some a → w k = some b → al j = al k → j = k) ∧ (∀ k c, w k = some c → G.2.2 ≤ al k) ∧ (∀ k c r, w k = some c → vref c r → ∃ d, w r = some d)
def wup (w : vw) (k : vk) (c : vc) : vw := fun j => if j = k then some c else w j
theorem wup_s (w : vw) (k : vk) (c : vc) : wup w k c k = some c := by simp [wup]
theorem wup_n (w : vw) {k j : vk} (c : vc) (h : j ≠ k) : wup w k c j = w j := by simp [wup, h]
/-- a cell changes in place -/
theorem Hol.set {G : vg} {al : vk → Nat} {w : vw} {H H1 : Heap} {k : vk} {c0 c : vc} (h : Hol G al w H) (hk : w k = some c0) (he : va_at G.1 vwCl (al k, rc G.2.1 al c) H1) (oq : ∀ q : Nat, q ≠ al k → H1[q]? = H[q]?) (hr : ∀ r, vref c r → ∃ d, w r = some d) : Hol G al (wup w k c) H1 := by
  obtain ⟨h1, h2, h3, h4⟩ := h
  have dom : ∀ j a, wup w k c j = some a → ∃ b, w j = some b := fun j a hj => by
    by_cases e : j = k
    · subst e; exact ⟨_, hk⟩
    · rw [wup_n w c e] at hj; exact ⟨_, hj⟩
  have cod : ∀ j a, w j = some a → ∃ b, wup w k c j = some b := fun j a hj => by
    by_cases e : j = k
    · subst e; exact ⟨_, wup_s w j c⟩
    · exact ⟨_, (wup_n w c e).trans hj⟩
  refine ⟨fun j a hj => ?_, fun i j a b hi hj e => ?_, fun j a hj => ?_, fun j a r hj hv => ?_⟩
  · by_cases e : j = k
    · subst e
      rw [wup_s] at hj
      cases hj
      exact he
    · rw [wup_n w c e] at hj
      refine (h1 j a hj).kept (oq _ (fun q => e (h2 _ _ _ _ hj hk q)))
  · obtain ⟨a', ha⟩ := dom i a hi
    obtain ⟨b', hb⟩ := dom j b hj
    exact h2 _ _ _ _ ha hb e
  · obtain ⟨b', hb⟩ := dom j a hj
    exact h3 _ _ hb
  · by_cases e : j = k
    · subst e
      rw [wup_s] at hj
      cases hj
      obtain ⟨d, hd⟩ := hr r hv
      exact cod _ _ hd
    · rw [wup_n w c e] at hj
      obtain ⟨d, hd⟩ := h4 _ _ _ hj hv
      exact cod _ _ hd
def aup (al : vk → Nat) (k : vk) (q : Nat) : vk → Nat := fun j => if j = k then q else al j
theorem aup_s (al : vk → Nat) (k : vk) (q : Nat) : aup al k q k = q := by simp [aup]
theorem aup_n (al : vk → Nat) {k j : vk} (q : Nat) (h : j ≠ k) : aup al k q j = al j := by simp [aup, h]
theorem rc_aup {ar : Nat → ClassId} {al : vk → Nat} {k : vk} {q : Nat} {c : vc} (h : ∀ r, vref c r → r ≠ k) : rc ar (aup al k q) c = rc ar al c := by
  rcases c with ⟨ci, fs⟩ | ⟨t, n, f | f⟩
  · show Sum.inr (ci, fs.map (mf (aup al k q))) = Sum.inr (ci, fs.map (mf al))
    congr 2
    refine List.map_congr_left fun x hx => ?_
    rcases x with x | r
    · rfl
    · cases r with
      | none => rfl
      | some r => show va_rf (some (aup al k q r)) = va_rf (some (al r)); rw [aup_n al q (h r hx)]
  · rfl
  · refine congrArg (fun g => (Sum.inl (ar t, n, Sum.inr (Sum.inr (Sum.inr (Sum.inr g)))) : va_E)) (funext fun j => ?_)
    cases hj : f j with
    | none => rfl
    | some r => show some (aup al k q r) = some (al r); rw [aup_n al q (h r ⟨j, hj⟩)]
/-- a new cell -/
theorem Hol.push {G : vg} {al : vk → Nat} {w : vw} {H H1 : Heap} {k : vk} {c : vc} (h : Hol G al w H) (hk : w k = none) (hN : G.2.2 ≤ H.size) (he : va_at G.1 vwCl (H.size, rc G.2.1 al c) H1) (oq : ∀ q : Nat, q < H.size → H1[q]? = H[q]?) (hr : ∀ r, ¬ vref c r) : Hol G (aup al k H.size) (wup w k c) H1 := by
  obtain ⟨h1, h2, h3, h4⟩ := h
  have lt : ∀ j a, w j = some a → al j < H.size := fun j a hj => (h1 j a hj).lt
  have nk : ∀ j a, w j = some a → j ≠ k := fun j a hj e => by subst e; rw [hk] at hj; cases hj
  refine ⟨fun j a hj => ?_, fun i j a b hi hj e => ?_, fun j a hj => ?_, fun j a r hj hv => ?_⟩
  · by_cases e : j = k
    · subst e
      rw [wup_s] at hj
      cases hj
      rw [aup_s, rc_aup (fun r hv => absurd hv (hr r))]
      exact he
    · rw [wup_n w c e] at hj
      rw [aup_n al _ e, rc_aup (fun r hv => by obtain ⟨d, hd⟩ := h4 _ _ _ hj hv; exact nk _ _ hd)]
      exact (h1 j a hj).kept (oq _ (lt _ _ hj))
  · by_cases e1 : i = k <;> by_cases e2 : j = k
    · rw [e1, e2]
    · subst e1
      rw [wup_n w c e2] at hj
      rw [aup_s, aup_n al _ e2] at e
      exact absurd e (Nat.ne_of_gt (lt _ _ hj))
    · subst e2
      rw [wup_n w c e1] at hi
      rw [aup_s, aup_n al _ e1] at e
      exact absurd e (Nat.ne_of_lt (lt _ _ hi))
    · rw [wup_n w c e1] at hi
      rw [wup_n w c e2] at hj
      rw [aup_n al _ e1, aup_n al _ e2] at e
      exact h2 _ _ _ _ hi hj e
  · by_cases e : j = k
    · subst e; rw [aup_s]; exact hN
    · rw [wup_n w c e] at hj
      rw [aup_n al _ e]
      exact h3 _ _ hj
  · by_cases e : j = k
    · subst e
      rw [wup_s] at hj
      cases hj
      exact absurd hv (hr r)
    · rw [wup_n w c e] at hj
      obtain ⟨d, hd⟩ := h4 _ _ _ hj hv
      exact ⟨d, by rw [wup_n w c (nk _ _ hd)]; exact hd⟩
/-- the array classes: ints, booleans, Sides, Signs, Texts, rows of ints -/
abbrev vtys (ar : Nat → ClassId) : List (ClassId × FieldType) := [(ar 0, .int), (ar 1, .boolean), (ar 2, .object RX2), (ar 3, .object RX3), (ar 4, .object RX5), (ar 5, .array .int)]
def KA (U : State) : Prop := va_AO RX2 U ∧ va_AO RX3 U ∧ va_AO RX5 U ∧ (Cond.arrayOver (.array .int)).before #[] U = true
theorem KA.moved {s U : State} (h : KA s) (hv : s.vm.Alike U.vm) : KA U := ⟨h.1.moved hv, h.2.1.moved hv, h.2.2.1.moved hv, Jvm.Stand.arrayOver_alikeB hv h.2.2.2⟩
def Kk (G : vg) (U : State) : Prop := va_K G.1 vwCl (vtys G.2.1) U ∧ va_Nw (.methodLinkNest RX1 52 yX7_holds RX7) U ∧ KA U
theorem Kk.warm {G : vg} {s U : State} (h : Kk G s) (hW : s.WarmedH U.vm) : Kk G U := ⟨va_K.moved hW.alike h.1, va_Nw.warmM hW h.2.1, h.2.2.moved hW.alike⟩
/-- a method: name, code, its locals, what it answers, its room -/
abbrev vmt : Type := MethodName × ByteArray × Nat × Option FieldType × Room
def Sd (G : vg) (M : vmt) (p : Program) (s : State) (m : MethodId) (args : Array Value) (meth : Method) (c : Code) : Prop :=
  p.tables.exec = Jvm.exec ∧ c.code = M.2.1 ∧ meth.sig.returnType = M.2.2.2.1 ∧ c.maxLocals = M.2.2.1 ∧ s.vm.findClass M.1.cls = some m.cls ∧ (∀ w ∈ wsG, w.before args s = true) ∧ meth.locks = false ∧ meth.name = M.1.name ∧ Kk G s ∧ G.2.2 ≤ s.heap.size
def bA (o : Option vw) (al0 al : vk → Nat) : Prop := match o with
  | none => al = al0
  | some w0 => ∀ k c, w0 k = some c → al k = al0 k
theorem bA.rf (o : Option vw) (al : vk → Nat) : bA o al al := by
  cases o with
  | none => rfl
  | some w => exact fun _ _ _ => rfl
def Qp (G : vg) (o : Option vw) (al0 : vk → Nat) (r : Option Int32) (w' : vw) : Array Value → State → Outcome → State → Prop := match r with
  | none => va_Qv (fun u : vk → Nat => bA o al0 u) (fun u t => Hol G u w' t.heap) (fun q : Nat => G.2.2 ≤ q)
  | some x => va_Qi (fun y (u : vk → Nat) => y = x ∧ bA o al0 u) (fun u t => Hol G u w' t.heap) (fun q : Nat => G.2.2 ≤ q)
abbrev vls : Type := List (Nat × vv)
def ml (al : vk → Nat) (L : vls) : List (Nat × Value) := L.map (fun q => (q.1, mv al q.2))
def V {β : Type} (l : Launch) (G : vg) (M : vmt) (o : Option vw) (φ : β → Option Int32 × vw) (res : Option β) (pc : Nat) (L : vls) (st : List vv) (w : vw) (cs sl : Nat) : Prop :=
  ∀ (p : Program) (e : Env) (s : State) (m : MethodId) (args : Array Value) (below : List Frame) (meth : Method) (c : Code) (al0 al : vk → Nat) (H : Heap) (locs : List Loc) (ls : Array Slot),
    Sd G M p s m args meth c → bA o al0 al → Hol G al w H → va_S (fun q : Nat => G.2.2 ≤ q) s.heap H locs → lv_has ls M.2.2.1 (ml al L) → ∀ b : β, res = some b →
      W p l e M.2.2.2.2 s m args below meth c H locs cs sl (MQ below (Qp G o al0 (φ b).1 (φ b).2) args s M.2.2.2.2.cells M.2.2.2.2.slots (fun q : Nat => G.2.2 ≤ q)) (F0 m pc ls (st.map (mv al)))
def vws (M : vmt) : List Cond := Cond.code M.1 M.2.1 M.2.2.1 M.2.2.2.1 :: wsG
def Rt {β : Type} (l : Launch) (G : vg) (M : vmt) (o : Option vw) (φ : β → Option Int32 × vw) (vs : List vv) (w : vw) (res : Option β) : Prop :=
  ∀ (al0 : vk → Nat) (b : β), res = some b → Met l M.1 (vws M) M.2.2.2.2 (va_Pc (vs.map (mv al0)) (fun U => G.2.2 ≤ U.heap.size ∧ Hol G al0 w U.heap ∧ Kk G U)) (Qp G o al0 (φ b).1 (φ b).2) M.2.2.2.2.cells M.2.2.2.2.slots (fun q : Nat => G.2.2 ≤ q)
def lva : Nat → List vv → vls
  | _, [] => []
  | i, v :: vs => (i, v) :: lva (if vcat v = 2 then i + 2 else i + 1) vs
theorem lva_ml (al : vk → Nat) : ∀ (vs : List vv) (i : Nat), lv_args i (vs.map (mv al)) = ml al (lva i vs)
  | [], _ => rfl
  | v :: vs, i => by
    show (i, mv al v) :: lv_args (if (mv al v).category = 2 then i + 2 else i + 1) (vs.map (mv al)) = (i, mv al v) :: ml al (lva (if vcat v = 2 then i + 2 else i + 1) vs)
    rw [mv_cat, lva_ml al vs]
def lvw (vs : List vv) : Nat := (vs.map vcat).sum
theorem lvw_sl (al : vk → Nat) : ∀ vs : List vv, (lg_sl (vs.map (mv al))).length = lvw vs
  | [] => rfl
  | v :: vs => by
    have ih := lvw_sl al vs
    have hv := mv_cat al v
    simp only [lg_sl, List.map_cons, List.flatMap_cons, List.length_append, lvw, List.sum_cons] at ih ⊢
    rw [ih, hv]
    rcases v with x | x | k <;> rfl
set_option maxHeartbeats 1000000 in
/-- a contract out of a walk from the entry -/
theorem Rt.of {β : Type} {l : Launch} {G : vg} {M : vmt} {o : Option vw} {φ : β → Option Int32 × vw} {vs : List vv} {w : vw} {res : Option β} (hy : plainName M.1.cls = true) (hlen : lvw vs ≤ M.2.2.1) (h : V l G M o φ res 0 (lva 0 vs) [] w 0 0) : Rt l G M o φ vs w res := by
  intro al0 b hr
  refine Met.ofW (cc := M.2.1) (maxL := M.2.2.1) (ret := M.2.2.2.1) hy rfl ?_
  intro p e s m args below meth c s₁ B hml hv
  obtain ⟨rfl, hsz, hH, hK⟩ := hv
  have hts := atoms_spec (ws := vws M) B.pre
  have hown : s.vm.findClass M.1.cls = some m.cls := findClass_of_methodNamed B.named
  have hl := lv_entry (vs.map (mv al0)) (n := M.2.2.1) (by rw [lvw_sl]; exact hlen)
  rw [lg_entry_eq]
  rw [lva_ml] at hl
  exact h p e s m _ below meth c al0 al0 s.heap [] _ ⟨B.exec, B.bytes, B.returns, hml, hown, fun w hw => hts w (List.mem_cons_of_mem _ hw), B.notSynchronized, (name_of_methodNamed B.named B.method).1, hK, hsz⟩ (bA.rf o al0) hH va_S.rf hl b hr
