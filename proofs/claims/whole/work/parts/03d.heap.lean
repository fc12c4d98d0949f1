section VHeap
variable {l : Launch} {G : vg} {M : vmt} {o : Option vw} {β : Type} {φ : β → Option Int32 × vw} {res A B : Option β} {pc : Nat} {L : vls} {st : List vv} {w : vw} {cs sl : Nat}
theorem va_P1 {D : va_G} {cl : List vw_C} {q : Nat × va_E} {H : Heap} (h : va_at D cl q H) : va_P D cl [q] H := fun i x hi => by
  cases i with
  | zero => cases hi; exact h
  | succ n => simp at hi
/-- a field's link: entry idx of class own is the field j of the class ci -/
def gfl (own : String) (idx ci j : Nat) : Prop := ∃ (C : String) (T : u_T) (N : Nat), vwCl[ci]? = some (C, T, N) ∧ j < N ∧ (∀ w ∈ u_ws C T N, w ∈ wsG) ∧ Cond.fieldLink own idx (T j).1 (T j).2.1 (T j).2.2.1 ∈ wsG
theorem V.getI {k : vk} {idx : Nat} (ci j : Nat) {fs : List vf} {x : Int32} (hd : decode M.2.1 pc = .ok (.getfield idx, 3)) (hg : gfl M.1.cls idx ci j) (hw : w k = some (.inl (ci, fs))) (hf : fs[j]? = some (.inl x)) (kk : V l G M o φ res (pc + 3) L (vI x :: st) w cs sl) : V l G M o φ res pc L (vR k :: st) w cs sl := by
  intro p e s m args below meth c al0 al H locs ls S hB hH hS hl b hr
  obtain ⟨C, T, N, hc, hj, hin, hlk⟩ := hg
  have ha : va_at G.1 vwCl (al k, .inr (ci, fs.map (mf al))) H := hH.1 _ _ hw
  exact va_get S.1 S.2.1 S.2.2.2.2.2.1 hin S.2.2.2.2.1 S.2.2.2.2.2.2.2.2.1.1 (va_P1 ha) 0 rfl hc j hj (S.2.2.2.2.2.1 _ hlk) (fun x h => h) (v := .int x) (by rw [List.getElem?_map, hf]; rfl) hd (kk p e s m args below meth c al0 al H locs ls S hB hH hS hl b hr)
theorem V.getR {k k2 : vk} {idx : Nat} (ci j : Nat) {fs : List vf} (hd : decode M.2.1 pc = .ok (.getfield idx, 3)) (hg : gfl M.1.cls idx ci j) (hw : w k = some (.inl (ci, fs))) (hf : fs[j]? = some (.inr (some k2))) (kk : V l G M o φ res (pc + 3) L (vR k2 :: st) w cs sl) : V l G M o φ res pc L (vR k :: st) w cs sl := by
  intro p e s m args below meth c al0 al H locs ls S hB hH hS hl b hr
  obtain ⟨C, T, N, hc, hj, hin, hlk⟩ := hg
  have ha : va_at G.1 vwCl (al k, .inr (ci, fs.map (mf al))) H := hH.1 _ _ hw
  exact va_get S.1 S.2.1 S.2.2.2.2.2.1 hin S.2.2.2.2.1 S.2.2.2.2.2.2.2.2.1.1 (va_P1 ha) 0 rfl hc j hj (S.2.2.2.2.2.1 _ hlk) (fun x h => h) (v := .ref (al k2)) (by rw [List.getElem?_map, hf]; rfl) hd (kk p e s m args below meth c al0 al H locs ls S hB hH hS hl b hr)
/-- the same for a store -/
def pfl (own : String) (idx ci j : Nat) (ty : FieldType) (fin : Bool) : Prop := ∃ (C : String) (T : u_T) (N : Nat) (ty0 : Nat → FieldType), vwCl[ci]? = some (C, T, N) ∧ j < N ∧ (∀ w ∈ u_ws C T N, w ∈ wsG) ∧ Cond.fieldLink own idx (T j).1 (T j).2.1 (T j).2.2.1 ∈ wsG ∧ (∀ k, k < N → parseFieldDescriptor (T k).2.2.1 = some (ty0 k)) ∧ (∀ a, a < N → ∀ b, b < N → a ≠ b → (T a).2.1 ≠ (T b).2.1) ∧ ty0 j = ty ∧ (T j).2.2.2 = fin ∧ (T j).1 = C
set_option maxHeartbeats 1000000 in
theorem V.putX {k : vk} {idx : Nat} (ci j : Nat) {fs : List vf} {v : vv} {u : vf} {ty : FieldType} {fin : Bool} (hd : decode M.2.1 pc = .ok (.putfield idx, 3)) (hg : pfl M.1.cls idx ci j ty fin) (hini : fin = true → M.1.name = "<init>" ∧ ∃ T N, vwCl[ci]? = some (M.1.cls, T, N)) (hw : w k = some (.inl (ci, fs))) (hjl : j < fs.length) (hvu : ∀ al, mv al v = mf al u) (hn : ∀ al, narrow ty (mv al v) = mv al v) (hfit : ∀ al, fits ty (mv al v) = true) (hr0 : ∀ r, u = .inr (some r) → ∃ d, w r = some d)
    (kk : V l G M o φ res (pc + 3) L st (wup w k (.inl (ci, fs.set j u))) cs sl) : V l G M o φ res pc L (v :: vR k :: st) w cs sl := by
  intro p e s m args below meth c al0 al H locs ls S hB hH hS hl b hr
  obtain ⟨C, T, N, ty0, hc, hj, hin, hlk, hty, hnm, hty1, hfin, hdecl⟩ := hg
  have hts := S.2.2.2.2.2.1
  have hK := S.2.2.2.2.2.2.2.2.1.1
  have hown := S.2.2.2.2.1
  have hap := va_apart (own := M.1.cls) hts hin ty0 hty hnm hK hc
  have ha : va_at G.1 vwCl (al k, .inr (ci, fs.map (mf al))) H := hH.1 _ _ hw
  obtain ⟨r', h1, cell, q1, q2, q3, q4⟩ := ha
  have hr' : r' = (C, T, N) := Option.some.inj (h1.symm.trans hc)
  subst hr'
  obtain ⟨hSl, hfc, kC, hkC, hkind⟩ := hK.1 ci _ hc
  obtain ⟨cf, kf, fi, f, hi, hsl⟩ := hSl j hj
  have hlay := hts _ (hin _ (u_in_lay hj))
  have hst := (u_facts hfc hkC (u_lays hts hin hj) hi).1
  have hdty : parseFieldDescriptor (T j).2.2.1 = some ty := by rw [hty j hj, hty1]
  have fin1 : ∀ H' : Heap, H'[al k]? = some (cell.setSlot (G.1.2 ci j) (mv al v)) → H'.size = H.size → (∀ q, q ≠ al k → H'[q]? = H[q]?) → W p l e M.2.2.2.2 s m args below meth c H' (locs ++ [⟨al k, G.1.2 ci j⟩]) cs sl (MQ below (Qp G o al0 (φ b).1 (φ b).2) args s M.2.2.2.2.cells M.2.2.2.2.slots (fun q : Nat => G.2.2 ≤ q)) (F0 m (pc + 3) ls (st.map (mv al))) := by
    intro H' e1 e2 e3
    refine kk p e s m args below meth c al0 al H' _ ls S hB (hH.set hw ?_ e3 ?_) (hS.put e2 e3 (hH.2.2.1 _ _ hw)) hl b hr
    · refine ⟨_, hc, t_OB.to (V := updV (vp_V (fs.map (mf al))) j (mv al v)) ⟨_, e1, q2, q3, t_set q4 hap hj (mv al v)⟩ (fun i _ => ?_)⟩
      rw [vp_updV_set (by rw [List.length_map]; exact hjl), hvu al, ← List.map_set]
    · intro r0 hv
      rcases List.mem_or_eq_of_mem_set hv with h | h
      · exact hH.2.2.2 _ _ _ hw h
      · exact hr0 r0 h.symm
  unfold u_lay at hlay
  cases fin with
  | false =>
    rw [if_neg (by rw [hfin]; decide)] at hlay
    have h6 := u_store hfc hkC hkind hlay hi hdty (hn al) (hfit al)
    refine W.putK S.1 S.2.1 (f := f) ⟨hown, hts _ hlk, ⟨_, _, _, hi⟩, hst⟩ (by rw [q2]; exact h6) q1 q3 (by rw [hsl]; exact k2_hasslot (q4 j hj)) rfl rfl hd fun H' e1 e2 e3 => ?_
    rw [hsl] at e1 ⊢
    exact fin1 H' e1 e2 e3
  | true =>
    rw [if_pos hfin] at hlay
    obtain ⟨hnam, T9, N9, hc9⟩ := hini rfl
    have hCo : C = M.1.cls := by have := hc.symm.trans hc9; simp at this; exact this.1
    have hcf : m.cls = cf := by
      obtain ⟨_, _, c', _, _, _, -, -, hf', -, -, -, hown2, -⟩ := Cond.laysFinal_spec hlay
      have e1 : c' = cf := by have := hi.symm.trans hf'; simp at this; exact this.1.symm
      rw [hdecl, hCo] at hown2
      rw [← e1]; exact Option.some.inj (hown.symm.trans hown2)
    have h6 := u_fits hfc hkC hkind (Or.inr hlay) hi hdty (hn al) (hfit al)
    refine W.putFinK S.1 S.2.1 hown (hts _ hlk) hi hst hcf (S.2.2.2.2.2.2.2.1.trans hnam) (by rw [q2]; exact h6) q1 q3 (by rw [hsl]; exact k2_hasslot (q4 j hj)) rfl rfl hd fun H' e1 e2 e3 => ?_
    rw [hsl] at e1 ⊢
    exact fin1 H' e1 e2 e3
theorem V.putI {k : vk} {idx : Nat} (ci j : Nat) {fs : List vf} {x : Int32} (hd : decode M.2.1 pc = .ok (.putfield idx, 3)) (hg : pfl M.1.cls idx ci j .int false) (hw : w k = some (.inl (ci, fs))) (hjl : j < fs.length)
    (kk : V l G M o φ res (pc + 3) L st (wup w k (.inl (ci, fs.set j (.inl x)))) cs sl) : V l G M o φ res pc L (vI x :: vR k :: st) w cs sl :=
  V.putX ci j hd hg (fun h => by cases h) hw hjl (fun _ => rfl) (fun _ => rfl) (fun _ => rfl) (fun _ h => by cases h) kk
/-- indexes -/
def inb (i : Int32) (n : Nat) : Bool := decide (0 ≤ i) && decide (i.toNatClampNeg < n)
theorem inb_in {i : Int32} {n : Nat} (h : inb i n = true) : vp_in i n := by
  unfold inb at h
  rw [Bool.and_eq_true, decide_eq_true_eq, decide_eq_true_eq] at h
  intro q
  rcases q with q | q
  · exact absurd h.1 (Int32.not_le.mpr q)
  · omega
theorem V.iald {k : vk} {n : Nat} {f : Nat → Int32} {i : Int32} (hd : decode M.2.1 pc = .ok (.iaload, 1)) (hw : w k = some (.inr (0, n, .inl f))) (hi : inb i n = true) (kk : V l G M o φ res (pc + 1) L (vI (f i.toNatClampNeg) :: st) w cs sl) : V l G M o φ res pc L (vI i :: vR k :: st) w cs sl := by
  intro p e s m args below meth c al0 al H locs ls S hB hH hS hl b hr
  have ha : va_at G.1 vwCl (al k, .inl (G.2.1 0, n, .inl f)) H := hH.1 _ _ hw
  exact va_iald S.1 S.2.1 S.2.2.2.2.2.2.2.2.1.1 (va_P1 ha) 0 0 rfl rfl (inb_in hi) hd (kk p e s m args below meth c al0 al H locs ls S hB hH hS hl b hr)
theorem V.zald {k : vk} {n : Nat} {f : Nat → Int32} {i : Int32} (hd : decode M.2.1 pc = .ok (.baload, 1)) (hw : w k = some (.inr (1, n, .inl f))) (hi : inb i n = true) (kk : V l G M o φ res (pc + 1) L (vI (f i.toNatClampNeg) :: st) w cs sl) : V l G M o φ res pc L (vI i :: vR k :: st) w cs sl := by
  intro p e s m args below meth c al0 al H locs ls S hB hH hS hl b hr
  have ha : va_at G.1 vwCl (al k, .inl (G.2.1 1, n, .inl f)) H := hH.1 _ _ hw
  exact va_zald S.1 S.2.1 S.2.2.2.2.2.2.2.2.1.1 (va_P1 ha) 0 1 rfl rfl (inb_in hi) hd (kk p e s m args below meth c al0 al H locs ls S hB hH hS hl b hr)
theorem V.aald {k k2 : vk} {t n : Nat} {ty : FieldType} {f : Nat → Option vk} {i : Int32} (hd : decode M.2.1 pc = .ok (.aaload, 1)) (ht : (vtys G.2.1)[t]? = some (G.2.1 t, ty)) (hty : ty.isReference = true) (hw : w k = some (.inr (t, n, .inr f))) (hi : inb i n = true) (hf : f i.toNatClampNeg = some k2) (kk : V l G M o φ res (pc + 1) L (vR k2 :: st) w cs sl) : V l G M o φ res pc L (vI i :: vR k :: st) w cs sl := by
  intro p e s m args below meth c al0 al H locs ls S hB hH hS hl b hr
  have ha : va_at G.1 vwCl (al k, .inl (G.2.1 t, n, .inr (.inr (.inr (.inr (fun j => (f j).map al)))))) H := hH.1 _ _ hw
  have hin := inb_in hi
  have hlt : i.toNatClampNeg < n := Nat.not_le.mp fun q => hin (Or.inr q)
  refine W.aald (v := .ref (al k2)) (ty := ty) S.1 S.2.1 ha ((S.2.2.2.2.2.2.2.2.1.1.2 t _ ht).1 n (fun j => va_rf ((f j).map al))) hty (fun q => by cases q) (by show ¬ (i < 0 ∨ (arrV _ _ _).slots.size ≤ _); rw [arrV_size]; exact hin) (by show (arrV _ _ _).slots[_]? = _; rw [arrV_read _ _ hlt]; show some (va_rf ((f i.toNatClampNeg).map al)) = _; rw [hf]; rfl) rfl rfl hd (kk p e s m args below meth c al0 al H locs ls S hB hH hS hl b hr)
theorem V.iast {k : vk} {n : Nat} {f : Nat → Int32} {i x : Int32} (hd : decode M.2.1 pc = .ok (.iastore, 1)) (hw : w k = some (.inr (0, n, .inl f))) (hi : inb i n = true) (kk : V l G M o φ res (pc + 1) L st (wup w k (.inr (0, n, .inl (upd f i.toNatClampNeg x)))) cs sl) : V l G M o φ res pc L (vI x :: vI i :: vR k :: st) w cs sl := by
  intro p e s m args below meth c al0 al H locs ls S hB hH hS hl b hr
  have ha : va_at G.1 vwCl (al k, .inl (G.2.1 0, n, .inl f)) H := hH.1 _ _ hw
  refine W.iast S.1 S.2.1 ha ((S.2.2.2.2.2.2.2.2.1.1.2 0 _ rfl).1 n (fun j => .int (f j))) (fun q => by cases q) (by show ¬ (i < 0 ∨ (arrV _ _ _).slots.size ≤ _); rw [arrV_size]; exact inb_in hi) rfl rfl hd fun H1 e1 z oq => ?_
  refine kk p e s m args below meth c al0 al H1 _ ls S hB (hH.set hw ?_ oq (fun r h => h.elim)) (hS.put z oq (hH.2.2.1 _ _ hw)) hl b hr
  show H1[al k]? = some (vp_cell _ _)
  rw [e1]
  show some ((vp_cell (G.2.1 0) (n, .inl f)).setSlot _ _) = _
  rw [vp_cell_i, vp_cell_i, arrV_store]
  congr 2
  funext q
  by_cases hq : q = i.toNatClampNeg
  · subst hq
    simp [updV, upd]
  · simp [updV, upd, hq]
theorem V.zast {k : vk} {n : Nat} {f : Nat → Int32} {i x : Int32} (hd : decode M.2.1 pc = .ok (.bastore, 1)) (hw : w k = some (.inr (1, n, .inl f))) (hi : inb i n = true) (hx : narrow .boolean (.int x) = .int x) (kk : V l G M o φ res (pc + 1) L st (wup w k (.inr (1, n, .inl (upd f i.toNatClampNeg x)))) cs sl) : V l G M o φ res pc L (vI x :: vI i :: vR k :: st) w cs sl := by
  intro p e s m args below meth c al0 al H locs ls S hB hH hS hl b hr
  have ha : va_at G.1 vwCl (al k, .inl (G.2.1 1, n, .inl f)) H := hH.1 _ _ hw
  refine W.zast S.1 S.2.1 ha ((S.2.2.2.2.2.2.2.2.1.1.2 1 _ rfl).1 n (fun j => .int (f j))) (fun q => by cases q) (by show ¬ (i < 0 ∨ (arrV _ _ _).slots.size ≤ _); rw [arrV_size]; exact inb_in hi) rfl rfl hd fun H1 e1 z oq => ?_
  refine kk p e s m args below meth c al0 al H1 _ ls S hB (hH.set hw ?_ oq (fun r h => h.elim)) (hS.put z oq (hH.2.2.1 _ _ hw)) hl b hr
  show H1[al k]? = some (vp_cell _ _)
  rw [e1]
  show some ((vp_cell (G.2.1 1) (n, .inl f)).setSlot _ _) = _
  rw [hx, vp_cell_i, vp_cell_i, arrV_store]
  congr 2
  funext q
  by_cases hq : q = i.toNatClampNeg
  · subst hq
    simp [updV, upd]
  · simp [updV, upd, hq]
def rup (f : Nat → Option vk) (i : Nat) (k : vk) : Nat → Option vk := fun j => if j = i then some k else f j
theorem V.aast {k k2 : vk} {t n ci : Nat} {C : String} {T : u_T} {N : Nat} {fs : List vf} {f : Nat → Option vk} {i : Int32} (hd : decode M.2.1 pc = .ok (.aastore, 1)) (ht : (vtys G.2.1)[t]? = some (G.2.1 t, .object C)) (hc : vwCl[ci]? = some (C, T, N)) (hw : w k = some (.inr (t, n, .inr f))) (hi : inb i n = true) (hv : w k2 = some (.inl (ci, fs))) (kk : V l G M o φ res (pc + 1) L st (wup w k (.inr (t, n, .inr (rup f i.toNatClampNeg k2)))) cs sl) : V l G M o φ res pc L (vR k2 :: vI i :: vR k :: st) w cs sl := by
  intro p e s m args below meth c al0 al H locs ls S hB hH hS hl b hr
  have ha : va_at G.1 vwCl (al k, .inl (G.2.1 t, n, .inr (.inr (.inr (.inr (fun j => (f j).map al)))))) H := hH.1 _ _ hw
  have hin := inb_in hi
  have hlt : i.toNatClampNeg < n := Nat.not_le.mp fun q => hin (Or.inr q)
  have h0 : ¬ i < 0 := fun q => hin (Or.inl q)
  have hK := S.2.2.2.2.2.2.2.2.1.1
  obtain ⟨r', hr', cellV, g1, g2, g3, -⟩ := (show va_at G.1 vwCl (al k2, .inr (ci, fs.map (mf al))) H from hH.1 _ _ hv)
  have hcls := (hK.1 ci _ hc).2
  obtain ⟨kA, comp, k1, k2', k3, -⟩ := (hK.2 t _ ht).2
  have hcomp : comp = G.1.1 ci := Option.some.inj (k3.symm.trans hcls.1)
  subst hcomp
  obtain ⟨kC, hkC, -⟩ := hcls.2
  refine W.aast S.1 S.2.1 ha (fun q h => by cases h) (fun h => by cases h) k1 k2' rfl hkC ⟨h0, by show _ < (arrV _ _ _).slots.size; rw [arrV_size]; exact hlt⟩ g1 (fun q h => by rw [g3] at h; cases h) (by rw [g2]; exact hkC) (by rw [g2]; exact va_assign hcls) rfl rfl hd fun H1 e1 z oq => ?_
  refine kk p e s m args below meth c al0 al H1 _ ls S hB (hH.set hw ?_ oq ?_) (hS.put z oq (hH.2.2.1 _ _ hw)) hl b hr
  · show H1[al k]? = some (vp_cell _ _)
    rw [e1]
    show some ((vp_cell (G.2.1 t) (n, .inr (.inr (.inr (.inr (fun j => (f j).map al)))))).setSlot _ _) = _
    rw [vp_cell_q, vp_cell_q, arrV_store]
    congr 2
    funext q
    by_cases hq : q = i.toNatClampNeg
    · subst hq
      simp [updV, rup, va_rf]
    · simp [updV, rup, hq]
  · rintro r0 ⟨j, hj⟩
    by_cases hq : j = i.toNatClampNeg
    · simp only [rup, if_pos hq] at hj
      cases hj
      exact ⟨_, hv⟩
    · simp only [rup, if_neg hq] at hj
      exact hH.2.2.2 _ _ _ hw ⟨j, hj⟩
/-- returns -/
theorem V.iret {x : Int32} {b0 : β} (h0 : φ b0 = (some x, w)) (hd : decode M.2.1 pc = .ok (.ireturn, 1)) (ht : M.2.2.2.1 = some .int) (hc : cs ≤ M.2.2.2.2.cells) (hs : sl ≤ M.2.2.2.2.slots) : V l G M o φ (some b0) pc L [vI x] w cs sl := by
  intro p e s m args below meth c al0 al H locs ls S hB hH hS hl b hr
  cases hr
  rw [h0]
  have hlocks := S.2.2.2.2.2.2.1
  exact W.widen hc hs (W.iret S.1 S.2.1 (S.2.2.1.trans ht) (fun t h1 h2 => ⟨⟨x, al, rfl, ⟨rfl, hB⟩, by show Hol G al w t.heap; rw [h1]; exact hH⟩, hS.F h1⟩) hS.2.2 hd)
theorem V.zret {x : Int32} {b0 : β} (h0 : φ b0 = (some x, w)) (hd : decode M.2.1 pc = .ok (.ireturn, 1)) (ht : M.2.2.2.1 = some .boolean) (hx : narrow .boolean (.int x) = .int x) (hc : cs ≤ M.2.2.2.2.cells) (hs : sl ≤ M.2.2.2.2.slots) : V l G M o φ (some b0) pc L [vI x] w cs sl := by
  intro p e s m args below meth c al0 al H locs ls S hB hH hS hl b hr
  cases hr
  rw [h0]
  have hlocks := S.2.2.2.2.2.2.1
  exact W.widen hc hs (W.zret S.1 S.2.1 (S.2.2.1.trans ht) hx (fun t h1 h2 => ⟨⟨x, al, rfl, ⟨rfl, hB⟩, by show Hol G al w t.heap; rw [h1]; exact hH⟩, hS.F h1⟩) hS.2.2 hd)
theorem V.vret {b0 : β} (h0 : φ b0 = (none, w)) (hd : decode M.2.1 pc = .ok (.return_, 1)) (ht : M.2.2.2.1 = none) (hc : cs ≤ M.2.2.2.2.cells) (hs : sl ≤ M.2.2.2.2.slots) : V l G M o φ (some b0) pc L [] w cs sl := by
  intro p e s m args below meth c al0 al H locs ls S hB hH hS hl b hr
  cases hr
  rw [h0]
  have hlocks := S.2.2.2.2.2.2.1
  exact W.widen hc hs (W.vret S.1 S.2.1 (S.2.2.1.trans ht) (fun t h1 h2 => ⟨⟨al, rfl, hB, by show Hol G al w t.heap; rw [h1]; exact hH⟩, hS.F h1⟩) hS.2.2 hd)
end VHeap
