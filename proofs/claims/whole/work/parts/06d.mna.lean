theorem vr_outer (c : ClassId) (N h0 : Nat) : ∀ i : Nat, Jvm.Free.Multi.outerC c N h0 i = arrV c N (fun j => va_rf (if j < i then some (h0 + 1 + j) else none))
  | 0 => by
    show ({ cls := c, slots := Array.replicate N .null, vm := .none } : Cell) = _
    rw [arrV_new]
    refine congrArg (arrV c N) (funext fun j => ?_)
    simp [va_rf]
  | i + 1 => by
    show (Jvm.Free.Multi.outerC c N h0 i).setSlot i (.ref (h0 + 1 + i)) = _
    rw [vr_outer c N h0 i, arrV_store]
    refine congrArg (arrV c N) (funext fun j => ?_)
    by_cases e : j = i
    · subst e
      simp [updV, va_rf]
    · by_cases h : j < i
      · simp [updV, e, h, Nat.lt_succ_of_lt h]
      · simp [updV, e, h, show ¬ j < i + 1 by omega]
def amu (al : vk → Nat) (kn : vk) (h : Nat) : vk → Nat := fun k => if k = kn then h else if k.1 = 4 ∧ k.2 < 6 then h + 1 + k.2 else al k
def n41 (kn : vk) (v : vv) : Bool := match v with
  | .inr (.inr k) => !(k == kn) && !(k.1 == 4)
  | _ => true
theorem amu_o {al : vk → Nat} {kn k : vk} {h : Nat} (h1 : k ≠ kn) (h2 : ¬ (k.1 = 4 ∧ k.2 < 6)) : amu al kn h k = al k := by
  unfold amu; rw [if_neg h1, if_neg h2]
theorem amu_r {al : vk → Nat} {kn : vk} {h i : Nat} (hn : kn.1 ≠ 4) (hi : i < 6) : amu al kn h (4, i) = h + 1 + i := by
  unfold amu
  rw [if_neg (fun e => hn (by rw [← e])), if_pos ⟨rfl, hi⟩]
theorem amu_s {al : vk → Nat} {kn : vk} {h : Nat} : amu al kn h kn = h := by unfold amu; rw [if_pos rfl]
theorem wm_s (w : vw) (kn : vk) : wm w kn kn = some (.inr (5, 6, .inr (renc 5 (fun j => if j < 6 then some j else none)))) := by unfold wm; rw [if_pos rfl]
theorem wm_r (w : vw) {kn : vk} {i : Nat} (hn : kn.1 ≠ 4) (hi : i < 6) : wm w kn (4, i) = some (.inr (0, 6, .inl (fun _ => 0))) := by
  unfold wm
  rw [if_neg (fun e => hn (by rw [← e])), if_pos ⟨rfl, hi⟩]
theorem wm_o (w : vw) {kn k : vk} (h1 : k ≠ kn) (h2 : ¬ (k.1 = 4 ∧ k.2 < 6)) : wm w kn k = w k := by unfold wm; rw [if_neg h1, if_neg h2]
theorem rc_amu {ar : Nat → ClassId} {al : vk → Nat} {kn : vk} {h : Nat} {c : vc} (hc : ∀ r, vref c r → r ≠ kn ∧ ¬ (r.1 = 4 ∧ r.2 < 6)) : rc ar (amu al kn h) c = rc ar al c := by
  rcases c with ⟨ci, fs⟩ | ⟨t, n, f | f⟩
  · show Sum.inr (ci, fs.map (mf (amu al kn h))) = Sum.inr (ci, fs.map (mf al))
    congr 2
    refine List.map_congr_left fun x hx => ?_
    rcases x with x | r
    · rfl
    · cases r with
      | none => rfl
      | some r => show va_rf (some (amu al kn h r)) = va_rf (some (al r)); rw [amu_o (hc r hx).1 (hc r hx).2]
  · rfl
  · refine congrArg (fun g => (Sum.inl (ar t, n, Sum.inr (Sum.inr (Sum.inr (Sum.inr g)))) : va_E)) (funext fun j => ?_)
    cases hj : f j with
    | none => rfl
    | some r => show some (amu al kn h r) = some (al r); rw [amu_o (hc r ⟨j, hj⟩).1 (hc r ⟨j, hj⟩).2]
theorem Hol.mna {G : vg} {al : vk → Nat} {w : vw} {H H1 : Heap} {kn : vk} (h : Hol G al w H) (hn : kn.1 ≠ 4) (hk : w kn = none) (hr : ∀ i, i < 6 → w (4, i) = none) (hN : G.2.2 ≤ H.size)
    (e0 : H1[H.size]? = some (vp_cell (G.2.1 5) (6, .inr (.inr (.inr (.inr (fun j => if j < 6 then some (H.size + 1 + j) else none))))))) (er : ∀ j, j < 6 → H1[H.size + 1 + j]? = some (vp_cell (G.2.1 0) (6, .inl (fun _ => 0)))) (oq : ∀ q : Nat, q < H.size → H1[q]? = H[q]?) : Hol G (amu al kn H.size) (wm w kn) H1 := by
  obtain ⟨h1, h2, h3, h4⟩ := h
  have lt : ∀ j a, w j = some a → al j < H.size := fun j a hj => (h1 j a hj).lt
  have ne : ∀ j a, w j = some a → j ≠ kn ∧ ¬ (j.1 = 4 ∧ j.2 < 6) := fun j a hj => by
    constructor
    · intro e
      rw [e, hk] at hj
      cases hj
    · intro e
      have : j = (4, j.2) := by rw [← e.1]
      rw [this, hr _ e.2] at hj
      cases hj
  have old : ∀ j a, w j = some a → amu al kn H.size j = al j := fun j a hj => amu_o (ne j a hj).1 (ne j a hj).2
  -- the three kinds of key
  have cas : ∀ j a, wm w kn j = some a → j = kn ∨ (∃ i, i < 6 ∧ j = (4, i)) ∨ (w j = some a) := fun j a hj => by
    by_cases e : j = kn
    · exact Or.inl e
    · by_cases e2 : j.1 = 4 ∧ j.2 < 6
      · exact Or.inr (Or.inl ⟨j.2, e2.2, by rw [← e2.1]⟩)
      · rw [wm_o w e e2] at hj
        exact Or.inr (Or.inr hj)
  refine ⟨fun j a hj => ?_, fun i j a b hi hj e => ?_, fun j a hj => ?_, fun j a r hj hv => ?_⟩
  · rcases cas j a hj with e | ⟨i, hi, e⟩ | e
    · subst e
      rw [wm_s] at hj
      cases hj
      rw [amu_s]
      show H1[H.size]? = some (vp_cell (G.2.1 5) (6, .inr (.inr (.inr (.inr (fun q => (renc 5 (fun j => if j < 6 then some j else none) q).map (amu al j H.size)))))))
      rw [e0]
      have ef : (fun j => if j < 6 then some (H.size + 1 + j) else none) = (fun q => (renc 5 (fun j => if j < 6 then some j else none) q).map (amu al j H.size)) := by
        funext q
        by_cases hq : q < 6
        · simp only [renc, hq, if_true, Option.map_some]
          rw [show kdt 5 = 4 from rfl, amu_r hn hq]
        · simp [renc, hq]
      rw [ef]
    · subst e
      rw [wm_r w hn hi] at hj
      cases hj
      rw [amu_r hn hi]
      exact er i hi
    · rw [old j a e, rc_amu (fun r hv => by obtain ⟨d, hd⟩ := h4 _ _ _ e hv; exact ne r d hd)]
      exact (h1 j a e).kept (oq _ (lt _ _ e))
  · have hs : ∀ k a, wm w kn k = some a → (k = kn ∧ amu al kn H.size k = H.size) ∨ (∃ i, i < 6 ∧ k = (4, i) ∧ amu al kn H.size k = H.size + 1 + i) ∨ (∃ c, w k = some c ∧ amu al kn H.size k = al k ∧ al k < H.size) := fun k a hk2 => by
      rcases cas k a hk2 with e | ⟨i, hi, e⟩ | e
      · exact Or.inl ⟨e, by rw [e, amu_s]⟩
      · exact Or.inr (Or.inl ⟨i, hi, e, by rw [e, amu_r hn hi]⟩)
      · exact Or.inr (Or.inr ⟨a, e, old k a e, lt k a e⟩)
    rcases hs i a hi with ⟨ei, qi⟩ | ⟨x, hx, ei, qi⟩ | ⟨c1, hc1, qi, li⟩ <;> rcases hs j b hj with ⟨ej, qj⟩ | ⟨y, hy, ej, qj⟩ | ⟨c2, hc2, qj, lj⟩ <;> rw [qi, qj] at e
    · rw [ei, ej]
    · omega
    · omega
    · omega
    · rw [ei, ej, show x = y by omega]
    · omega
    · omega
    · omega
    · exact h2 _ _ _ _ hc1 hc2 e
  · rcases cas j a hj with e | ⟨i, hi, e⟩ | e
    · rw [e, amu_s]; exact hN
    · rw [e, amu_r hn hi]; omega
    · rw [old j a e]; exact h3 _ _ e
  · rcases cas j a hj with e | ⟨i, hi, e⟩ | e
    · subst e
      rw [wm_s] at hj
      cases hj
      obtain ⟨q, hq⟩ := hv
      by_cases h6 : q < 6
      · simp only [renc, h6, if_true, Option.map_some] at hq
        cases hq
        exact ⟨_, wm_r w hn h6⟩
      · simp [renc, h6] at hq
    · subst e
      rw [wm_r w hn hi] at hj
      cases hj
      exact hv.elim
    · obtain ⟨d, hd⟩ := h4 _ _ _ e hv
      exact ⟨d, by rw [wm_o w (ne _ _ hd).1 (ne _ _ hd).2]; exact hd⟩
theorem cl_X0_25 : Cond.classLink RX0 25 ("[" ++ (FieldType.array .int).toString) ∈ wsG := inT1 (i := 29) rfl rfl
set_option maxHeartbeats 1000000 in
theorem V.nM {l : Launch} {G : vg} {M : vmt} {β : Type} {φ : β → Option Int32 × vw} {res : Option β} {pc : Nat} {L : vls} {st : List vv} {w w0 : vw} {cs sl : Nat} (kn : vk) {idx : Nat} (hd : decode M.2.1 pc = .ok (.multianewarray idx 2, 4)) (hcl : Cond.classLink M.1.cls idx ("[" ++ (FieldType.array .int).toString) ∈ wsG) (hn : kn.1 ≠ 4) (hk : w kn = none) (hr4 : ∀ i, i < 6 → w (4, i) = none) (hk0 : w0 kn = none) (hr0 : ∀ i, i < 6 → w0 (4, i) = none) (hL : (L.all fun q => n41 kn q.2) = true) (hst : (st.all (n41 kn)) = true) (hcs : cs + 7 ≤ M.2.2.2.2.cells) (hsl : sl + 42 ≤ M.2.2.2.2.slots)
    (kk : V l G M (some w0) φ res (pc + 4) L (vR kn :: st) (wm w kn) (cs + 7) (sl + 42)) : V l G M (some w0) φ res pc L (vI 6 :: vI 6 :: st) w cs sl := by
  intro p e s m args below meth c al0 al H locs ls S hB hH hS hl b hr
  have hts := S.2.2.2.2.2.1
  have hK := S.2.2.2.2.2.2.2.2.1.1
  have hN0 : G.2.2 ≤ H.size := Nat.le_trans S.2.2.2.2.2.2.2.2.2 hS.1
  intro T hT Xs
  have h6 : (6 : Int32).toNatClampNeg = 6 := by decide
  obtain ⟨vm₁, cA, comp, -, fA, fC, -, -, X', step⟩ := Xs.multianewarray2F S.1 S.2.2.2.2.1 (hts _ hcl) (Jvm.Stand.arrayOver_alikeB (Vm.Alike.refl s.vm) S.2.2.2.2.2.2.2.2.1.2.2.2.2.2) (hts _ ac_int) (g := F0 m pc ls (.int 6 :: .int 6 :: st.map (mv al))) rfl (by rw [S.2.1]; exact hd) rfl (by decide) (by decide) (by rw [h6]; decide) (by rw [h6]; decide) (by rw [h6]; decide) rfl rfl (by rw [h6]; exact hcs) (by rw [h6]; exact hsl)
  rw [h6] at X' step
  have ec : comp = G.2.1 0 := Option.some.inj (fC.symm.trans (hK.2 0 _ rfl).2)
  have eA : cA = G.2.1 5 := Option.some.inj (fA.symm.trans (hK.2 5 _ rfl).2)
  subst ec
  subst eA
  have hTh : (T.setVm vm₁).heap = H := hT
  obtain ⟨f1, f2, -, -⟩ := Jvm.Free.Multi.fill_facts (T.setVm vm₁) (G.2.1 5) (G.2.1 0) 6 6 (defaultValue .int) 6
  have hold : ∀ x : Nat, x < H.size → (Jvm.Free.Multi.fill (T.setVm vm₁) (G.2.1 5) (G.2.1 0) 6 6 (defaultValue .int) 6).heap[x]? = H[x]? := fun x hx => by
    have := Jvm.Free.Multi.fill_old (T.setVm vm₁) (G.2.1 5) (G.2.1 0) 6 6 (defaultValue .int) (a := x) (by rw [hTh]; exact hx) 6
    rw [hTh] at this
    exact this
  have hrow : ∀ j : Nat, j < 6 → (Jvm.Free.Multi.fill (T.setVm vm₁) (G.2.1 5) (G.2.1 0) 6 6 (defaultValue .int) 6).heap[H.size + 1 + j]? = some (vp_cell (G.2.1 0) (6, .inl (fun _ => 0))) := fun j hj => by
    have := Jvm.Free.Multi.fill_inner (T.setVm vm₁) (G.2.1 5) (G.2.1 0) 6 6 (defaultValue .int) 6 j hj
    rw [hTh] at this
    rw [this, vp_cell_i, ← arrV_new]
    rfl
  rw [hTh] at f1 f2
  generalize hF : Jvm.Free.Multi.fill (T.setVm vm₁) (G.2.1 5) (G.2.1 0) 6 6 (defaultValue .int) 6 = F at X' step f1 f2 hold hrow
  rw [vr_outer] at f2
  have hH1 : Hol G (amu al kn H.size) (wm w kn) F.heap := hH.mna hn hk hr4 hN0 (by rw [f2, vp_cell_q]) hrow hold
  have hv : ∀ v, n41 kn v = true → mv (amu al kn H.size) v = mv al v := fun v h => by
    rcases v with v | v | k2
    · rfl
    · rfl
    · show Value.ref (amu al kn H.size k2) = Value.ref (al k2)
      have h' : (!(k2 == kn) && !(k2.1 == 4)) = true := h
      simp at h'
      rw [amu_o h'.1 (fun q => h'.2 q.1)]
  have hml : ml (amu al kn H.size) L = ml al L := by
    unfold ml
    refine List.map_congr_left fun x hx => ?_
    rw [hv _ (List.all_eq_true.mp hL x hx)]
  have hms : st.map (mv (amu al kn H.size)) = st.map (mv al) := List.map_congr_left fun v h => hv v (List.all_eq_true.mp hst v h)
  have hB1 : bA (some w0) al0 (amu al kn H.size) := fun j cc hj => by
    have e1 : j ≠ kn := fun q => by rw [q, hk0] at hj; cases hj
    have e2 : ¬ (j.1 = 4 ∧ j.2 < 6) := fun q => by
      have : j = (4, j.2) := by rw [← q.1]
      rw [this, hr0 _ q.2] at hj
      cases hj
    rw [amu_o e1 e2]
    exact hB j cc hj
  have h := kk p e s m args below meth c al0 (amu al kn H.size) F.heap locs ls S hB1 hH1 ⟨Nat.le_trans hS.1 (by omega), fun x h1 h2 => (hold x (Nat.lt_of_lt_of_le h1 hS.1)).trans (hS.2.1 x h1 h2), hS.2.2⟩ (by rw [hml]; exact hl) b hr
  have e2 : (vR kn :: st).map (mv (amu al kn H.size)) = .ref H.size :: st.map (mv al) := by
    show Value.ref (amu al kn H.size kn) :: st.map (mv (amu al kn H.size)) = _
    rw [amu_s, hms]
  rw [e2] at h
  obtain ⟨t, a1, b1⟩ := h F rfl X'
  refine ⟨t, step t ?_, b1⟩
  have e3 : T.heap.size = H.size := by rw [hT]
  rw [e3]
  exact a1
