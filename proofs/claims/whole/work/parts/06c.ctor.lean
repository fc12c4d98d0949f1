/-! rows for the constructors of the fixed cells -/
def nk1 (kn : vk) (v : vv) : Bool := match v with
  | .inr (.inr k) => !(k == kn)
  | _ => true
def nks (kn : vk) (st : List vv) : Bool := st.all (nk1 kn)
def nkl (kn : vk) (L : vls) : Bool := L.all (fun q => nk1 kn q.2)
theorem nk1_ne {kn : vk} {v : vv} (h : nk1 kn v = true) : v ≠ vR kn := fun e => by
  subst e
  simp [nk1] at h
theorem nks_ne {kn : vk} {st : List vv} (h : nks kn st = true) : ∀ v ∈ st, v ≠ vR kn := fun v hv => nk1_ne (List.all_eq_true.mp h v hv)
theorem nkl_ne {kn : vk} {L : vls} (h : nkl kn L = true) : ∀ x ∈ L, x.2 ≠ vR kn := fun x hx => nk1_ne (List.all_eq_true.mp h x hx)
def av1 (w : vw) (v : vv) : Bool := match v with
  | .inr (.inr k) => (w k).isSome
  | _ => true
def dle (w0 w : vw) : Prop := ∀ k c, w0 k = some c → ∃ d, w k = some d
theorem dle.rf (w : vw) : dle w w := fun _ c h => ⟨c, h⟩
theorem dle.up {w0 w : vw} {k : vk} {c : vc} (h : dle w0 w) : dle w0 (wup w k c) := fun j a hj => by
  by_cases e : j = k
  · subst e; exact ⟨_, wup_s w j c⟩
  · obtain ⟨d, hd⟩ := h j a hj
    exact ⟨d, (wup_n w c e).trans hd⟩
theorem dle.tr {a b c : vw} (h : dle a b) (h2 : dle b c) : dle a c := fun k x hx => by
  obtain ⟨d, hd⟩ := h k x hx
  exact h2 k d hd
/-- the world behind new int[6][6] -/
def wm (w : vw) (kn : vk) : vw := fun k => if k = kn then some (.inr (5, 6, .inr (renc 5 (fun j => if j < 6 then some j else none)))) else if k.1 = 4 ∧ k.2 < 6 then some (.inr (0, 6, .inl (fun _ => 0))) else w k
theorem dle.wm {w0 w : vw} {kn : vk} (h : dle w0 w) : dle w0 (wm w kn) := fun j a hj => by
  show ∃ d, (if j = kn then _ else _) = some d
  by_cases e : j = kn
  · exact ⟨_, if_pos e⟩
  · rw [if_neg e]
    by_cases e2 : j.1 = 4 ∧ j.2 < 6
    · exact ⟨_, if_pos e2⟩
    · rw [if_neg e2]
      exact h j a hj
section VCtor
variable {l : Launch} {G : vg} {M M' : vmt} {β : Type} {φ : β → Option Int32 × vw} {res : Option β} {pc : Nat} {L : vls} {st : List vv} {w w0 : vw} {cs sl : Nat}
theorem V.nI (kn : vk) {N : Nat} {x : Int32} (hd : decode M.2.1 pc = .ok (.newarray .int, 2)) (hx0 : ¬ x < 0) (hxN : x.toNatClampNeg = N) (hbytes : N * componentBytes .int ≤ 536870912) (hk : w kn = none) (hk0 : w0 kn = none) (hL : nkl kn L = true) (hst : nks kn st = true) (hcs : cs + 1 ≤ M.2.2.2.2.cells) (hsl : sl + N ≤ M.2.2.2.2.slots)
    (kk : V l G M (some w0) φ res (pc + 2) L (vR kn :: st) (wup w kn (.inr (0, N, .inl (fun _ => 0)))) (cs + 1) (sl + N)) : V l G M (some w0) φ res pc L (vI x :: st) w cs sl :=
  V.newP (t := 0) (ty := .int) hd rfl ac_int rfl (fun _ _ => rfl) rfl hx0 hxN hbytes hk hk0 (nkl_ne hL) (nks_ne hst) hcs hsl kk
theorem V.nZ (kn : vk) {N : Nat} {x : Int32} (hd : decode M.2.1 pc = .ok (.newarray .boolean, 2)) (hx0 : ¬ x < 0) (hxN : x.toNatClampNeg = N) (hbytes : N * componentBytes .boolean ≤ 536870912) (hk : w kn = none) (hk0 : w0 kn = none) (hL : nkl kn L = true) (hst : nks kn st = true) (hcs : cs + 1 ≤ M.2.2.2.2.cells) (hsl : sl + N ≤ M.2.2.2.2.slots)
    (kk : V l G M (some w0) φ res (pc + 2) L (vR kn :: st) (wup w kn (.inr (1, N, .inl (fun _ => 0)))) (cs + 1) (sl + N)) : V l G M (some w0) φ res pc L (vI x :: st) w cs sl :=
  V.newP (t := 1) (ty := .boolean) hd rfl ac_boolean rfl (fun _ _ => rfl) rfl hx0 hxN hbytes hk hk0 (nkl_ne hL) (nks_ne hst) hcs hsl kk
set_option maxHeartbeats 1000000 in
theorem V.nQ (kn : vk) {t N idx : Nat} {C : String} {x : Int32} (hd : decode M.2.1 pc = .ok (.anewarray idx, 3)) (hcl : Cond.classLink M.1.cls idx C ∈ wsG) (hao : ∀ s, KA s → va_AO C s) (ht : (vtys G.2.1)[t]? = some (G.2.1 t, .object C)) (hx0 : ¬ x < 0) (hxN : x.toNatClampNeg = N) (hbytes : N * 4 ≤ 536870912) (hk : w kn = none) (hk0 : w0 kn = none) (hL : nkl kn L = true) (hst : nks kn st = true) (hcs : cs + 1 ≤ M.2.2.2.2.cells) (hsl : sl + N ≤ M.2.2.2.2.slots)
    (kk : V l G M (some w0) φ res (pc + 3) L (vR kn :: st) (wup w kn (.inr (t, N, .inr (fun _ => none)))) (cs + 1) (sl + N)) : V l G M (some w0) φ res pc L (vI x :: st) w cs sl := by
  subst hxN
  intro p e s m args below meth c al0 al H locs ls S hB hH hS hl b hr
  have hts := S.2.2.2.2.2.1
  have hK := S.2.2.2.2.2.2.2.2.1.1
  have hN0 : G.2.2 ≤ H.size := Nat.le_trans S.2.2.2.2.2.2.2.2.2 hS.1
  refine W.anew S.1 S.2.1 S.2.2.2.2.1 (hts _ hcl) (va_AO.use (hao s S.2.2.2.2.2.2.2.2.1.2.2)) rfl hd rfl hx0 hbytes hcs hsl fun cA kA comp f1 f2 f3 f4 => ?_
  obtain ⟨kA', comp', k1, k2, k3, k4⟩ := (hK.2 t _ ht).2
  have hcA : cA = G.2.1 t := Option.some.inj (f1.symm.trans k4)
  subst hcA
  generalize hH1 : H.push ({ cls := G.2.1 t, slots := Array.replicate x.toNatClampNeg .null, vm := .none } : Cell) = H1
  have z1 : H1.size = H.size + 1 := by rw [← hH1, Array.size_push]
  have e1 : H1[H.size]? = some (arrV (G.2.1 t) x.toNatClampNeg (fun _ => .null)) := by rw [← hH1, Array.getElem?_push_size, ← arrV_new]
  have o1 : ∀ q : Nat, q < H.size → H1[q]? = H[q]? := fun q hq => by rw [← hH1, Array.getElem?_push, if_neg (Nat.ne_of_lt hq)]
  have hH2 : Hol G (aup al kn H.size) (wup w kn (.inr (t, x.toNatClampNeg, .inr (fun _ => none)))) H1 := hH.push hk hN0 (by
    show H1[H.size]? = some (vp_cell (G.2.1 t) (x.toNatClampNeg, .inr (.inr (.inr (.inr (fun _ => none))))))
    rw [e1, vp_cell_q]
    rfl) o1 (fun r h => by obtain ⟨j, hj⟩ := h; cases hj)
  have h := kk p e s m args below meth c al0 (aup al kn H.size) H1 locs ls S (hB.up hk0) hH2 (va_Spush hS z1 o1) (by rw [ml_aup (nkl_ne hL)]; exact hl) b hr
  have e2 : (vR kn :: st).map (mv (aup al kn H.size)) = .ref H.size :: st.map (mv al) := by
    show Value.ref (aup al kn H.size kn) :: st.map (mv (aup al kn H.size)) = _
    rw [aup_s, st_aup (nks_ne hst)]
  rw [e2] at h
  exact h
theorem V.nO (kn : vk) {ci idx N : Nat} {C : String} {T : u_T} (ty : Nat → FieldType) (fs : List vf) (hd : decode M.2.1 pc = .ok (.new idx, 3)) (hcl : Cond.classLink M.1.cls idx C ∈ wsG) (hins : Cond.instantiable C N ∈ wsG) (hini : Cond.initialized C ∈ wsG) (hc : vwCl[ci]? = some (C, T, N)) (hin : ∀ w ∈ u_ws C T N, w ∈ wsG) (hty : ∀ k, k < N → parseFieldDescriptor (T k).2.2.1 = some (ty k)) (hfs : ∀ j, j < N → ∀ al, defaultValue (ty j) = vp_V (fs.map (mf al)) j) (hnr : fs.all (fun f => match f with | .inr (some _) => false | _ => true) = true) (hk : w kn = none) (hk0 : w0 kn = none) (hL : nkl kn L = true) (hst : nks kn st = true) (hcs : cs + 1 ≤ M.2.2.2.2.cells) (hsl : sl + N ≤ M.2.2.2.2.slots)
    (kk : V l G M (some w0) φ res (pc + 3) L (vR kn :: st) (wup w kn (.inl (ci, fs))) (cs + 1) (sl + N)) : V l G M (some w0) φ res pc L st w cs sl :=
  V.newO ty hd hcl hins hini hc hin hty hfs (fun r h => by have := List.all_eq_true.mp hnr _ h; simp at this) hk hk0 (nkl_ne hL) (nks_ne hst) hcs hsl kk
theorem V.pR {k k2 : vk} {idx : Nat} (ci j : Nat) {fs : List vf} {ty : FieldType} (hd : decode M.2.1 pc = .ok (.putfield idx, 3)) (hg : pfl M.1.cls idx ci j ty true) (hin : M.1.name = "<init>") (hcl : ∃ T N, vwCl[ci]? = some (M.1.cls, T, N)) (hw : w k = some (.inl (ci, fs))) (hjl : j < fs.length) (hn : ∀ a, narrow ty (.ref a) = .ref a) (hfit : ∀ a, fits ty (.ref a) = true) {c2 : vc} (h2 : w k2 = some c2)
    (kk : V l G M (some w0) φ res (pc + 3) L st (wup w k (.inl (ci, fs.set j (.inr (some k2))))) cs sl) : V l G M (some w0) φ res pc L (vR k2 :: vR k :: st) w cs sl :=
  V.putX ci j (u := .inr (some k2)) hd hg (fun _ => ⟨hin, hcl⟩) hw hjl (fun _ => rfl) (fun al => hn _) (fun al => hfit _) (fun r h => by cases h; exact ⟨_, h2⟩) kk
set_option maxHeartbeats 1000000 in
/-- a constructor that makes fixed cells -/
theorem V.cIa {k : vk} {idx : Nat} {wf : vw} (hd : decode M.2.1 pc = .ok (.invokespecial idx, 3)) (h1 : Cond.methodLink M.1.cls idx M'.1 ∈ wsG) (h2 : mfI M' 0) (hR : rmc M M') (hcs : cs + M'.2.2.2.2.cells ≤ M.2.2.2.2.cells ∧ sl + M'.2.2.2.2.slots ≤ M.2.2.2.2.slots) (hst : lvw st ≤ 8) (hzL : (L.all fun q => av1 w q.2) = true) (hzs : (st.all (av1 w)) = true) (hle : dle w0 w) (hm : Rt l G M' (some w) (fun _ : Unit => (none, wf)) [vR k] w (some ()))
    (kk : V l G M (some w0) φ res (pc + 3) L st wf (cs + M'.2.2.2.2.cells) (sl + M'.2.2.2.2.slots)) : V l G M (some w0) φ res pc L (vR k :: st) w cs sl := by
  intro p e s m args below meth c al0 al H locs ls S hB hH hS hl b hr
  have hM := hm al () rfl
  have hN0 : G.2.2 ≤ H.size := Nat.le_trans S.2.2.2.2.2.2.2.2.2 hS.1
  have hcb := vcallB (n := 0) S.2.2.2.2.2.1 h1 h2.2.2.2 hR
  rw [h2.2.2.1] at hcb
  refine va_callv (a := ([vR k].map (mv al)).toArray) (post := fun u : vk → Nat => bA (some w) al u) (B := fun u t => Hol G u wf t.heap) (A1 := fun q : Nat => G.2.2 ≤ q) (va_runI (As := []) (rest := st.map (mv al)) (b := al k) ⟨S.1, S.2.1, S.2.2.2.1, S.2.2.2.2.1, S.2.2.2.2.2.1⟩ hM ⟨hcb, h2.2.1, S.2.2.2.2.2.1 _ h2.1⟩ ⟨vPc_blind (vs := [vR k]), fun U hU hW => ⟨rfl, by rw [hU]; exact hN0, by rw [hU]; exact hH, S.2.2.2.2.2.2.2.2.1.warm hW⟩⟩ rfl rfl hl.1 rfl (lv_room (by rw [lvw_cat]; exact hst)) hd hcs) hS (fun _ _ h => h) (fun _ h => h) (fun u t H1 locs1 ht hvm hp hb hz hk hS1 => ?_)
  have hH1 : Hol G u wf H1 := by rw [← ht]; exact hb
  have hu : ∀ v, av1 w v = true → mv u v = mv al v := fun v hv => by
    rcases v with v | v | k2
    · rfl
    · rfl
    · obtain ⟨cc, hcc⟩ := Option.isSome_iff_exists.mp (show (w k2).isSome = true from hv)
      show Value.ref (u k2) = Value.ref (al k2)
      rw [hp k2 cc hcc]
  have hml : ml u L = ml al L := by
    unfold ml
    refine List.map_congr_left fun x hx => ?_
    rw [hu _ (List.all_eq_true.mp hzL x hx)]
  have hms : st.map (mv u) = st.map (mv al) := List.map_congr_left fun v hv => hu v (List.all_eq_true.mp hzs v hv)
  have h := kk p e s m args below meth c al0 u H1 locs1 ls S (fun j cc hj => by
    obtain ⟨d, hd2⟩ := hle j cc hj
    rw [hp j d hd2]
    exact hB j cc hj) hH1 hS1 (by rw [hml]; exact hl) b hr
  rw [hms] at h
  exact h
end VCtor
