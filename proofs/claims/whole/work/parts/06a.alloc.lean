/-! making objects -/
theorem ml_aup {al : vk → Nat} {k : vk} {q : Nat} {L : vls} (h : ∀ x ∈ L, x.2 ≠ vR k) : ml (aup al k q) L = ml al L := by
  unfold ml
  refine List.map_congr_left fun x hx => ?_
  obtain ⟨i, v⟩ := x
  rcases v with v | v | k2
  · rfl
  · rfl
  · have : k2 ≠ k := fun e => h _ hx (by rw [e])
    show (i, Value.ref (aup al k q k2)) = (i, Value.ref (al k2))
    rw [aup_n al q this]
theorem st_aup {al : vk → Nat} {k : vk} {q : Nat} {st : List vv} (h : ∀ v ∈ st, v ≠ vR k) : st.map (mv (aup al k q)) = st.map (mv al) := by
  refine List.map_congr_left fun v hv => ?_
  rcases v with v | v | k2
  · rfl
  · rfl
  · have : k2 ≠ k := fun e => h _ hv (by rw [e])
    show Value.ref (aup al k q k2) = Value.ref (al k2)
    rw [aup_n al q this]
section VAlloc
variable {l : Launch} {G : vg} {M M' : vmt} {o : Option vw} {β : Type} {φ : β → Option Int32 × vw} {res A B : Option β} {pc : Nat} {L : vls} {st : List vv} {w : vw} {cs sl : Nat}
theorem va_Spush {A : Nat → Prop} {H0 H H1 : Heap} {locs : List Loc} (hS : va_S A H0 H locs) (z : H1.size = H.size + 1) (oq : ∀ q : Nat, q < H.size → H1[q]? = H[q]?) : va_S A H0 H1 locs :=
  ⟨Nat.le_trans hS.1 (by omega), fun x h1 h2 => (oq x (Nat.lt_of_lt_of_le h1 hS.1)).trans (hS.2.1 x h1 h2), hS.2.2⟩
theorem bA.up {w0 : vw} {al0 al : vk → Nat} {k : vk} {q : Nat} (h : bA (some w0) al0 al) (hk : w0 k = none) : bA (some w0) al0 (aup al k q) := fun j c hj => by
  have : j ≠ k := fun e => by rw [e, hk] at hj; cases hj
  rw [aup_n al q this]
  exact h j c hj
set_option maxHeartbeats 1000000 in
theorem V.newO {kn : vk} {w0 : vw} {ci idx N : Nat} {C : String} {T : u_T} (ty : Nat → FieldType) {fs : List vf} (hd : decode M.2.1 pc = .ok (.new idx, 3)) (hcl : Cond.classLink M.1.cls idx C ∈ wsG) (hins : Cond.instantiable C N ∈ wsG) (hini : Cond.initialized C ∈ wsG) (hc : vwCl[ci]? = some (C, T, N)) (hin : ∀ w ∈ u_ws C T N, w ∈ wsG) (hty : ∀ k, k < N → parseFieldDescriptor (T k).2.2.1 = some (ty k)) (hfs : ∀ j, j < N → ∀ al, defaultValue (ty j) = vp_V (fs.map (mf al)) j) (hnr : ∀ r, ¬ vref (.inl (ci, fs)) r) (hk : w kn = none) (hk0 : w0 kn = none) (hL : ∀ x ∈ L, x.2 ≠ vR kn) (hst : ∀ v ∈ st, v ≠ vR kn) (hcs : cs + 1 ≤ M.2.2.2.2.cells) (hsl : sl + N ≤ M.2.2.2.2.slots)
    (kk : V l G M (some w0) φ res (pc + 3) L (vR kn :: st) (wup w kn (.inl (ci, fs))) (cs + 1) (sl + N)) : V l G M (some w0) φ res pc L st w cs sl := by
  intro p e s m args below meth c al0 al H locs ls S hB hH hS hl b hr
  have hts := S.2.2.2.2.2.1
  have hKn := S.2.2.2.2.2.2.2.2.1.1.1 ci _ hc
  have hN0 : G.2.2 ≤ H.size := Nat.le_trans S.2.2.2.2.2.2.2.2.2 hS.1
  refine W.newcK S.1 S.2.1 S.2.2.2.2.1 (hts _ hcl) (hts _ hins) (hts _ hini) rfl hd hcs hsl hKn.2.1 rfl fun H1 kC hkC e1 z1 o1 => ?_
  have hH1 : Hol G (aup al kn H.size) (wup w kn (.inl (ci, fs))) H1 := hH.push hk hN0 ⟨_, hc, (u_born ty hts hin hKn hkC e1 hty).to (fun j hj => hfs j hj al)⟩ o1 hnr
  have h := kk p e s m args below meth c al0 (aup al kn H.size) H1 locs ls S (hB.up hk0) hH1 (va_Spush hS z1 o1) (by rw [ml_aup hL]; exact hl) b hr
  have e2 : (vR kn :: st).map (mv (aup al kn H.size)) = .ref H.size :: st.map (mv al) := by
    show Value.ref (aup al kn H.size kn) :: st.map (mv (aup al kn H.size)) = _
    rw [aup_s, st_aup hst]
  rw [e2] at h
  exact h
set_option maxHeartbeats 1000000 in
/-- an array of ints or booleans -/
theorem V.newP {kn : vk} {w0 : vw} {t N : Nat} {x : Int32} {at' : ArrayType} {ty : FieldType} (hd : decode M.2.1 pc = .ok (.newarray at', 2)) (hty : newarray.typeOf at' = ty) (hac : Cond.arrayClass ty ∈ wsG) (ht : (vtys G.2.1)[t]? = some (G.2.1 t, ty)) (hnm : ∀ U cA, va_RA U cA ty = (U.vm.findClass ("[" ++ ty.toString) = some cA)) (hdv : defaultValue ty = .int 0) (hx0 : ¬ x < 0) (hxN : x.toNatClampNeg = N) (hbytes : N * componentBytes ty ≤ 536870912) (hk : w kn = none) (hk0 : w0 kn = none) (hL : ∀ x ∈ L, x.2 ≠ vR kn) (hst : ∀ v ∈ st, v ≠ vR kn) (hcs : cs + 1 ≤ M.2.2.2.2.cells) (hsl : sl + N ≤ M.2.2.2.2.slots)
    (kk : V l G M (some w0) φ res (pc + 2) L (vR kn :: st) (wup w kn (.inr (t, N, .inl (fun _ => 0)))) (cs + 1) (sl + N)) : V l G M (some w0) φ res pc L (vI x :: st) w cs sl := by
  subst hty
  intro p e s m args below meth c al0 al H locs ls S hB hH hS hl b hr
  have hts := S.2.2.2.2.2.1
  have hK := S.2.2.2.2.2.2.2.2.1.1
  have hN0 : G.2.2 ≤ H.size := Nat.le_trans S.2.2.2.2.2.2.2.2.2 hS.1
  refine va_newaK S.1 S.2.1 (hts _ hac) rfl hd rfl hx0 hxN hbytes hcs hsl rfl fun H1 cA e1 z1 o1 hAr hNm => ?_
  have hcA : cA = G.2.1 t := by
    have h2 := (hK.2 t _ ht).2
    rw [hnm] at h2
    exact Option.some.inj (hNm.symm.trans h2)
  subst hcA
  have hH1 : Hol G (aup al kn H.size) (wup w kn (.inr (t, N, .inl (fun _ => 0)))) H1 := hH.push hk hN0 (by
    show H1[H.size]? = some (vp_cell (G.2.1 t) (N, .inl (fun _ => 0)))
    rw [e1, hdv, vp_cell_i]) o1 (fun r h => h)
  have h := kk p e s m args below meth c al0 (aup al kn H.size) H1 locs ls S (hB.up hk0) hH1 (va_Spush hS z1 o1) (by rw [ml_aup hL]; exact hl) b hr
  have e2 : (vR kn :: st).map (mv (aup al kn H.size)) = .ref H.size :: st.map (mv al) := by
    show Value.ref (aup al kn H.size kn) :: st.map (mv (aup al kn H.size)) = _
    rw [aup_s, st_aup hst]
  rw [e2] at h
  exact h
set_option maxHeartbeats 1000000 in
/-- <init> of an object that is there; the callee makes nothing -/
theorem V.callI {k : vk} {idx n : Nat} {As stk : List vv} {γ : Type} {ψ : γ → Option Int32 × vw} {res' : Option γ} {K : γ → Option β} (hd : decode M.2.1 pc = .ok (.invokespecial idx, 3)) (h1 : Cond.methodLink M.1.cls idx M'.1 ∈ wsG) (h2 : mfI M' n) (hn : As.length = n) (hR : rmc M M') (hcs : cs + M'.2.2.2.2.cells ≤ M.2.2.2.2.cells ∧ sl + M'.2.2.2.2.slots ≤ M.2.2.2.2.slots) (hst : lvw st ≤ 8) (hstk : stk = As.reverse ++ vR k :: st) (hm : Rt l G M' none ψ (vR k :: As) w res')
    (kk : ∀ a, V l G M o φ (K a) (pc + 3) L (rst (ψ a).1 st) (ψ a).2 (cs + M'.2.2.2.2.cells) (sl + M'.2.2.2.2.slots)) : V l G M o φ (res'.bind K) pc L stk w cs sl := by
  subst hstk
  intro p e s m args below meth c al0 al H locs ls S hB hH hS hl b hr
  obtain ⟨a1, e1, e2⟩ := vbind hr
  have hM := hm al a1 e1
  have hN0 : G.2.2 ≤ H.size := Nat.le_trans S.2.2.2.2.2.2.2.2.2 hS.1
  have hcb := vcallB (n := n) S.2.2.2.2.2.1 h1 h2.2.2.2 hR
  rw [h2.2.2.1] at hcb
  refine V.back (M' := M') (ψ := ψ) (K := K) kk S hB hS hl e2 (va_runI (As := As.map (mv al)) (rest := st.map (mv al)) (b := al k) ⟨S.1, S.2.1, S.2.2.2.1, S.2.2.2.2.1, S.2.2.2.2.2.1⟩ hM ⟨hcb, h2.2.1, S.2.2.2.2.2.1 _ h2.1⟩ ⟨vPc_blind (vs := vR k :: As), fun U hU hW => ⟨rfl, by rw [hU]; exact hN0, by rw [hU]; exact hH, S.2.2.2.2.2.2.2.2.1.warm hW⟩⟩ rfl (by rw [List.length_map]; exact hn) hl.1 ?_ (lv_room (by rw [lvw_cat]; exact hst)) hd hcs)
  show (As.reverse ++ vR k :: st).map (mv al) = (As.map (mv al)).reverse ++ .ref (al k) :: st.map (mv al)
  rw [List.map_append, List.map_reverse]
  rfl
end VAlloc
/-- the fixed keys -/
def wF : vw := fun k => if k.1 = 0 then some (.inl (0, [])) else none
abbrev oF : Option vw := some wF
theorem wF_n {kd n : Nat} (h : kd ≠ 0) : wF (kd, n) = none := by simp [wF, h]
def kz1 (v : vv) : Bool := match v with
  | .inr (.inr k) => k.1 == 0
  | _ => true
def kzs (st : List vv) : Bool := st.all kz1
def kzl (L : vls) : Bool := L.all (fun q => kz1 q.2)
theorem kz1_ne {v : vv} {kd n : Nat} (h : kz1 v = true) (hk : kd ≠ 0) : v ≠ vR (kd, n) := fun e => by
  subst e
  simp [kz1] at h
  exact hk h
theorem kzs_ne {st : List vv} {kd n : Nat} (h : kzs st = true) (hk : kd ≠ 0) : ∀ v ∈ st, v ≠ vR (kd, n) := fun v hv => kz1_ne (List.all_eq_true.mp h v hv) hk
theorem kzl_ne {L : vls} {kd n : Nat} (h : kzl L = true) (hk : kd ≠ 0) : ∀ x ∈ L, x.2 ≠ vR (kd, n) := fun x hx => kz1_ne (List.all_eq_true.mp h x hx) hk
theorem kz1_mv {al al' : vk → Nat} {v : vv} (h : kz1 v = true) (ha : ∀ k, k.1 = 0 → al' k = al k) : mv al' v = mv al v := by
  rcases v with v | v | k
  · rfl
  · rfl
  · show Value.ref (al' k) = Value.ref (al k)
    rw [ha k (by simpa [kz1] using h)]
theorem kzs_mv {al al' : vk → Nat} {st : List vv} (h : kzs st = true) (ha : ∀ k, k.1 = 0 → al' k = al k) : st.map (mv al') = st.map (mv al) := List.map_congr_left fun v hv => kz1_mv (List.all_eq_true.mp h v hv) ha
theorem kzl_mv {al al' : vk → Nat} {L : vls} (h : kzl L = true) (ha : ∀ k, k.1 = 0 → al' k = al k) : ml al' L = ml al L := by
  unfold ml
  refine List.map_congr_left fun x hx => ?_
  rw [kz1_mv (List.all_eq_true.mp h x hx) ha]
section VAlloc2
variable {l : Launch} {G : vg} {M M' : vmt} {β : Type} {φ : β → Option Int32 × vw} {res A B : Option β} {pc : Nat} {L : vls} {st : List vv} {w : vw} {S : vs} {cs sl : Nat}
theorem bA.oF {al0 al : vk → Nat} (h : bA oF al0 al) : ∀ k, k.1 = 0 → al k = al0 k := fun k hk => h k (.inl (0, [])) (by simp [wF, hk])
set_option maxHeartbeats 1000000 in
/-- a call whose callee makes objects of kinds above 0 -/
theorem V.callVa {k : vk} {ci idx n : Nat} {fs : List vf} {T : u_T} {N : Nat} {As stk : List vv} {γ : Type} {ψ : γ → Option Int32 × vw} {res' : Option γ} {K : γ → Option β} (hd : decode M.2.1 pc = .ok (.invokevirtual idx, 3)) (h1 : Cond.methodLink M.1.cls idx M'.1 ∈ wsG) (h2 : mfV M' n) (hn : As.length = n) (hR : rmc M M') (hcs : cs + M'.2.2.2.2.cells ≤ M.2.2.2.2.cells ∧ sl + M'.2.2.2.2.slots ≤ M.2.2.2.2.slots) (hw : w k = some (.inl (ci, fs))) (hc : vwCl[ci]? = some (M'.1.cls, T, N)) (hst : lvw st ≤ 8) (hstk : stk = As.reverse ++ vR k :: st) (hzL : kzl L = true) (hzs : kzs st = true) (hm : Rt l G M' oF ψ (vR k :: As) w res') (hint : ∀ a, ∃ x, (ψ a).1 = some x)
    (kk : ∀ a, V l G M oF φ (K a) (pc + 3) L (rst (ψ a).1 st) (ψ a).2 (cs + M'.2.2.2.2.cells) (sl + M'.2.2.2.2.slots)) : V l G M oF φ (res'.bind K) pc L stk w cs sl := by
  subst hstk
  intro p e s m args below meth c al0 al H locs ls S hB hH hS hl b hr
  obtain ⟨a1, e1, e2⟩ := vbind hr
  have hM := hm al a1 e1
  have ha : va_at G.1 vwCl (al k, .inr (ci, fs.map (mf al))) H := hH.1 _ _ hw
  have hN0 : G.2.2 ≤ H.size := Nat.le_trans S.2.2.2.2.2.2.2.2.2 hS.1
  have kk1 := kk a1
  obtain ⟨x, hx⟩ := hint a1
  rw [hx] at hM kk1
  refine va_calli (a := ((vR k :: As).map (mv al)).toArray) (post := fun y (u : vk → Nat) => y = x ∧ bA oF al u) (B := fun u t => Hol G u (ψ a1).2 t.heap) (A1 := fun q : Nat => G.2.2 ≤ q) (va_runV (As := As.map (mv al)) (rest := st.map (mv al)) (b := al k) ⟨S.1, S.2.1, S.2.2.2.1, S.2.2.2.2.1, S.2.2.2.2.2.1⟩ hM ⟨vcallB S.2.2.2.2.2.1 h1 h2.2.2 hR, S.2.2.2.2.2.1 _ h2.1, S.2.2.2.2.2.1 _ h2.2.1⟩ ⟨vPc_blind (vs := vR k :: As), va_recv S.2.2.2.2.2.2.2.2.1.1 (va_P1 ha) hc (q0 := 0) rfl, fun U hU hW => ⟨rfl, by rw [hU]; exact hN0, by rw [hU]; exact hH, S.2.2.2.2.2.2.2.2.1.warm hW⟩⟩ rfl (by rw [List.length_map]; exact hn) hl.1 (by
      show (As.reverse ++ vR k :: st).map (mv al) = (As.map (mv al)).reverse ++ .ref (al k) :: st.map (mv al)
      rw [List.map_append, List.map_reverse]
      rfl) (lv_room (by rw [lvw_cat]; exact hst)) hd hcs) hS (fun _ _ h => h) (fun _ h => h) (fun y u t H1 locs1 ht hvm hp hb hz hk hS1 => ?_)
  obtain ⟨hy, hu⟩ := hp
  subst hy
  have hu0 := hu.oF
  have hH1 : Hol G u (ψ a1).2 H1 := by rw [← ht]; exact hb
  have h := kk1 p e s m args below meth c al0 u H1 locs1 ls S (fun j cc hj => by
    have hj0 : j.1 = 0 := by
      by_cases h0 : j.1 = 0
      · exact h0
      · simp [wF, h0] at hj
    rw [hu0 j hj0]
    exact hB j cc hj) hH1 hS1 (by rw [kzl_mv hzL hu0]; exact hl) b e2
  have e3 : (rst (some y) st).map (mv u) = .int y :: st.map (mv al) := by
    show Value.int y :: st.map (mv u) = _
    rw [kzs_mv hzs hu0]
  rw [e3] at h
  exact h
/-- a new Side, Sign, Text -/
def sn1 (S : vs) : vs := (fun k => if k = (1, S.2.2.1) then (fun _ => 0) else S.1 k, S.2.1, (S.2.2.1 + 1, S.2.2.2.1, S.2.2.2.2))
def sn2 (S : vs) : vs := (fun k => if k = (2, S.2.2.2.1) then (fun _ => 0) else S.1 k, S.2.1, (S.2.2.1, S.2.2.2.1 + 1, S.2.2.2.2))
def sn3 (S : vs) : vs := (fun k => if k = (3, S.2.2.2.2) then (fun _ => 0) else S.1 k, S.2.1, (S.2.2.1, S.2.2.2.1, S.2.2.2.2 + 1))
theorem enc_new1 (S : vs) : wup (enc S) (1, S.2.2.1) (.inl (2, fenc (fun _ => 0) 0 fsX2)) = enc (sn1 S) := by
  funext k
  by_cases h : k = (1, S.2.2.1)
  · subst h
    rw [wup_s]
    unfold enc
    rw [if_pos (by simp [alv, sn1])]
    simp [shp, cenc, sn1]
  · rw [wup_n _ _ h]
    unfold enc
    have e : (sn1 S).1 k = S.1 k := by simp [sn1, h]
    have ea : alv (sn1 S).2.2 k = alv S.2.2 k := by
      obtain ⟨a, i⟩ := k
      match a, h with
      | 0, h => rfl
      | 1, h =>
        have hi : i ≠ S.2.2.1 := fun q => h (by rw [q])
        show decide (i < S.2.2.1 + 1) = decide (i < S.2.2.1)
        exact decide_eq_decide.mpr ⟨fun q => by omega, fun q => by omega⟩
      | 2, h => rfl
      | 3, h => rfl
      | a + 4, h => rfl
    rw [e, ea]
    rfl
theorem enc_new2 (S : vs) : wup (enc S) (2, S.2.2.2.1) (.inl (3, fenc (fun _ => 0) 0 fsX3)) = enc (sn2 S) := by
  funext k
  by_cases h : k = (2, S.2.2.2.1)
  · subst h
    rw [wup_s]
    unfold enc
    rw [if_pos (by simp [alv, sn2])]
    simp [shp, cenc, sn2]
  · rw [wup_n _ _ h]
    unfold enc
    have e : (sn2 S).1 k = S.1 k := by simp [sn2, h]
    have ea : alv (sn2 S).2.2 k = alv S.2.2 k := by
      obtain ⟨a, i⟩ := k
      match a, h with
      | 0, h => rfl
      | 1, h => rfl
      | 2, h =>
        have hi : i ≠ S.2.2.2.1 := fun q => h (by rw [q])
        show decide (i < S.2.2.2.1 + 1) = decide (i < S.2.2.2.1)
        exact decide_eq_decide.mpr ⟨fun q => by omega, fun q => by omega⟩
      | 3, h => rfl
      | a + 4, h => rfl
    rw [e, ea]
    rfl
theorem enc_new3 (S : vs) : wup (enc S) (3, S.2.2.2.2) (.inl (5, fenc (fun _ => 0) 0 fsX5)) = enc (sn3 S) := by
  funext k
  by_cases h : k = (3, S.2.2.2.2)
  · subst h
    rw [wup_s]
    unfold enc
    rw [if_pos (by simp [alv, sn3])]
    simp [shp, cenc, sn3]
  · rw [wup_n _ _ h]
    unfold enc
    have e : (sn3 S).1 k = S.1 k := by simp [sn3, h]
    have ea : alv (sn3 S).2.2 k = alv S.2.2 k := by
      obtain ⟨a, i⟩ := k
      match a, h with
      | 0, h => rfl
      | 1, h => rfl
      | 2, h => rfl
      | 3, h =>
        have hi : i ≠ S.2.2.2.2 := fun q => h (by rw [q])
        show decide (i < S.2.2.2.2 + 1) = decide (i < S.2.2.2.2)
        exact decide_eq_decide.mpr ⟨fun q => by omega, fun q => by omega⟩
      | a + 4, h => rfl
    rw [e, ea]
    rfl
theorem noref0 {ci : Nat} {f : Nat → Int32} (r : vk) : ∀ (fs : List (Option vk)) (i : Nat), (∀ x ∈ fs, x = none) → ¬ vref (.inl (ci, fenc f i fs)) r
  | [], _, _, h => by simp [vref, fenc] at h
  | x :: t, i, hx, h => by
    have : x = none := hx x List.mem_cons_self
    subst this
    have h' : Sum.inr (some r) ∈ Sum.inl (f i) :: fenc f (i + 1) t := h
    rcases List.mem_cons.mp h' with h' | h'
    · cases h'
    · exact noref0 (ci := ci) r t (i + 1) (fun y hy => hx y (List.mem_cons_of_mem _ hy)) h'
theorem V.snew1 {idx : Nat} (hd : decode M.2.1 pc = .ok (.new idx, 3)) (hcl : Cond.classLink M.1.cls idx RX2 ∈ wsG) (hL : kzl L = true) (hst : kzs st = true) (hcs : cs + 1 ≤ M.2.2.2.2.cells) (hsl : sl + 11 ≤ M.2.2.2.2.slots) (kk : V l G M oF φ res (pc + 3) L (vR (1, S.2.2.1) :: st) (enc (sn1 S)) (cs + 1) (sl + 11)) : V l G M oF φ res pc L st (enc S) cs sl := by
  refine V.newO (kn := (1, S.2.2.1)) (ci := 2) (fs := fenc (fun _ => 0) 0 fsX2) tyX2 hd hcl ins_X2 ini_X2 rfl inX2 tyX2_ok ?_ (fun r => noref0 r fsX2 0 (by decide)) ?_ (wF_n (by decide)) (kzl_ne hL (by decide)) (kzs_ne hst (by decide)) hcs hsl ?_
  · intro j hj al
    match j, hj with
    | 0, _ => rfl
    | 1, _ => rfl
    | 2, _ => rfl
    | 3, _ => rfl
    | 4, _ => rfl
    | 5, _ => rfl
    | 6, _ => rfl
    | 7, _ => rfl
    | 8, _ => rfl
    | 9, _ => rfl
    | 10, _ => rfl
    | j + 11, hj => omega
  · simp [enc, alv]
  · rw [enc_new1]; exact kk
theorem V.snew2 {idx : Nat} (hd : decode M.2.1 pc = .ok (.new idx, 3)) (hcl : Cond.classLink M.1.cls idx RX3 ∈ wsG) (hL : kzl L = true) (hst : kzs st = true) (hcs : cs + 1 ≤ M.2.2.2.2.cells) (hsl : sl + 5 ≤ M.2.2.2.2.slots) (kk : V l G M oF φ res (pc + 3) L (vR (2, S.2.2.2.1) :: st) (enc (sn2 S)) (cs + 1) (sl + 5)) : V l G M oF φ res pc L st (enc S) cs sl := by
  refine V.newO (kn := (2, S.2.2.2.1)) (ci := 3) (fs := fenc (fun _ => 0) 0 fsX3) tyX3 hd hcl ins_X3 ini_X3 rfl inX3 tyX3_ok ?_ (fun r => noref0 r fsX3 0 (by decide)) ?_ (wF_n (by decide)) (kzl_ne hL (by decide)) (kzs_ne hst (by decide)) hcs hsl ?_
  · intro j hj al
    match j, hj with
    | 0, _ => rfl
    | 1, _ => rfl
    | 2, _ => rfl
    | 3, _ => rfl
    | 4, _ => rfl
    | j + 5, hj => omega
  · simp [enc, alv]
  · rw [enc_new2]; exact kk
theorem V.snew3 {idx : Nat} (hd : decode M.2.1 pc = .ok (.new idx, 3)) (hcl : Cond.classLink M.1.cls idx RX5 ∈ wsG) (hL : kzl L = true) (hst : kzs st = true) (hcs : cs + 1 ≤ M.2.2.2.2.cells) (hsl : sl + 5 ≤ M.2.2.2.2.slots) (kk : V l G M oF φ res (pc + 3) L (vR (3, S.2.2.2.2) :: st) (enc (sn3 S)) (cs + 1) (sl + 5)) : V l G M oF φ res pc L st (enc S) cs sl := by
  refine V.newO (kn := (3, S.2.2.2.2)) (ci := 5) (fs := fenc (fun _ => 0) 0 fsX5) tyX5 hd hcl ins_X5 ini_X5 rfl inX5 tyX5_ok ?_ (fun r => noref0 r fsX5 0 (by decide)) ?_ (wF_n (by decide)) (kzl_ne hL (by decide)) (kzs_ne hst (by decide)) hcs hsl ?_
  · intro j hj al
    match j, hj with
    | 0, _ => rfl
    | 1, _ => rfl
    | 2, _ => rfl
    | 3, _ => rfl
    | 4, _ => rfl
    | j + 5, hj => omega
  · simp [enc, alv]
  · rw [enc_new3]; exact kk
end VAlloc2
