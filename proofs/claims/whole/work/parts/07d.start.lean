section LStart
variable {p : Program} {l : Launch} {e : Env} {s : State} {m : MethodId} {below : List Frame} {meth : Method} {c : Code} {b n : Nat} {G : vg} {xs : Nat → Int32} {pc : Nat} {L : vls} {st : List vv} {w : vw} {cs sl : Nat}
theorem LW.dup (S : LSt G p s m meth c b n xs) {v : vv} (hd : decode code pc = .ok (.dup, 1)) (hv : vcat v = 1) (kk : LW p l e s m below meth c b G (pc + 1) L (v :: v :: st) w cs sl) : LW p l e s m below meth c b G pc L (v :: st) w cs sl :=
  fun al H locs ls hH hS hl => lv_dup S.1 S.2.1 hd (by rw [mv_cat]; exact hv) (kk al H locs ls hH hS hl)
set_option maxHeartbeats 1000000 in
theorem LW.nO (S : LSt G p s m meth c b n xs) (kn : vk) {ci idx N : Nat} {C : String} {T : u_T} (ty : Nat → FieldType) (fs : List vf) (hd : decode code pc = .ok (.new idx, 3)) (hcl : Cond.classLink RL idx C ∈ wsG) (hins : Cond.instantiable C N ∈ wsG) (hini : Cond.initialized C ∈ wsG) (hc : vwCl[ci]? = some (C, T, N)) (hin : ∀ w ∈ u_ws C T N, w ∈ wsG) (hty : ∀ k, k < N → parseFieldDescriptor (T k).2.2.1 = some (ty k)) (hfs : ∀ j, j < N → ∀ al, defaultValue (ty j) = vp_V (fs.map (mf al)) j) (hnr : fs.all (fun f => match f with | .inr (some _) => false | _ => true) = true) (hk : w kn = none) (hL : nkl kn L = true) (hst : nks kn st = true) (hcs : cs + 1 ≤ 600000) (hsl : sl + N ≤ 7302250)
    (kk : LW p l e s m below meth c b G (pc + 3) L (vR kn :: st) (wup w kn (.inl (ci, fs))) (cs + 1) (sl + N)) : LW p l e s m below meth c b G pc L st w cs sl := by
  intro al H locs ls hH hS hl
  obtain ⟨hx, hb, hr, hml, hown, hts, hX, hbl, hlk, hK, hG, hL0⟩ := S
  have hKn := hK.1.1 ci _ hc
  have hN0 : G.2.2 ≤ H.size := by rw [hG]; exact hS.1
  refine W.newcK hx hb hown (hts _ hcl) (hts _ hins) (hts _ hini) rfl hd hcs hsl hKn.2.1 rfl fun H1 kC hkC e1 z1 o1 => ?_
  have hH1 : Hol G (aup al kn H.size) (wup w kn (.inl (ci, fs))) H1 := hH.push hk hN0 ⟨_, hc, (u_born ty hts hin hKn hkC e1 hty).to (fun j hj => hfs j hj al)⟩ o1 (fun r h => by have := List.all_eq_true.mp hnr _ h; simp at this)
  have h := kk (aup al kn H.size) H1 locs ls hH1 (va_Spush hS z1 o1) (by rw [ml_aup (nkl_ne hL)]; exact hl)
  have e2 : (vR kn :: st).map (mv (aup al kn H.size)) = .ref H.size :: st.map (mv al) := by
    show Value.ref (aup al kn H.size kn) :: st.map (mv (aup al kn H.size)) = _
    rw [aup_s, st_aup (nks_ne hst)]
  rw [e2] at h
  exact h
set_option maxHeartbeats 1000000 in
theorem LW.cIa (S : LSt G p s m meth c b n xs) {M' : vmt} {k : vk} {idx : Nat} {wf : vw} (hd : decode code pc = .ok (.invokespecial idx, 3)) (h1 : Cond.methodLink RL idx M'.1 ∈ wsG) (h2 : mfI M' 0) (hR : M'.2.2.2.2.frames + 1 ≤ 10 ∧ 8 + (M'.2.2.1 + 11) + M'.2.2.2.2.locals ≤ 370) (hcs : cs + M'.2.2.2.2.cells ≤ 600000 ∧ sl + M'.2.2.2.2.slots ≤ 7302250) (hst : lvw st ≤ 8) (hzL : (L.all fun q => av1 w q.2) = true) (hzs : (st.all (av1 w)) = true) (hm : Rt l G M' (some w) (fun _ : Unit => (none, wf)) [vR k] w (some ()))
    (kk : LW p l e s m below meth c b G (pc + 3) L st wf (cs + M'.2.2.2.2.cells) (sl + M'.2.2.2.2.slots)) : LW p l e s m below meth c b G pc L (vR k :: st) w cs sl := by
  intro al H locs ls hH hS hl
  obtain ⟨hx, hb, hr, hml, hown, hts, hX, hbl, hlk, hK, hG, hL0⟩ := S
  have hM := hm al () rfl
  have hN0 : G.2.2 ≤ H.size := by rw [hG]; exact hS.1
  have hcb : CallB room_1 s #[Value.ref b] RL idx M'.1 M'.2.1 M'.2.2.1 M'.2.2.2.1 (vws M') M'.2.2.2.2 M'.2.2.2.2.cells M'.2.2.2.2.slots 0 := callB_of (ws' := wsG) 0 hts (vws_good h2.2.2.2.2.1) rfl rfl rfl (hts _ h2.2.2.2.1) (hts _ h1) h2.2.2.2.2.2 hR
  rw [h2.2.2.1] at hcb
  refine va_callv (a := ([vR k].map (mv al)).toArray) (post := fun u : vk → Nat => bA (some w) al u) (B := fun u t => Hol G u wf t.heap) (A1 := fun q : Nat => G.2.2 ≤ q) (va_runI (As := []) (rest := st.map (mv al)) (b := al k) ⟨hx, hb, hml, hown, hts⟩ hM ⟨hcb, h2.2.1, hts _ h2.1⟩ ⟨vPc_blind (vs := [vR k]), fun U hU hW => ⟨rfl, by rw [hU]; exact hN0, by rw [hU]; exact hH, hK.warm hW⟩⟩ rfl rfl hl.1 rfl (lv_room (by rw [lvw_cat]; exact hst)) hd hcs) hS (fun _ _ h => h) (fun _ h => h) (fun u t H1 locs1 ht hvm hp hb2 hz hk hS1 => ?_)
  have hH1 : Hol G u wf H1 := by rw [← ht]; exact hb2
  have hu : ∀ v, av1 w v = true → mv u v = mv al v := fun v hv => by
    rcases v with v | v | k2
    · rfl
    · rfl
    · obtain ⟨cc, hcc⟩ := Option.isSome_iff_exists.mp (show (w k2).isSome = true from hv)
      show Value.ref (u k2) = Value.ref (al k2)
      rw [hp k2 cc hcc]
  have hmll : ml u L = ml al L := by
    unfold ml
    refine List.map_congr_left fun x hx => ?_
    rw [hu _ (List.all_eq_true.mp hzL x hx)]
  have hms : st.map (mv u) = st.map (mv al) := List.map_congr_left fun v hv => hu v (List.all_eq_true.mp hzs v hv)
  have h := kk u H1 locs1 ls hH1 hS1 (by rw [hmll]; exact hl)
  rw [hms] at h
  exact h
theorem LW.st1 (S : LSt G p s m meth c b n xs) {v : vk} (hd : decode code pc = .ok (.astore_n 1, 1)) (kk : LW p l e s m below meth c b G (pc + 1) [(1, vR v)] st w cs sl) : LW p l e s m below meth c b G pc [] (vR v :: st) w cs sl :=
  fun al H locs ls hH hS hl => lv_astore_n (lv' := [(1, .ref (al v)), (0, .ref b)]) S.1 S.2.1 hd rfl hl (by decide) rfl (fun ls' hl' => kk al H locs ls' hH hS (lv_sub hl' [1, 0] rfl))
theorem LW.st2 (S : LSt G p s m meth c b n xs) {v v1 : vk} (hd : decode code pc = .ok (.astore_n 2, 1)) (kk : LW p l e s m below meth c b G (pc + 1) [(1, vR v1), (2, vR v)] st w cs sl) : LW p l e s m below meth c b G pc [(1, vR v1)] (vR v :: st) w cs sl :=
  fun al H locs ls hH hS hl => lv_astore_n (lv' := [(2, .ref (al v)), (0, .ref b), (1, .ref (al v1))]) S.1 S.2.1 hd rfl hl (by decide) rfl (fun ls' hl' => kk al H locs ls' hH hS (lv_sub hl' [1, 2, 0] rfl))
theorem LW.st3 (S : LSt G p s m meth c b n xs) {x : Int32} {v v1 : vk} (hd : decode code pc = .ok (.istore_n 3, 1)) (kk : LW p l e s m below meth c b G (pc + 1) [(1, vR v1), (2, vR v), (3, vI x)] st w cs sl) : LW p l e s m below meth c b G pc [(1, vR v1), (2, vR v)] (vI x :: st) w cs sl :=
  fun al H locs ls hH hS hl => lv_istore_n (lv' := [(3, .int x), (0, .ref b), (1, .ref (al v1)), (2, .ref (al v))]) S.1 S.2.1 hd rfl hl (by decide) rfl (fun ls' hl' => kk al H locs ls' hH hS (lv_sub hl' [1, 2, 3, 0] rfl))
end LStart
/-- the state behind both constructors -/
def S0 : vs := (fun _ _ => 0, fun _ _ => none, (0, 0, 0))
