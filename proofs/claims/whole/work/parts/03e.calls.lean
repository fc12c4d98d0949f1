section VCalls
variable {l : Launch} {G : vg} {M M' : vmt} {o : Option vw} {β : Type} {φ : β → Option Int32 × vw} {res A B : Option β} {pc : Nat} {L : vls} {st : List vv} {w : vw} {cs sl : Nat}
theorem vws_good (hc : Cond.code M'.1 M'.2.1 M'.2.2.1 M'.2.2.2.1 ∈ wsG) : GoodIn wsG (vws M') := fun x hx => by
  have h : x ∈ wsG := by
    rcases List.mem_cons.mp hx with h | h
    · rw [h]; exact hc
    · exact h
  exact ⟨h, good_of_word (List.all_eq_true.mp wsG_good x h)⟩
def mfB (M' : vmt) (n : Nat) : Prop := Cond.initialized M'.1.cls ∈ wsG ∧ Cond.code M'.1 M'.2.1 M'.2.2.1 M'.2.2.2.1 ∈ wsG ∧ (M'.1.cls ≠ "java/lang/invoke/MethodHandle" ∧ M'.1.cls ≠ "java/lang/invoke/VarHandle" ∧ (parseMethodDescriptor M'.1.desc).map (fun d => d.parameters.length) = some n)
def mfV (M' : vmt) (n : Nat) : Prop := Cond.instanceMethod M'.1 ∈ wsG ∧ Cond.selects M'.1.cls M'.1 M'.1 ∈ wsG ∧ mfB M' n
def mfS (M' : vmt) (n : Nat) : Prop := Cond.static M'.1 ∈ wsG ∧ mfB M' n
def mfI (M' : vmt) (n : Nat) : Prop := Cond.instanceMethod M'.1 ∈ wsG ∧ M'.1.name = "<init>" ∧ M'.2.2.2.1 = none ∧ mfB M' n
/-- the room of a call -/
def rmc (M M' : vmt) : Prop := M'.2.2.2.2.frames + 1 ≤ M.2.2.2.2.frames ∧ 8 + (M'.2.2.1 + 11) + M'.2.2.2.2.locals ≤ M.2.2.2.2.locals
def rst (r : Option Int32) (st : List vv) : List vv := match r with
  | none => st
  | some x => vI x :: st
theorem vcallB {s : State} {args : Array Value} {idx n : Nat} (hts : ∀ w ∈ wsG, w.before args s = true) (h1 : Cond.methodLink M.1.cls idx M'.1 ∈ wsG) (h2 : mfB M' n) (hR : rmc M M') : CallB M.2.2.2.2 s args M.1.cls idx M'.1 M'.2.1 M'.2.2.1 M'.2.2.2.1 (vws M') M'.2.2.2.2 M'.2.2.2.2.cells M'.2.2.2.2.slots n :=
  callB_of (ws' := wsG) n hts (vws_good h2.2.1) rfl rfl rfl (hts _ h2.1) (hts _ h1) h2.2.2 hR
theorem vPc_blind {al : vk → Nat} {vs : List vv} : FrameBlind (va_Pc (vs.map (mv al)) (fun U => G.2.2 ≤ U.heap.size ∧ Hol G al w U.heap ∧ Kk G U)) := fun a U g mk q => by
  obtain ⟨q0, q1, q2, q3⟩ := q
  exact ⟨q0, q1, q2, va_K.moved (u := U) (U := U.calling g mk a) (Vm.Alike.refl U.vm) q3.1, va_Nw.same rfl rfl q3.2.1, q3.2.2.moved (Vm.Alike.refl U.vm)⟩
theorem lvw_cat (al : vk → Nat) (st : List vv) : ((st.map (mv al)).map fun v => v.category).sum = lvw st := by
  unfold lvw
  rw [List.map_map]
  congr 1
  refine List.map_congr_left fun v _ => mv_cat al v
theorem vbind {α β : Type} {x : Option α} {f : α → Option β} {b : β} (h : x.bind f = some b) : ∃ a, x = some a ∧ f a = some b := by
  cases x with
  | none => cases h
  | some a => exact ⟨a, rfl, h⟩
/-- what is behind a call -/
theorem V.back {γ : Type} {ψ : γ → Option Int32 × vw} {K : γ → Option β} (kk : ∀ a, V l G M o φ (K a) (pc + 3) L (rst (ψ a).1 st) (ψ a).2 (cs + M'.2.2.2.2.cells) (sl + M'.2.2.2.2.slots))
    {p : Program} {e : Env} {s : State} {m : MethodId} {args : Array Value} {below : List Frame} {meth : Method} {c : Code} {al0 al : vk → Nat} {H : Heap} {locs : List Loc} {ls : Array Slot} {stk : List Value} {a : Array Value}
    (S : Sd G M p s m args meth c) (hB : bA o al0 al) (hS : va_S (fun q : Nat => G.2.2 ≤ q) s.heap H locs) (hl : lv_has ls M.2.2.1 (ml al L)) {b : β} {a1 : γ} (hr : K a1 = some b)
    (hrun : va_Run p l e M.2.2.2.2 s m args below meth c H locs cs sl M'.2.2.2.2.cells M'.2.2.2.2.slots (F0 m pc ls stk) (st.map (mv al)) (Qp G none al (ψ a1).1 (ψ a1).2 a) (fun q : Nat => G.2.2 ≤ q)) :
    W p l e M.2.2.2.2 s m args below meth c H locs cs sl (MQ below (Qp G o al0 (φ b).1 (φ b).2) args s M.2.2.2.2.cells M.2.2.2.2.slots (fun q : Nat => G.2.2 ≤ q)) (F0 m pc ls stk) := by
  have kk1 := kk a1
  generalize (ψ a1).1 = r1 at hrun kk1
  generalize (ψ a1).2 = w1 at hrun kk1
  cases r1 with
  | none =>
    refine va_callv (a := a) hrun hS (fun _ _ h => h) (fun _ h => h) (fun u t H1 locs1 ht hvm hp hb hz hk hS1 => ?_)
    have hu : u = al := hp
    subst hu
    have hH1 : Hol G u w1 H1 := by rw [← ht]; exact hb
    exact kk1 p e s m args below meth c al0 u H1 locs1 ls S hB hH1 hS1 hl b hr
  | some x =>
    refine va_calli (a := a) hrun hS (fun _ _ h => h) (fun _ h => h) (fun y u t H1 locs1 ht hvm hp hb hz hk hS1 => ?_)
    have hu : u = al := hp.2
    subst hu
    have hx : y = x := hp.1
    subst hx
    have hH1 : Hol G u w1 H1 := by rw [← ht]; exact hb
    exact kk1 p e s m args below meth c al0 u H1 locs1 ls S hB hH1 hS1 hl b hr
set_option maxHeartbeats 1000000 in
theorem V.callV {k : vk} {ci idx n : Nat} {fs : List vf} {T : u_T} {N : Nat} {As stk : List vv} {γ : Type} {ψ : γ → Option Int32 × vw} {res' : Option γ} {K : γ → Option β} (hd : decode M.2.1 pc = .ok (.invokevirtual idx, 3)) (h1 : Cond.methodLink M.1.cls idx M'.1 ∈ wsG) (h2 : mfV M' n) (hn : As.length = n) (hR : rmc M M') (hcs : cs + M'.2.2.2.2.cells ≤ M.2.2.2.2.cells ∧ sl + M'.2.2.2.2.slots ≤ M.2.2.2.2.slots) (hw : w k = some (.inl (ci, fs))) (hc : vwCl[ci]? = some (M'.1.cls, T, N)) (hst : lvw st ≤ 8) (hstk : stk = As.reverse ++ vR k :: st) (hm : Rt l G M' none ψ (vR k :: As) w res')
    (kk : ∀ a, V l G M o φ (K a) (pc + 3) L (rst (ψ a).1 st) (ψ a).2 (cs + M'.2.2.2.2.cells) (sl + M'.2.2.2.2.slots)) : V l G M o φ (res'.bind K) pc L stk w cs sl := by
  subst hstk
  intro p e s m args below meth c al0 al H locs ls S hB hH hS hl b hr
  obtain ⟨a1, e1, e2⟩ := vbind hr
  have hM := hm al a1 e1
  have ha : va_at G.1 vwCl (al k, .inr (ci, fs.map (mf al))) H := hH.1 _ _ hw
  have hN0 : G.2.2 ≤ H.size := Nat.le_trans S.2.2.2.2.2.2.2.2.2 hS.1
  refine V.back (M' := M') (ψ := ψ) (K := K) kk S hB hS hl e2 (va_runV (As := As.map (mv al)) (rest := st.map (mv al)) (b := al k) ⟨S.1, S.2.1, S.2.2.2.1, S.2.2.2.2.1, S.2.2.2.2.2.1⟩ hM ⟨vcallB S.2.2.2.2.2.1 h1 h2.2.2 hR, S.2.2.2.2.2.1 _ h2.1, S.2.2.2.2.2.1 _ h2.2.1⟩ ⟨vPc_blind (vs := vR k :: As), va_recv S.2.2.2.2.2.2.2.2.1.1 (va_P1 ha) hc (q0 := 0) rfl, fun U hU hW => ⟨rfl, by rw [hU]; exact hN0, by rw [hU]; exact hH, S.2.2.2.2.2.2.2.2.1.warm hW⟩⟩ rfl (by rw [List.length_map]; exact hn) hl.1 ?_ (lv_room (by rw [lvw_cat]; exact hst)) hd hcs)
  show (As.reverse ++ vR k :: st).map (mv al) = (As.map (mv al)).reverse ++ .ref (al k) :: st.map (mv al)
  rw [List.map_append, List.map_reverse]
  rfl
set_option maxHeartbeats 1000000 in
theorem V.callS {idx n : Nat} {As stk : List vv} {γ : Type} {ψ : γ → Option Int32 × vw} {res' : Option γ} {K : γ → Option β} (hd : decode M.2.1 pc = .ok (.invokestatic idx, 3)) (h1 : Cond.methodLink M.1.cls idx M'.1 ∈ wsG) (h2 : mfS M' n) (hn : As.length = n) (hR : rmc M M') (hcs : cs + M'.2.2.2.2.cells ≤ M.2.2.2.2.cells ∧ sl + M'.2.2.2.2.slots ≤ M.2.2.2.2.slots) (hst : lvw st ≤ 8) (hstk : stk = As.reverse ++ st) (hm : Rt l G M' none ψ As w res')
    (kk : ∀ a, V l G M o φ (K a) (pc + 3) L (rst (ψ a).1 st) (ψ a).2 (cs + M'.2.2.2.2.cells) (sl + M'.2.2.2.2.slots)) : V l G M o φ (res'.bind K) pc L stk w cs sl := by
  subst hstk
  intro p e s m args below meth c al0 al H locs ls S hB hH hS hl b hr
  obtain ⟨a1, e1, e2⟩ := vbind hr
  have hM := hm al a1 e1
  have hN0 : G.2.2 ≤ H.size := Nat.le_trans S.2.2.2.2.2.2.2.2.2 hS.1
  refine V.back (M' := M') (ψ := ψ) (K := K) kk S hB hS hl e2 (va_runS (As := As.map (mv al)) (rest := st.map (mv al)) ⟨S.1, S.2.1, S.2.2.2.1, S.2.2.2.2.1, S.2.2.2.2.2.1⟩ hM ⟨vcallB S.2.2.2.2.2.1 h1 h2.2 hR, S.2.2.2.2.2.1 _ h2.1⟩ ⟨vPc_blind (vs := As), fun U hU hW => ⟨rfl, by rw [hU]; exact hN0, by rw [hU]; exact hH, S.2.2.2.2.2.2.2.2.1.warm hW⟩⟩ rfl (by rw [List.length_map]; exact hn) hl.1 ?_ (lv_room (by rw [lvw_cat]; exact hst)) hd hcs)
  show (As.reverse ++ st).map (mv al) = (As.map (mv al)).reverse ++ st.map (mv al)
  rw [List.map_append, List.map_reverse]
set_option maxHeartbeats 1000000 in
/-- the call of WaxVoices.holds by a nest mate -/
theorem V.callN {As stk : List vv} {γ : Type} {ψ : γ → Option Int32 × vw} {res' : Option γ} {K : γ → Option β} (hown : M.1.cls = RX1) (hy : M'.1 = yX7_holds) (hd : decode M.2.1 pc = .ok (.invokestatic 52, 3)) (h2 : mfS M' 2) (hn : As.length = 2) (hR : rmc M M') (hcs : cs + M'.2.2.2.2.cells ≤ M.2.2.2.2.cells ∧ sl + M'.2.2.2.2.slots ≤ M.2.2.2.2.slots) (hst : lvw st ≤ 8) (hstk : stk = As.reverse ++ st) (hm : Rt l G M' none ψ As w res')
    (kk : ∀ a, V l G M o φ (K a) (pc + 3) L (rst (ψ a).1 st) (ψ a).2 (cs + M'.2.2.2.2.cells) (sl + M'.2.2.2.2.slots)) : V l G M o φ (res'.bind K) pc L stk w cs sl := by
  subst hstk
  intro p e s m args below meth c al0 al H locs ls S hB hH hS hl b hr
  obtain ⟨a1, e1, e2⟩ := vbind hr
  have hM := hm al a1 e1
  have hN0 : G.2.2 ≤ H.size := Nat.le_trans S.2.2.2.2.2.2.2.2.2 hS.1
  have hts := S.2.2.2.2.2.1
  refine V.back (M' := M') (ψ := ψ) (K := K) kk S hB hS hl e2 (va_runSN (As := As.map (mv al)) (rest := st.map (mv al)) (host := RX7) (Ts := wsG) (own := M.1.cls) ⟨S.1, S.2.1, S.2.2.2.1, S.2.2.2.2.1, hts⟩ hM ⟨va_cnB (ws' := wsG) 2 hts (vws_good h2.2.2.1) rfl rfl rfl (by rw [hown, hy]; exact S.2.2.2.2.2.2.2.2.1.2.1) (hts _ h2.2.1) h2.2.2.2 hR, hts _ h2.1, trivial⟩ ⟨vPc_blind (vs := As), fun U hU hW => ⟨rfl, by rw [hU]; exact hN0, by rw [hU]; exact hH, S.2.2.2.2.2.2.2.2.1.warm hW⟩⟩ rfl (by rw [List.length_map]; exact hn) hl.1 ?_ (lv_room (by rw [lvw_cat]; exact hst)) hd hcs)
  show (As.reverse ++ st).map (mv al) = (As.map (mv al)).reverse ++ st.map (mv al)
  rw [List.map_append, List.map_reverse]
/-- Math -/
theorem V.mmax {idx : Nat} {x y : Int32} (hd : decode M.2.1 pc = .ok (.invokestatic idx, 3)) (h1 : Cond.methodLink M.1.cls idx Lib.Math.max.name ∈ wsG) (hf : 1 ≤ M.2.2.2.2.frames) (hlo : lvw st + 13 ≤ M.2.2.2.2.locals) (hc : cs ≤ M.2.2.2.2.cells) (hs : sl ≤ M.2.2.2.2.slots) (k : V l G M o φ res (pc + 3) L (vI (if x < y then y else x) :: st) w cs sl) : V l G M o φ res pc L (vI y :: vI x :: st) w cs sl := by
  intro p e s m args below meth c al0 al H locs ls S hB hH hS hl b hr
  have hts := S.2.2.2.2.2.1
  exact va_mmax S.1 S.2.1 (S.2.2.2.1.trans hl.1.symm) S.2.2.2.2.1 (hts _ h1) (hts _ sm_Mmax) (hts _ ini_J9) (hts _ co_Mmax) hf (by rw [lvw_cat]; exact hlo) hc hs hd (k p e s m args below meth c al0 al H locs ls S hB hH hS hl b hr)
theorem V.mmin {idx : Nat} {x y : Int32} (hd : decode M.2.1 pc = .ok (.invokestatic idx, 3)) (h1 : Cond.methodLink M.1.cls idx Lib.Math.min.name ∈ wsG) (hf : 1 ≤ M.2.2.2.2.frames) (hlo : lvw st + 13 ≤ M.2.2.2.2.locals) (hc : cs ≤ M.2.2.2.2.cells) (hs : sl ≤ M.2.2.2.2.slots) (k : V l G M o φ res (pc + 3) L (vI (if y < x then y else x) :: st) w cs sl) : V l G M o φ res pc L (vI y :: vI x :: st) w cs sl := by
  intro p e s m args below meth c al0 al H locs ls S hB hH hS hl b hr
  have hts := S.2.2.2.2.2.1
  exact va_mmin S.1 S.2.1 (S.2.2.2.1.trans hl.1.symm) S.2.2.2.2.1 (hts _ h1) (hts _ sm_Mmin) (hts _ ini_J9) (hts _ co_Mmin) hf (by rw [lvw_cat]; exact hlo) hc hs hd (k p e s m args below meth c al0 al H locs ls S hB hH hS hl b hr)
theorem V.mabs {idx : Nat} {x : Int32} (hd : decode M.2.1 pc = .ok (.invokestatic idx, 3)) (h1 : Cond.methodLink M.1.cls idx Lib.Math.abs.name ∈ wsG) (hf : 1 ≤ M.2.2.2.2.frames) (hlo : lvw st + 13 ≤ M.2.2.2.2.locals) (hc : cs ≤ M.2.2.2.2.cells) (hs : sl ≤ M.2.2.2.2.slots) (k : V l G M o φ res (pc + 3) L (vI (if 0 ≤ x then x else 0 - x) :: st) w cs sl) : V l G M o φ res pc L (vI x :: st) w cs sl := by
  intro p e s m args below meth c al0 al H locs ls S hB hH hS hl b hr
  have hts := S.2.2.2.2.2.1
  exact va_mabs S.1 S.2.1 (S.2.2.2.1.trans hl.1.symm) S.2.2.2.2.1 (hts _ h1) (hts _ sm_Mabs) (hts _ ini_J9) (hts _ co_Mabs) hf (by rw [lvw_cat]; exact hlo) hc hs hd (k p e s m args below meth c al0 al H locs ls S hB hH hS hl b hr)
theorem V.oinit {idx : Nat} {k : vk} (hd : decode M.2.1 pc = .ok (.invokespecial idx, 3)) (h1 : Cond.methodLink M.1.cls idx objectInit ∈ wsG) (hf : 1 ≤ M.2.2.2.2.frames) (hlo : lvw st + 12 ≤ M.2.2.2.2.locals) (kk : V l G M o φ res (pc + 3) L st w cs sl) : V l G M o φ res pc L (vR k :: st) w cs sl := by
  intro p e s m args below meth c al0 al H locs ls S hB hH hS hl b hr
  have hts := S.2.2.2.2.2.1
  exact W.objInit S.1 S.2.1 S.2.2.2.2.1 (hts _ h1) (hts _ im_Object) (hts _ co_Object) rfl (hl.1.trans S.2.2.2.1.symm) rfl hd hf (by show 2 * 0 + _ + 12 ≤ _; rw [lvw_cat]; omega) (kk p e s m args below meth c al0 al H locs ls S hB hH hS hl b hr)
end VCalls
