/-! rows for the law's own walk: its script is an old cell; its frame holds keys of kind 0 alone -/
def LW (p : Program) (l : Launch) (e : Env) (s : State) (m : MethodId) (below : List Frame) (meth : Method) (c : Code) (b : Nat) (G : vg) (pc : Nat) (L : vls) (st : List vv) (w : vw) (cs sl : Nat) : Prop :=
  ∀ (al : vk → Nat) (H : Heap) (locs : List Loc) (ls : Array Slot), Hol G al w H → va_S (fun q : Nat => G.2.2 ≤ q) s.heap H locs → lv_has ls 4 ((0, .ref b) :: ml al L) →
    W p l e room_1 s m #[Value.ref b] below meth c H locs cs sl (lw_Z below #[Value.ref b] s) (F0 m pc ls (st.map (mv al)))
/-- what stands during the law -/
def LSt (G : vg) (p : Program) (s : State) (m : MethodId) (meth : Method) (c : Code) (b L : Nat) (xs : Nat → Int32) : Prop :=
  p.tables.exec = Jvm.exec ∧ c.code = code ∧ meth.sig.returnType = ret ∧ c.maxLocals = 4 ∧ s.vm.findClass RL = some m.cls ∧ (∀ w ∈ wsG, w.before #[Value.ref b] s = true) ∧ va_X b L xs s s.heap ∧ b < s.heap.size ∧ meth.locks = false ∧ Kk G s ∧ G.2.2 = s.heap.size ∧ L ≤ 3072
section LRows
variable {p : Program} {l : Launch} {e : Env} {s : State} {m : MethodId} {below : List Frame} {meth : Method} {c : Code} {b n : Nat} {G : vg} {xs : Nat → Int32} {pc : Nat} {L : vls} {st : List vv} {w : vw} {cs sl : Nat}
theorem LW.widen {k q : Nat} (h1 : cs ≤ k) (h2 : sl ≤ q) (kk : LW p l e s m below meth c b G pc L st w k q) : LW p l e s m below meth c b G pc L st w cs sl := fun al H locs ls hH hS hl => W.widen h1 h2 (kk al H locs ls hH hS hl)
theorem ll_at {al : vk → Nat} {ls : Array Slot} {i : Nat} {v : vv} (hl : lv_has ls 4 ((0, .ref b) :: ml al L)) (q : Nat) (h : L[q]? = some (i, v)) : ls[i]? = some (.val (mv al v)) :=
  lv_at hl (q + 1) (by rw [List.getElem?_cons_succ]; unfold ml; rw [List.getElem?_map, h]; rfl)
theorem LW.aload (S : LSt G p s m meth c b n xs) {i : Fin 4} {x : vk} (hd : decode code pc = .ok (.aload_n i, 1)) (q : Nat) (h : L[q]? = some ((i : Nat), vR x)) (kk : LW p l e s m below meth c b G (pc + 1) L (vR x :: st) w cs sl) : LW p l e s m below meth c b G pc L st w cs sl :=
  fun al H locs ls hH hS hl => lv_aload_n S.1 S.2.1 hd rfl (ll_at hl q h) (kk al H locs ls hH hS hl)
theorem LW.iconst (S : LSt G p s m meth c b n xs) {k : Int} {v : Int32} (hd : decode code pc = .ok (.iconst k, 1)) (hv : Int32.ofInt k = v) (kk : LW p l e s m below meth c b G (pc + 1) L (vI v :: st) w cs sl) : LW p l e s m below meth c b G pc L st w cs sl :=
  fun al H locs ls hH hS hl => lv_iconst S.1 S.2.1 hd hv (kk al H locs ls hH hS hl)
theorem LW.goto (S : LSt G p s m meth c b n xs) {off : Int} (tgt : Nat) (hd : decode code pc = .ok (.goto off, 3)) (ht : (pc : Int) + off = (tgt : Int)) (kk : LW p l e s m below meth c b G tgt L st w cs sl) : LW p l e s m below meth c b G pc L st w cs sl :=
  fun al H locs ls hH hS hl => lv_goto S.1 S.2.1 hd ht (kk al H locs ls hH hS hl)
theorem LW.ifeq (S : LSt G p s m meth c b n xs) {x : Int32} {off : Int} (tgt : Nat) (hd : decode code pc = .ok (.ifCond .eq off, 3)) (ht : (pc : Int) + off = (tgt : Int)) (kt : x = 0 → LW p l e s m below meth c b G tgt L st w cs sl) (kf : ¬ x = 0 → LW p l e s m below meth c b G (pc + 3) L st w cs sl) : LW p l e s m below meth c b G pc L (vI x :: st) w cs sl :=
  fun al H locs ls hH hS hl => lv_if_eq S.1 S.2.1 hd ht (fun h => kt h al H locs ls hH hS hl) (fun h => kf h al H locs ls hH hS hl)
theorem LW.icmpeq (S : LSt G p s m meth c b n xs) {x : Int32} {off : Int} (tgt : Nat) (hd : decode code pc = .ok (.if_icmp .eq off, 3)) (ht : (pc : Int) + off = (tgt : Int)) (kt : LW p l e s m below meth c b G tgt L st w cs sl) : LW p l e s m below meth c b G pc L (vI x :: vI x :: st) w cs sl :=
  fun al H locs ls hH hS hl => lv_icmp_eq S.1 S.2.1 hd ht (fun _ => kt al H locs ls hH hS hl) (fun h => absurd rfl h)
/-- an int of the script: aload_0, iload_3, iconst, iadd, iaload -/
theorem LW.arg (S : LSt G p s m meth c b n xs) {i k : Nat} {z : Int} (q : Nat) (hq : L[q]? = some (3, vI (nI i))) (d0 : decode code pc = .ok (.aload_n 0, 1)) (d1 : decode code (pc + 1) = .ok (.iload_n 3, 1)) (d2 : decode code (pc + 2) = .ok (.iconst z, 1)) (d3 : decode code (pc + 3) = .ok (.iadd, 1)) (d4 : decode code (pc + 4) = .ok (.iaload, 1)) (hz : Int32.ofInt z = nI k) (hi : i + k < n) (kk : LW p l e s m below meth c b G (pc + 5) L (vI (xs (i + k)) :: st) w cs sl) : LW p l e s m below meth c b G pc L st w cs sl := by
  intro al H locs ls hH hS hl
  obtain ⟨hx, hb, hr, hml, hown, hts, hX, hbl, hlk, hK, hG, hL⟩ := S
  refine lv_aload_n hx hb d0 rfl (lv_at hl 0 rfl) ?_
  refine lv_iload_n hx hb d1 rfl (ll_at hl q hq) ?_
  refine lv_iconst hx hb d2 hz ?_
  refine lv_iadd hx hb d3 ?_
  rw [nI_add]
  refine va_sld hx hb hX hbl (by rw [hG]; exact Nat.not_le.mpr hbl) hS (vp_in_nI hi (by omega)) d4 ?_
  rw [nI_clamp (by omega)]
  exact kk al H locs ls hH hS hl
set_option maxHeartbeats 1000000 in
theorem LW.call (S : LSt G p s m meth c b n xs) {M' : vmt} {o' : Option vw} {k : vk} {ci idx na : Nat} {fs : List vf} {T : u_T} {N : Nat} {As stk : List vv} {γ : Type} {ψ : γ → Option Int32 × vw} {res' : Option γ} {a : γ} {x : Int32} (hd : decode code pc = .ok (.invokevirtual idx, 3)) (h1 : Cond.methodLink RL idx M'.1 ∈ wsG) (h2 : mfV M' na) (hn : As.length = na) (hR : M'.2.2.2.2.frames + 1 ≤ 10 ∧ 8 + (M'.2.2.1 + 11) + M'.2.2.2.2.locals ≤ 370) (hcs : cs + M'.2.2.2.2.cells ≤ 600000 ∧ sl + M'.2.2.2.2.slots ≤ 7302250) (hw : w k = some (.inl (ci, fs))) (hc : vwCl[ci]? = some (M'.1.cls, T, N)) (hst : lvw st ≤ 8) (hstk : stk = As.reverse ++ vR k :: st) (hzL : kzl L = true) (hzs : kzs st = true) (hm : Rt l G M' o' ψ (vR k :: As) w res') (hres : res' = some a) (hbo : ∀ al al', bA o' al al' → ∀ k, k.1 = 0 → al' k = al k) (hx0 : (ψ a).1 = some x)
    (kk : LW p l e s m below meth c b G (pc + 3) L (vI x :: st) (ψ a).2 (cs + M'.2.2.2.2.cells) (sl + M'.2.2.2.2.slots)) : LW p l e s m below meth c b G pc L stk w cs sl := by
  subst hstk
  intro al H locs ls hH hS hl
  obtain ⟨hx, hb, hr, hml, hown, hts, hX, hbl, hlk, hK, hG, hL⟩ := S
  have hM := hm al a hres
  rw [hx0] at hM
  have ha : va_at G.1 vwCl (al k, .inr (ci, fs.map (mf al))) H := hH.1 _ _ hw
  have hN0 : G.2.2 ≤ H.size := by rw [hG]; exact hS.1
  have hcb : CallB room_1 s #[Value.ref b] RL idx M'.1 M'.2.1 M'.2.2.1 M'.2.2.2.1 (vws M') M'.2.2.2.2 M'.2.2.2.2.cells M'.2.2.2.2.slots na := callB_of (ws' := wsG) na hts (vws_good h2.2.2.2.1) rfl rfl rfl (hts _ h2.2.2.1) (hts _ h1) h2.2.2.2.2 hR
  refine va_calli (a := ((vR k :: As).map (mv al)).toArray) (post := fun y (u : vk → Nat) => y = x ∧ bA o' al u) (B := fun u t => Hol G u (ψ a).2 t.heap) (A1 := fun q : Nat => G.2.2 ≤ q) (va_runV (As := As.map (mv al)) (rest := st.map (mv al)) (b := al k) ⟨hx, hb, hml, hown, hts⟩ hM ⟨hcb, hts _ h2.1, hts _ h2.2.1⟩ ⟨vPc_blind (vs := vR k :: As), va_recv hK.1 (va_P1 ha) hc (q0 := 0) rfl, fun U hU hW => ⟨rfl, by rw [hU]; exact hN0, by rw [hU]; exact hH, hK.warm hW⟩⟩ rfl (by rw [List.length_map]; exact hn) hl.1 (by
      show (As.reverse ++ vR k :: st).map (mv al) = (As.map (mv al)).reverse ++ .ref (al k) :: st.map (mv al)
      rw [List.map_append, List.map_reverse]
      rfl) (lv_room (by rw [lvw_cat]; exact hst)) hd hcs) hS (fun _ _ h => h) (fun _ h => h) (fun y u t H1 locs1 ht hvm hp hb2 hz hk hS1 => ?_)
  obtain ⟨hy, hu⟩ := hp
  subst hy
  have hu0 := hbo al u hu
  have hH1 : Hol G u (ψ a).2 H1 := by rw [← ht]; exact hb2
  have h := kk u H1 locs1 ls hH1 hS1 (by rw [kzl_mv hzL hu0]; exact hl)
  have e3 : (vI y :: st).map (mv u) = .int y :: st.map (mv al) := by
    show Value.int y :: st.map (mv u) = _
    rw [kzs_mv hzs hu0]
  rw [e3] at h
  exact h
theorem bo_none : ∀ al al' : vk → Nat, bA none al al' → ∀ k, k.1 = 0 → al' k = al k := fun al al' h k _ => by rw [show al' = al from h]
theorem bo_oF : ∀ al al' : vk → Nat, bA oF al al' → ∀ k, k.1 = 0 → al' k = al k := fun _ _ h => h.oF
/-- the head of the loop -/
theorem LW.head (S : LSt G p s m meth c b n xs) {i : Nat} (hi : i ≤ n) (d0 : decode code 18 = .ok (.iload_n 3, 1)) (d1 : decode code 19 = .ok (.aload_n 0, 1)) (d2 : decode code 20 = .ok (.arraylength, 1)) (d3 : decode code 21 = .ok (.bipush 6, 2)) (d4 : decode code 23 = .ok (.isub, 1)) {off : Int} (tgt : Nat) (d5 : decode code 24 = .ok (.if_icmp .gt off, 3)) (ht : ((24 : Nat) : Int) + off = (tgt : Int)) (d6 : decode code 27 = .ok (.aload_n 0, 1)) (d7 : decode code 28 = .ok (.iload_n 3, 1)) (d8 : decode code 29 = .ok (.iaload, 1)) (q : Nat) (hq : L[q]? = some (3, vI (nI i)))
    (kt : LW p l e s m below meth c b G tgt L [] w cs sl) (kf : i + 6 ≤ n → LW p l e s m below meth c b G 30 L [vI (xs i)] w cs sl) : LW p l e s m below meth c b G 18 L [] w cs sl := by
  intro al H locs ls hH hS hl
  obtain ⟨hx, hb, hr, hml, hown, hts, hX, hbl, hlk, hK, hG, hL⟩ := S
  have hbA : ¬ G.2.2 ≤ b := by rw [hG]; exact Nat.not_le.mpr hbl
  refine lv_iload_n hx hb d0 rfl (ll_at hl q hq) ?_
  refine lv_aload_n hx hb d1 rfl (lv_at hl 0 rfl) ?_
  refine va_slen hx hb hX hbl hbA hS d2 ?_
  refine lv_bipush (v := 6) hx hb d3 (by decide) ?_
  refine lv_isub hx hb d4 ?_
  refine lv_icmp_gt hx hb d5 ht (fun h => kt al H locs ls hH hS hl) (fun h => ?_)
  have h6 : i + 6 ≤ n := by
    have e1 : (nI n - nI 6).toInt = (n : Int) - (6 : Nat) := pk_sub_toInt (by omega) (by decide)
    have e2 : (nI i).toInt = (i : Int) := nI_toInt (by omega)
    have h' : ¬ (nI n - nI 6 < nI i) := h
    rw [Int32.lt_iff_toInt_lt, e1, e2] at h'
    omega
  refine lv_aload_n hx hb d6 rfl (lv_at hl 0 rfl) ?_
  refine lv_iload_n hx hb d7 rfl (ll_at hl q hq) ?_
  refine va_sld hx hb hX hbl hbA hS (vp_in_nI (show i < n by omega) (by omega)) d8 ?_
  rw [nI_clamp (by omega)]
  exact kf h6 al H locs ls hH hS hl
theorem LW.and31 (S : LSt G p s m meth c b n xs) {x : Int32} (d0 : decode code pc = .ok (.bipush 31, 2)) (d1 : decode code (pc + 2) = .ok (.iand, 1)) (kk : LW p l e s m below meth c b G (pc + 3) L (vI (x &&& 31) :: st) w cs sl) : LW p l e s m below meth c b G pc L (vI x :: st) w cs sl :=
  fun al H locs ls hH hS hl => lv_bipush (v := 31) S.1 S.2.1 d0 (by decide) (lv_iand S.1 S.2.1 d1 (kk al H locs ls hH hS hl))
theorem LW.tsI (S : LSt G p s m meth c b n xs) {x : Int32} {dflt hi : Int} {offs : Array Int} {len : Nat} (k tgt : Nat) (hd : decode code pc = .ok (.tableswitch dflt 0 hi offs, len)) (hx : x = OfNat.ofNat k) (h1 : ¬ (OfNat.ofNat k : Int32).toInt < 0) (h2 : ¬ hi < (OfNat.ofNat k : Int32).toInt) {off : Int} (ho : offs[((OfNat.ofNat k : Int32).toInt - 0).toNat]? = some off) (ht : (pc : Int) + off = (tgt : Int)) (kk : LW p l e s m below meth c b G tgt L st w cs sl) : LW p l e s m below meth c b G pc L (vI x :: st) w cs sl := by
  subst hx
  exact fun al H locs ls hH hS hl => lv_tableIn S.1 S.2.1 hd h1 h2 ho ht (kk al H locs ls hH hS hl)
theorem LW.tsO (S : LSt G p s m meth c b n xs) {x : Int32} {dflt hi : Int} {offs : Array Int} {len : Nat} (tgt : Nat) (hd : decode code pc = .ok (.tableswitch dflt 0 hi offs, len)) (h : x.toInt < 0 ∨ hi < x.toInt) (ht : (pc : Int) + dflt = (tgt : Int)) (kk : LW p l e s m below meth c b G tgt L st w cs sl) : LW p l e s m below meth c b G pc L (vI x :: st) w cs sl :=
  fun al H locs ls hH hS hl => lv_tableOut S.1 S.2.1 hd h ht (kk al H locs ls hH hS hl)
/-- the end of a turn: i += 6, back to the head -/
theorem LW.next (S : LSt G p s m meth c b n xs) {i : Nat} (hi : i + 6 ≤ n) (d0 : decode code 1210 = .ok (.iinc 3 6, 3)) {off : Int} (d1 : decode code 1213 = .ok (.goto off, 3)) (ht : ((1213 : Nat) : Int) + off = ((18 : Nat) : Int)) (kk : LW p l e s m below meth c b G 18 [(1, vR (0, 0)), (2, vR (0, 1)), (3, vI (nI (i + 6)))] [] w cs sl) : LW p l e s m below meth c b G 1210 [(1, vR (0, 0)), (2, vR (0, 1)), (3, vI (nI i))] [] w cs sl := by
  intro al H locs ls hH hS hl
  obtain ⟨hx, hb, hr, hml, hown, hts, hX, hbl, hlk, hK, hG, hL⟩ := S
  refine lv_iinc (v := nI (i + 6)) (lv' := [(3, .int (nI (i + 6))), (0, .ref b), (1, .ref (al (0, 0))), (2, .ref (al (0, 1)))]) hx hb d0 hl (k := 3) rfl (by rw [← nI_add]; rfl) (by decide) rfl (fun ls' hl' => ?_)
  refine lv_goto hx hb d1 ht ?_
  exact kk al H locs ls' hH hS (lv_sub hl' [1, 2, 3, 0] rfl)
/-- the end of the law -/
theorem LW.done (S : LSt G p s m meth c b n xs) (hcs : cs ≤ 600000) (hsl : sl ≤ 7302250) (d0 : decode code 1216 = .ok (.iconst 1, 1)) (d1 : decode code 1217 = .ok (.ireturn, 1)) : LW p l e s m below meth c b G 1216 L [] w cs sl := by
  intro al H locs ls hH hS hl
  obtain ⟨hx, hb, hr, hml, hown, hts, hX, hbl, hlk, hK, hG, hL⟩ := S
  refine lv_iconst (v := 1) hx hb d0 (by decide) ?_
  refine va_forget (fun q hq => by rw [← hG]; exact hS.2.2 q hq) ?_
  exact W.widen hcs hsl (lw_ret hx hb hr hlk d1)
end LRows
