section VRows
variable {l : Launch} {G : vg} {M : vmt} {o : Option vw} {β : Type} {φ : β → Option Int32 × vw} {res A B : Option β} {pc : Nat} {L : vls} {st : List vv} {w : vw} {cs sl : Nat}
theorem V.nil : V l G M o φ none pc L st w cs sl := fun _ _ _ _ _ _ _ _ _ _ _ _ _ _ _ _ _ _ _ h => by cases h
theorem V.eq (h : A = B) (k : V l G M o φ B pc L st w cs sl) : V l G M o φ A pc L st w cs sl := h ▸ k
/-- a check that must hold -/
def gd {α : Type} (b : Bool) (x : Option α) : Option α := if b = true then x else none
theorem gd_t {α : Type} {b : Bool} (h : b = true) (x : Option α) : gd b x = x := if_pos h
theorem gd_f {α : Type} {b : Bool} (h : ¬ b = true) (x : Option α) : gd b x = none := if_neg h
theorem V.chk {b : Bool} (k : b = true → V l G M o φ A pc L st w cs sl) : V l G M o φ (gd b A) pc L st w cs sl := by
  by_cases h : b = true
  · rw [gd_t h]; exact k h
  · rw [gd_f h]; exact V.nil
theorem ml_at {al : vk → Nat} {i : Nat} {v : vv} {ls : Array Slot} {n : Nat} (hl : lv_has ls n (ml al L)) (k : Nat) (h : L[k]? = some (i, v)) : ls[i]? = some (.val (mv al v)) :=
  lv_at hl k (by unfold ml; rw [List.getElem?_map, h]; rfl)

theorem V.iconst {n : Int} {v : Int32} (hd : decode M.2.1 pc = .ok (.iconst n, 1)) (hv : Int32.ofInt n = v) (k : V l G M o φ res (pc + 1) L (vI v :: st) w cs sl) : V l G M o φ res pc L (st) w cs sl := by
  intro p e s m args below meth c al0 al H locs ls S hB hH hS hl b hr
  exact lv_iconst S.1 S.2.1 hd hv (k p e s m args below meth c al0 al H locs ls S hB hH hS hl b hr)

theorem V.bipush {n : Int} {v : Int32} (hd : decode M.2.1 pc = .ok (.bipush n, 2)) (hv : (Int8.ofInt n).toInt32 = v) (k : V l G M o φ res (pc + 2) L (vI v :: st) w cs sl) : V l G M o φ res pc L (st) w cs sl := by
  intro p e s m args below meth c al0 al H locs ls S hB hH hS hl b hr
  exact lv_bipush S.1 S.2.1 hd hv (k p e s m args below meth c al0 al H locs ls S hB hH hS hl b hr)

theorem V.sipush {n : Int} {v : Int32} (hd : decode M.2.1 pc = .ok (.sipush n, 3)) (hv : (Int16.ofInt n).toInt32 = v) (k : V l G M o φ res (pc + 3) L (vI v :: st) w cs sl) : V l G M o φ res pc L (st) w cs sl := by
  intro p e s m args below meth c al0 al H locs ls S hB hH hS hl b hr
  exact lv_sipush S.1 S.2.1 hd hv (k p e s m args below meth c al0 al H locs ls S hB hH hS hl b hr)

theorem V.lconst {n : Fin 2} {v : Int64} (hd : decode M.2.1 pc = .ok (.lconst n, 1)) (hv : Int64.ofNat (n : Nat) = v) (k : V l G M o φ res (pc + 1) L (vJ v :: st) w cs sl) : V l G M o φ res pc L (st) w cs sl := by
  intro p e s m args below meth c al0 al H locs ls S hB hH hS hl b hr
  exact lv_lconst S.1 S.2.1 hd hv (k p e s m args below meth c al0 al H locs ls S hB hH hS hl b hr)

theorem V.ldc {i : Nat} {v : Int32} (hd : decode M.2.1 pc = .ok (.ldc i, 2)) (hv : Cond.constant M.1.cls i v ∈ wsG) (k : V l G M o φ res (pc + 2) L (vI v :: st) w cs sl) : V l G M o φ res pc L (st) w cs sl := by
  intro p e s m args below meth c al0 al H locs ls S hB hH hS hl b hr
  exact lv_ldc S.1 S.2.1 S.2.2.2.2.1 (S.2.2.2.2.2.1 _ hv) hd (k p e s m args below meth c al0 al H locs ls S hB hH hS hl b hr)

theorem V.ldcw {i : Nat} {v : Int32} (hd : decode M.2.1 pc = .ok (.ldc_w i, 3)) (hv : Cond.constant M.1.cls i v ∈ wsG) (k : V l G M o φ res (pc + 3) L (vI v :: st) w cs sl) : V l G M o φ res pc L (st) w cs sl := by
  intro p e s m args below meth c al0 al H locs ls S hB hH hS hl b hr
  exact lv_ldcw S.1 S.2.1 S.2.2.2.2.1 (S.2.2.2.2.2.1 _ hv) hd (k p e s m args below meth c al0 al H locs ls S hB hH hS hl b hr)

theorem V.ldc2 {i : Nat} {v : Int64} (hd : decode M.2.1 pc = .ok (.ldc2_w i, 3)) (hv : Cond.constantLong M.1.cls i v ∈ wsG) (k : V l G M o φ res (pc + 3) L (vJ v :: st) w cs sl) : V l G M o φ res pc L (st) w cs sl := by
  intro p e s m args below meth c al0 al H locs ls S hB hH hS hl b hr
  exact lv_ldc2 S.1 S.2.1 S.2.2.2.2.1 (S.2.2.2.2.2.1 _ hv) hd (k p e s m args below meth c al0 al H locs ls S hB hH hS hl b hr)

theorem V.iload_n {i : Fin 4} {x : Int32} (hd : decode M.2.1 pc = .ok (.iload_n i, 1)) (q : Nat) (hl2 : L[q]? = some ((i : Nat), vI x)) (k : V l G M o φ res (pc + 1) L (vI x :: st) w cs sl) : V l G M o φ res pc L (st) w cs sl := by
  intro p e s m args below meth c al0 al H locs ls S hB hH hS hl b hr
  exact lv_iload_n S.1 S.2.1 hd rfl (ml_at hl q hl2) (k p e s m args below meth c al0 al H locs ls S hB hH hS hl b hr)

theorem V.lload_n {i : Fin 4} {x : Int64} (hd : decode M.2.1 pc = .ok (.lload_n i, 1)) (q : Nat) (hl2 : L[q]? = some ((i : Nat), vJ x)) (k : V l G M o φ res (pc + 1) L (vJ x :: st) w cs sl) : V l G M o φ res pc L (st) w cs sl := by
  intro p e s m args below meth c al0 al H locs ls S hB hH hS hl b hr
  exact lv_lload_n S.1 S.2.1 hd rfl (ml_at hl q hl2) (k p e s m args below meth c al0 al H locs ls S hB hH hS hl b hr)

theorem V.aload_n {i : Fin 4} {x : vk} (hd : decode M.2.1 pc = .ok (.aload_n i, 1)) (q : Nat) (hl2 : L[q]? = some ((i : Nat), vR x)) (k : V l G M o φ res (pc + 1) L (vR x :: st) w cs sl) : V l G M o φ res pc L (st) w cs sl := by
  intro p e s m args below meth c al0 al H locs ls S hB hH hS hl b hr
  exact lv_aload_n S.1 S.2.1 hd rfl (ml_at hl q hl2) (k p e s m args below meth c al0 al H locs ls S hB hH hS hl b hr)

theorem V.iload {i : Nat} {x : Int32} (hd : decode M.2.1 pc = .ok (.iload i, 2)) (q : Nat) (hl2 : L[q]? = some (i, vI x)) (k : V l G M o φ res (pc + 2) L (vI x :: st) w cs sl) : V l G M o φ res pc L (st) w cs sl := by
  intro p e s m args below meth c al0 al H locs ls S hB hH hS hl b hr
  exact lv_iload S.1 S.2.1 hd (ml_at hl q hl2) (k p e s m args below meth c al0 al H locs ls S hB hH hS hl b hr)

theorem V.lload {i : Nat} {x : Int64} (hd : decode M.2.1 pc = .ok (.lload i, 2)) (q : Nat) (hl2 : L[q]? = some (i, vJ x)) (k : V l G M o φ res (pc + 2) L (vJ x :: st) w cs sl) : V l G M o φ res pc L (st) w cs sl := by
  intro p e s m args below meth c al0 al H locs ls S hB hH hS hl b hr
  exact lv_lload S.1 S.2.1 hd (ml_at hl q hl2) (k p e s m args below meth c al0 al H locs ls S hB hH hS hl b hr)

theorem V.aload {i : Nat} {x : vk} (hd : decode M.2.1 pc = .ok (.aload i, 2)) (q : Nat) (hl2 : L[q]? = some (i, vR x)) (k : V l G M o φ res (pc + 2) L (vR x :: st) w cs sl) : V l G M o φ res pc L (st) w cs sl := by
  intro p e s m args below meth c al0 al H locs ls S hB hH hS hl b hr
  exact lv_aload S.1 S.2.1 hd (ml_at hl q hl2) (k p e s m args below meth c al0 al H locs ls S hB hH hS hl b hr)

theorem V.iadd {x y : Int32} (hd : decode M.2.1 pc = .ok (.iadd, 1)) (k : V l G M o φ res (pc + 1) L (vI (x + y) :: st) w cs sl) : V l G M o φ res pc L (vI y :: vI x :: st) w cs sl := by
  intro p e s m args below meth c al0 al H locs ls S hB hH hS hl b hr
  exact lv_iadd S.1 S.2.1 hd (k p e s m args below meth c al0 al H locs ls S hB hH hS hl b hr)

theorem V.isub {x y : Int32} (hd : decode M.2.1 pc = .ok (.isub, 1)) (k : V l G M o φ res (pc + 1) L (vI (x - y) :: st) w cs sl) : V l G M o φ res pc L (vI y :: vI x :: st) w cs sl := by
  intro p e s m args below meth c al0 al H locs ls S hB hH hS hl b hr
  exact lv_isub S.1 S.2.1 hd (k p e s m args below meth c al0 al H locs ls S hB hH hS hl b hr)

theorem V.imul {x y : Int32} (hd : decode M.2.1 pc = .ok (.imul, 1)) (k : V l G M o φ res (pc + 1) L (vI (x * y) :: st) w cs sl) : V l G M o φ res pc L (vI y :: vI x :: st) w cs sl := by
  intro p e s m args below meth c al0 al H locs ls S hB hH hS hl b hr
  exact lv_imul S.1 S.2.1 hd (k p e s m args below meth c al0 al H locs ls S hB hH hS hl b hr)

theorem V.iand {x y : Int32} (hd : decode M.2.1 pc = .ok (.iand, 1)) (k : V l G M o φ res (pc + 1) L (vI (x &&& y) :: st) w cs sl) : V l G M o φ res pc L (vI y :: vI x :: st) w cs sl := by
  intro p e s m args below meth c al0 al H locs ls S hB hH hS hl b hr
  exact lv_iand S.1 S.2.1 hd (k p e s m args below meth c al0 al H locs ls S hB hH hS hl b hr)

theorem V.ior {x y : Int32} (hd : decode M.2.1 pc = .ok (.ior, 1)) (k : V l G M o φ res (pc + 1) L (vI (x ||| y) :: st) w cs sl) : V l G M o φ res pc L (vI y :: vI x :: st) w cs sl := by
  intro p e s m args below meth c al0 al H locs ls S hB hH hS hl b hr
  exact lv_ior S.1 S.2.1 hd (k p e s m args below meth c al0 al H locs ls S hB hH hS hl b hr)

theorem V.ixor {x y : Int32} (hd : decode M.2.1 pc = .ok (.ixor, 1)) (k : V l G M o φ res (pc + 1) L (vI (x ^^^ y) :: st) w cs sl) : V l G M o φ res pc L (vI y :: vI x :: st) w cs sl := by
  intro p e s m args below meth c al0 al H locs ls S hB hH hS hl b hr
  exact lv_ixor S.1 S.2.1 hd (k p e s m args below meth c al0 al H locs ls S hB hH hS hl b hr)

theorem V.ishl {x y : Int32} (hd : decode M.2.1 pc = .ok (.ishl, 1)) (k : V l G M o φ res (pc + 1) L (vI (x <<< (y &&& 31)) :: st) w cs sl) : V l G M o φ res pc L (vI y :: vI x :: st) w cs sl := by
  intro p e s m args below meth c al0 al H locs ls S hB hH hS hl b hr
  exact lv_ishl S.1 S.2.1 hd (k p e s m args below meth c al0 al H locs ls S hB hH hS hl b hr)

theorem V.ishr {x y : Int32} (hd : decode M.2.1 pc = .ok (.ishr, 1)) (k : V l G M o φ res (pc + 1) L (vI (x >>> (y &&& 31)) :: st) w cs sl) : V l G M o φ res pc L (vI y :: vI x :: st) w cs sl := by
  intro p e s m args below meth c al0 al H locs ls S hB hH hS hl b hr
  exact lv_ishr S.1 S.2.1 hd (k p e s m args below meth c al0 al H locs ls S hB hH hS hl b hr)

theorem V.iushr {x y : Int32} (hd : decode M.2.1 pc = .ok (.iushr, 1)) (k : V l G M o φ res (pc + 1) L (vI ((x.toUInt32 >>> (y.toUInt32 &&& Int32.toUInt32 31)).toInt32) :: st) w cs sl) : V l G M o φ res pc L (vI y :: vI x :: st) w cs sl := by
  intro p e s m args below meth c al0 al H locs ls S hB hH hS hl b hr
  exact lv_iushr S.1 S.2.1 hd rfl (k p e s m args below meth c al0 al H locs ls S hB hH hS hl b hr)

theorem V.idiv {x y : Int32} (hd : decode M.2.1 pc = .ok (.idiv, 1)) (hy : ¬ y = 0) (k : V l G M o φ res (pc + 1) L (vI (x / y) :: st) w cs sl) : V l G M o φ res pc L (vI y :: vI x :: st) w cs sl := by
  intro p e s m args below meth c al0 al H locs ls S hB hH hS hl b hr
  exact lv_idiv S.1 S.2.1 hd hy (k p e s m args below meth c al0 al H locs ls S hB hH hS hl b hr)

theorem V.irem {x y : Int32} (hd : decode M.2.1 pc = .ok (.irem, 1)) (hy : ¬ y = 0) (k : V l G M o φ res (pc + 1) L (vI (x - x / y * y) :: st) w cs sl) : V l G M o φ res pc L (vI y :: vI x :: st) w cs sl := by
  intro p e s m args below meth c al0 al H locs ls S hB hH hS hl b hr
  exact lv_irem S.1 S.2.1 hd hy (k p e s m args below meth c al0 al H locs ls S hB hH hS hl b hr)

theorem V.ineg {x : Int32} (hd : decode M.2.1 pc = .ok (.ineg, 1)) (k : V l G M o φ res (pc + 1) L (vI (-x) :: st) w cs sl) : V l G M o φ res pc L (vI x :: st) w cs sl := by
  intro p e s m args below meth c al0 al H locs ls S hB hH hS hl b hr
  exact lv_ineg S.1 S.2.1 hd (k p e s m args below meth c al0 al H locs ls S hB hH hS hl b hr)

theorem V.i2l {x : Int32} (hd : decode M.2.1 pc = .ok (.i2l, 1)) (k : V l G M o φ res (pc + 1) L (vJ x.toInt64 :: st) w cs sl) : V l G M o φ res pc L (vI x :: st) w cs sl := by
  intro p e s m args below meth c al0 al H locs ls S hB hH hS hl b hr
  exact lv_i2l S.1 S.2.1 hd rfl (k p e s m args below meth c al0 al H locs ls S hB hH hS hl b hr)

theorem V.lcmp {x y : Int64} (hd : decode M.2.1 pc = .ok (.lcmp, 1)) (k : V l G M o φ res (pc + 1) L (vI (lg_cmp x y) :: st) w cs sl) : V l G M o φ res pc L (vJ y :: vJ x :: st) w cs sl := by
  intro p e s m args below meth c al0 al H locs ls S hB hH hS hl b hr
  exact W.lcmp S.1 S.2.1 hd (k p e s m args below meth c al0 al H locs ls S hB hH hS hl b hr)

theorem V.dup {v : vv} (hd : decode M.2.1 pc = .ok (.dup, 1)) (hv : vcat v = 1) (k : V l G M o φ res (pc + 1) L (v :: v :: st) w cs sl) : V l G M o φ res pc L (v :: st) w cs sl := by
  intro p e s m args below meth c al0 al H locs ls S hB hH hS hl b hr
  exact lv_dup S.1 S.2.1 hd (by rw [mv_cat]; exact hv) (k p e s m args below meth c al0 al H locs ls S hB hH hS hl b hr)

theorem V.dup2 {u v : vv} (hd : decode M.2.1 pc = .ok (.dup2, 1)) (hu : vcat u = 1) (hv : vcat v = 1) (k : V l G M o φ res (pc + 1) L (u :: v :: u :: v :: st) w cs sl) : V l G M o φ res pc L (u :: v :: st) w cs sl := by
  intro p e s m args below meth c al0 al H locs ls S hB hH hS hl b hr
  exact lv_dup2_11 S.1 S.2.1 hd (by rw [mv_cat]; exact hu) (by rw [mv_cat]; exact hv) (k p e s m args below meth c al0 al H locs ls S hB hH hS hl b hr)

theorem V.goto {off : Int} (tgt : Nat) (hd : decode M.2.1 pc = .ok (.goto off, 3)) (ht : (pc : Int) + off = (tgt : Int)) (k : V l G M o φ res tgt L st w cs sl) : V l G M o φ res pc L st w cs sl := by
  intro p e s m args below meth c al0 al H locs ls S hB hH hS hl b hr
  exact lv_goto S.1 S.2.1 hd ht (k p e s m args below meth c al0 al H locs ls S hB hH hS hl b hr)

theorem vres_t {c : Prop} [Decidable c] {a : β} (h : c) (e : (if c then A else B) = some a) : A = some a := (if_pos h).symm.trans e
theorem vres_f {c : Prop} [Decidable c] {a : β} (h : ¬ c) (e : (if c then A else B) = some a) : B = some a := (if_neg h).symm.trans e

theorem V.icmp_eq {x y : Int32} {off : Int} (tgt : Nat) (hd : decode M.2.1 pc = .ok (.if_icmp .eq off, 3)) (ht : (pc : Int) + off = (tgt : Int)) (kt : V l G M o φ A tgt L st w cs sl) (kf : V l G M o φ B (pc + 3) L st w cs sl) : V l G M o φ (if x = y then A else B) pc L (vI y :: vI x :: st) w cs sl := by
  intro p e s m args below meth c al0 al H locs ls S hB hH hS hl b hr
  exact lv_icmp_eq S.1 S.2.1 hd ht (fun h => (kt p e s m args below meth c al0 al H locs ls S hB hH hS hl b (vres_t h hr))) (fun h => (kf p e s m args below meth c al0 al H locs ls S hB hH hS hl b (vres_f h hr)))

theorem V.if_eq {x : Int32} {off : Int} (tgt : Nat) (hd : decode M.2.1 pc = .ok (.ifCond .eq off, 3)) (ht : (pc : Int) + off = (tgt : Int)) (kt : V l G M o φ A tgt L st w cs sl) (kf : V l G M o φ B (pc + 3) L st w cs sl) : V l G M o φ (if x = 0 then A else B) pc L (vI x :: st) w cs sl := by
  intro p e s m args below meth c al0 al H locs ls S hB hH hS hl b hr
  exact lv_if_eq S.1 S.2.1 hd ht (fun h => (kt p e s m args below meth c al0 al H locs ls S hB hH hS hl b (vres_t h hr))) (fun h => (kf p e s m args below meth c al0 al H locs ls S hB hH hS hl b (vres_f h hr)))

theorem V.icmp_ne {x y : Int32} {off : Int} (tgt : Nat) (hd : decode M.2.1 pc = .ok (.if_icmp .ne off, 3)) (ht : (pc : Int) + off = (tgt : Int)) (kt : V l G M o φ A tgt L st w cs sl) (kf : V l G M o φ B (pc + 3) L st w cs sl) : V l G M o φ (if x = y then B else A) pc L (vI y :: vI x :: st) w cs sl := by
  intro p e s m args below meth c al0 al H locs ls S hB hH hS hl b hr
  exact lv_icmp_ne S.1 S.2.1 hd ht (fun h => (kt p e s m args below meth c al0 al H locs ls S hB hH hS hl b (vres_f h hr))) (fun h => (kf p e s m args below meth c al0 al H locs ls S hB hH hS hl b (vres_t h hr)))

theorem V.if_ne {x : Int32} {off : Int} (tgt : Nat) (hd : decode M.2.1 pc = .ok (.ifCond .ne off, 3)) (ht : (pc : Int) + off = (tgt : Int)) (kt : V l G M o φ A tgt L st w cs sl) (kf : V l G M o φ B (pc + 3) L st w cs sl) : V l G M o φ (if x = 0 then B else A) pc L (vI x :: st) w cs sl := by
  intro p e s m args below meth c al0 al H locs ls S hB hH hS hl b hr
  exact lv_if_ne S.1 S.2.1 hd ht (fun h => (kt p e s m args below meth c al0 al H locs ls S hB hH hS hl b (vres_f h hr))) (fun h => (kf p e s m args below meth c al0 al H locs ls S hB hH hS hl b (vres_t h hr)))

theorem V.icmp_lt {x y : Int32} {off : Int} (tgt : Nat) (hd : decode M.2.1 pc = .ok (.if_icmp .lt off, 3)) (ht : (pc : Int) + off = (tgt : Int)) (kt : V l G M o φ A tgt L st w cs sl) (kf : V l G M o φ B (pc + 3) L st w cs sl) : V l G M o φ (if x < y then A else B) pc L (vI y :: vI x :: st) w cs sl := by
  intro p e s m args below meth c al0 al H locs ls S hB hH hS hl b hr
  exact lv_icmp_lt S.1 S.2.1 hd ht (fun h => (kt p e s m args below meth c al0 al H locs ls S hB hH hS hl b (vres_t h hr))) (fun h => (kf p e s m args below meth c al0 al H locs ls S hB hH hS hl b (vres_f h hr)))

theorem V.if_lt {x : Int32} {off : Int} (tgt : Nat) (hd : decode M.2.1 pc = .ok (.ifCond .lt off, 3)) (ht : (pc : Int) + off = (tgt : Int)) (kt : V l G M o φ A tgt L st w cs sl) (kf : V l G M o φ B (pc + 3) L st w cs sl) : V l G M o φ (if x < 0 then A else B) pc L (vI x :: st) w cs sl := by
  intro p e s m args below meth c al0 al H locs ls S hB hH hS hl b hr
  exact lv_if_lt S.1 S.2.1 hd ht (fun h => (kt p e s m args below meth c al0 al H locs ls S hB hH hS hl b (vres_t h hr))) (fun h => (kf p e s m args below meth c al0 al H locs ls S hB hH hS hl b (vres_f h hr)))

theorem V.icmp_ge {x y : Int32} {off : Int} (tgt : Nat) (hd : decode M.2.1 pc = .ok (.if_icmp .ge off, 3)) (ht : (pc : Int) + off = (tgt : Int)) (kt : V l G M o φ A tgt L st w cs sl) (kf : V l G M o φ B (pc + 3) L st w cs sl) : V l G M o φ (if y ≤ x then A else B) pc L (vI y :: vI x :: st) w cs sl := by
  intro p e s m args below meth c al0 al H locs ls S hB hH hS hl b hr
  exact lv_icmp_ge S.1 S.2.1 hd ht (fun h => (kt p e s m args below meth c al0 al H locs ls S hB hH hS hl b (vres_t h hr))) (fun h => (kf p e s m args below meth c al0 al H locs ls S hB hH hS hl b (vres_f h hr)))

theorem V.if_ge {x : Int32} {off : Int} (tgt : Nat) (hd : decode M.2.1 pc = .ok (.ifCond .ge off, 3)) (ht : (pc : Int) + off = (tgt : Int)) (kt : V l G M o φ A tgt L st w cs sl) (kf : V l G M o φ B (pc + 3) L st w cs sl) : V l G M o φ (if 0 ≤ x then A else B) pc L (vI x :: st) w cs sl := by
  intro p e s m args below meth c al0 al H locs ls S hB hH hS hl b hr
  exact lv_if_ge S.1 S.2.1 hd ht (fun h => (kt p e s m args below meth c al0 al H locs ls S hB hH hS hl b (vres_t h hr))) (fun h => (kf p e s m args below meth c al0 al H locs ls S hB hH hS hl b (vres_f h hr)))

theorem V.icmp_gt {x y : Int32} {off : Int} (tgt : Nat) (hd : decode M.2.1 pc = .ok (.if_icmp .gt off, 3)) (ht : (pc : Int) + off = (tgt : Int)) (kt : V l G M o φ A tgt L st w cs sl) (kf : V l G M o φ B (pc + 3) L st w cs sl) : V l G M o φ (if y < x then A else B) pc L (vI y :: vI x :: st) w cs sl := by
  intro p e s m args below meth c al0 al H locs ls S hB hH hS hl b hr
  exact lv_icmp_gt S.1 S.2.1 hd ht (fun h => (kt p e s m args below meth c al0 al H locs ls S hB hH hS hl b (vres_t h hr))) (fun h => (kf p e s m args below meth c al0 al H locs ls S hB hH hS hl b (vres_f h hr)))

theorem V.if_gt {x : Int32} {off : Int} (tgt : Nat) (hd : decode M.2.1 pc = .ok (.ifCond .gt off, 3)) (ht : (pc : Int) + off = (tgt : Int)) (kt : V l G M o φ A tgt L st w cs sl) (kf : V l G M o φ B (pc + 3) L st w cs sl) : V l G M o φ (if 0 < x then A else B) pc L (vI x :: st) w cs sl := by
  intro p e s m args below meth c al0 al H locs ls S hB hH hS hl b hr
  exact lv_if_gt S.1 S.2.1 hd ht (fun h => (kt p e s m args below meth c al0 al H locs ls S hB hH hS hl b (vres_t h hr))) (fun h => (kf p e s m args below meth c al0 al H locs ls S hB hH hS hl b (vres_f h hr)))

theorem V.icmp_le {x y : Int32} {off : Int} (tgt : Nat) (hd : decode M.2.1 pc = .ok (.if_icmp .le off, 3)) (ht : (pc : Int) + off = (tgt : Int)) (kt : V l G M o φ A tgt L st w cs sl) (kf : V l G M o φ B (pc + 3) L st w cs sl) : V l G M o φ (if x ≤ y then A else B) pc L (vI y :: vI x :: st) w cs sl := by
  intro p e s m args below meth c al0 al H locs ls S hB hH hS hl b hr
  exact lv_icmp_le S.1 S.2.1 hd ht (fun h => (kt p e s m args below meth c al0 al H locs ls S hB hH hS hl b (vres_t h hr))) (fun h => (kf p e s m args below meth c al0 al H locs ls S hB hH hS hl b (vres_f h hr)))

theorem V.if_le {x : Int32} {off : Int} (tgt : Nat) (hd : decode M.2.1 pc = .ok (.ifCond .le off, 3)) (ht : (pc : Int) + off = (tgt : Int)) (kt : V l G M o φ A tgt L st w cs sl) (kf : V l G M o φ B (pc + 3) L st w cs sl) : V l G M o φ (if x ≤ 0 then A else B) pc L (vI x :: st) w cs sl := by
  intro p e s m args below meth c al0 al H locs ls S hB hH hS hl b hr
  exact lv_if_le S.1 S.2.1 hd ht (fun h => (kt p e s m args below meth c al0 al H locs ls S hB hH hS hl b (vres_t h hr))) (fun h => (kf p e s m args below meth c al0 al H locs ls S hB hH hS hl b (vres_f h hr)))

/-- a local is set: the first entry of that place is changed, later ones of that place fall; a new one comes last -/
def lst : vls → Nat → vv → vls
  | [], i, v => [(i, v)]
  | (j, u) :: t, i, v => if j = i then (i, v) :: t.filter (fun q => !(q.1 == i)) else (j, u) :: lst t i v
theorem lst_mem : ∀ (L : vls) (i : Nat) (v : vv) (q : Nat × vv), q ∈ lst L i v → q = (i, v) ∨ (q ∈ L ∧ q.1 ≠ i)
  | [], i, v, q, h => Or.inl (List.mem_singleton.mp h)
  | (j, u) :: t, i, v, q, h => by
    by_cases e : j = i
    · rw [lst, if_pos e] at h
      rcases List.mem_cons.mp h with h | h
      · exact Or.inl h
      · obtain ⟨h1, h2⟩ := List.mem_filter.mp h
        exact Or.inr ⟨List.mem_cons_of_mem _ h1, by simpa using h2⟩
    · rw [lst, if_neg e] at h
      rcases List.mem_cons.mp h with h | h
      · subst h
        exact Or.inr ⟨List.mem_cons_self, e⟩
      · rcases lst_mem t i v q h with h | ⟨h1, h2⟩
        · exact Or.inl h
        · exact Or.inr ⟨List.mem_cons_of_mem _ h1, h2⟩
def nol (L : vls) : Bool := L.all (fun q => vcat q.2 == 1)
theorem lst_ml {al : vk → Nat} {i : Nat} {v : vv} {ls : Array Slot} {n : Nat} (hn : nol L = true) (h : lv_has ls n ((i, mv al v) :: (ml al L).filter (fun q => !(q.1 == i) && !(q.1 + 1 == i && q.2.category == 2)))) : lv_has ls n (ml al (lst L i v)) := by
  refine ⟨h.1, h.2.1, fun q hq => h.2.2 q ?_⟩
  obtain ⟨x, hx, rfl⟩ := List.mem_map.mp hq
  rcases lst_mem L i v x hx with rfl | ⟨h1, h2⟩
  · exact List.mem_cons_self
  · refine List.mem_cons_of_mem _ (List.mem_filter.mpr ⟨List.mem_map.mpr ⟨x, h1, rfl⟩, ?_⟩)
    have hc : vcat x.2 = 1 := by have := List.all_eq_true.mp hn x h1; simpa using this
    have hm : (mv al x.2).category = 1 := (mv_cat al x.2).trans hc
    simp [h2, hm]

theorem V.istore {i : Nat} {x : Int32} {L' : vls} (hd : decode M.2.1 pc = .ok (.istore i, 2)) (hi : i < M.2.2.1) (hn : nol L = true) (hL : lst L i (vI x) = L') (k : V l G M o φ res (pc + 2) L' st w cs sl) : V l G M o φ res pc L (vI x :: st) w cs sl := by
  subst hL
  intro p e s m args below meth c al0 al H locs ls S hB hH hS hl b hr
  exact lv_istore S.1 S.2.1 hd hl hi rfl (fun ls' h' => k p e s m args below meth c al0 al H locs ls' S hB hH hS (lst_ml hn (v := vI x) h') b hr)

theorem V.istore_n {i : Fin 4} {x : Int32} {L' : vls} (hd : decode M.2.1 pc = .ok (.istore_n i, 1)) (hi : (i : Nat) < M.2.2.1) (hn : nol L = true) (hL : lst L (i : Nat) (vI x) = L') (k : V l G M o φ res (pc + 1) L' st w cs sl) : V l G M o φ res pc L (vI x :: st) w cs sl := by
  subst hL
  intro p e s m args below meth c al0 al H locs ls S hB hH hS hl b hr
  exact lv_istore_n S.1 S.2.1 hd rfl hl hi rfl (fun ls' h' => k p e s m args below meth c al0 al H locs ls' S hB hH hS (lst_ml hn (v := vI x) h') b hr)

theorem V.astore {i : Nat} {x : vk} {L' : vls} (hd : decode M.2.1 pc = .ok (.astore i, 2)) (hi : i < M.2.2.1) (hn : nol L = true) (hL : lst L i (vR x) = L') (k : V l G M o φ res (pc + 2) L' st w cs sl) : V l G M o φ res pc L (vR x :: st) w cs sl := by
  subst hL
  intro p e s m args below meth c al0 al H locs ls S hB hH hS hl b hr
  exact lv_astore S.1 S.2.1 hd hl hi rfl (fun ls' h' => k p e s m args below meth c al0 al H locs ls' S hB hH hS (lst_ml hn (v := vR x) h') b hr)

theorem V.astore_n {i : Fin 4} {x : vk} {L' : vls} (hd : decode M.2.1 pc = .ok (.astore_n i, 1)) (hi : (i : Nat) < M.2.2.1) (hn : nol L = true) (hL : lst L (i : Nat) (vR x) = L') (k : V l G M o φ res (pc + 1) L' st w cs sl) : V l G M o φ res pc L (vR x :: st) w cs sl := by
  subst hL
  intro p e s m args below meth c al0 al H locs ls S hB hH hS hl b hr
  exact lv_astore_n S.1 S.2.1 hd rfl hl hi rfl (fun ls' h' => k p e s m args below meth c al0 al H locs ls' S hB hH hS (lst_ml hn (v := vR x) h') b hr)

theorem V.iinc {i : Nat} {n : Int} {x v : Int32} {L' : vls} (hd : decode M.2.1 pc = .ok (.iinc i n, 3)) (q : Nat) (hq : L[q]? = some (i, vI x)) (hv : x + Int32.ofInt n = v) (hi : i < M.2.2.1) (hn : nol L = true) (hL : lst L i (vI v) = L') (k : V l G M o φ res (pc + 3) L' st w cs sl) : V l G M o φ res pc L st w cs sl := by
  subst hL
  subst hv
  intro p e s m args below meth c al0 al H locs ls S hB hH hS hl b hr
  exact lv_iinc S.1 S.2.1 hd hl (k := q) (by unfold ml; rw [List.getElem?_map, hq]; rfl) rfl hi rfl (fun ls' h' => k p e s m args below meth c al0 al H locs ls' S hB hH hS (lst_ml hn (v := vI (x + Int32.ofInt n)) h') b hr)

end VRows
