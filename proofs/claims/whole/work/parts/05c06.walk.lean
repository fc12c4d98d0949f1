abbrev mX7_takeIntoPlan : vmt := (yX7_takeIntoPlan, cX7_takeIntoPlan, 4, none, { frames := 3, cells := 0, slots := 0, locals := 66 })
theorem mfX7_takeIntoPlan : mfV mX7_takeIntoPlan 2 := ⟨im_X7_takeIntoPlan, se_X7_takeIntoPlan, ini_X7, co_X7_takeIntoPlan, by decide, by decide, by decide +kernel⟩
def jX7_takeIntoPlan_39 (k10 : Int32 → vs → Option vs) (F : Nat) (x1 : Int32) (x3 : Int32) (S : vs) : Option vs := ltt (x3 + 1) (fun x_3 => k10 x_3 S)

def hX7_takeIntoPlan_10 (F : Nat) (x1 : Int32) : Nat → Int32 → vs → Option vs
  | 0, _, _ => none
  | n + 1, x3, S => if (S.1 (0, 0) 1) ≤ x3 then some S else (fX7_holds F x1 x3 S).bind (fun a_2 => if a_2 = 0 then jX7_takeIntoPlan_39 (hX7_takeIntoPlan_10 F x1 n) F x1 x3 S else (rget 2 S (0, 6) x3).bind (fun q_4 => (fX0_take F q_4 S).bind (fun a_6 => jX7_takeIntoPlan_39 (hX7_takeIntoPlan_10 F x1 n) F x1 x3 a_6)))

def fX7_takeIntoPlan (F : Nat) (x1 : Int32) (x2 : Int32) (S : vs) : Option vs := (fX0_begin F x2 S).bind (fun a_1 => hX7_takeIntoPlan_10 F x1 F 0 a_1)
theorem tjX7_takeIntoPlan_39 (l : Launch) (G : vg) (F : Nat) (x1 : Int32) (x3 : Int32) (S : vs) (k10 : Int32 → vs → Option vs) (H10 : ∀ (z3 : Int32), ∀ (Sz : vs), V l G mX7_takeIntoPlan none phV (k10 z3 Sz) 10 [(0, vR (0, 0)), (1, vI x1), (3, vI z3)] [] (enc Sz) 0 0) : V l G mX7_takeIntoPlan none phV (jX7_takeIntoPlan_39 k10 F x1 x3 S) 39 [(0, vR (0, 0)), (1, vI x1), (3, vI x3)] [] (enc S) 0 0 := by
  unfold jX7_takeIntoPlan_39
  refine V.lti (e := x3 + 1) (fun x_3 he => ?_)
  refine V.iinc (v := x_3) (L' := [(0, vR (0, 0)), (1, vI x1), (3, vI x_3)]) dX7_takeIntoPlan_39 2 rfl he.symm (by decide) rfl rfl ?_
  refine V.goto 10 dX7_takeIntoPlan_42 (by decide) ?_
  exact (H10 x_3 S)

theorem thX7_takeIntoPlan_10 (l : Launch) (G : vg) (F : Nat) (x1 : Int32) : ∀ (n : Nat) (x3 : Int32) (S : vs), V l G mX7_takeIntoPlan none phV (hX7_takeIntoPlan_10 F x1 n x3 S) 10 [(0, vR (0, 0)), (1, vI x1), (3, vI x3)] [] (enc S) 0 0
  | 0, _, _ => V.nil
  | n + 1, x3, S => by
    have ih := thX7_takeIntoPlan_10 l G F x1 n
    rw [hX7_takeIntoPlan_10]
    refine V.iload_n dX7_takeIntoPlan_10 2 rfl ?_
    refine V.aload_n dX7_takeIntoPlan_11 0 rfl ?_
    refine V.sgI 7 1 dX7_takeIntoPlan_12 gf_X7_15 sh0_0 rfl rfl ?_
    refine V.icmp_ge 45 dX7_takeIntoPlan_15 (by decide) ?_ ?_
    · exact V.vret rfl dX7_takeIntoPlan_45 rfl (by decide) (by decide)
    · refine V.iload_n dX7_takeIntoPlan_18 1 rfl ?_
      refine V.iload_n dX7_takeIntoPlan_19 2 rfl ?_
      refine V.callS (M' := mX7_holds) (As := [vI x1, vI x3]) (ψ := (phP S)) dX7_takeIntoPlan_20 ml_X7_104 mfX7_holds rfl ⟨by decide, by decide⟩ ⟨by decide, by decide⟩ (Nat.le_of_ble_eq_true rfl) rfl (kX7_holds l G F x1 x3 S) (fun a_2 => ?_)
      show V l G mX7_takeIntoPlan none phV _ 23 [(0, vR (0, 0)), (1, vI x1), (3, vI x3)] [vI a_2] (enc S) 0 0
      refine V.if_eq 39 dX7_takeIntoPlan_23 (by decide) ?_ ?_
      · exact (tjX7_takeIntoPlan_39 l G F x1 x3 S (hX7_takeIntoPlan_10 F x1 n) ih)
      · refine V.aload_n dX7_takeIntoPlan_26 0 rfl ?_
        refine V.sgR 7 3 dX7_takeIntoPlan_27 gf_X7_25 sh0_0 rfl rfl ?_
        refine V.aload_n dX7_takeIntoPlan_30 0 rfl ?_
        refine V.sgR 7 0 dX7_takeIntoPlan_31 gf_X7_11 sh0_0 rfl rfl ?_
        refine V.iload_n dX7_takeIntoPlan_34 2 rfl ?_
        refine V.sbind fun q_4 h_5 => ?_
        refine V.saa (t := 2) dX7_takeIntoPlan_35 rfl rfl h_5 ?_
        refine V.callV (M' := mX0_take) (As := [vR (1, q_4)]) (ψ := phV) dX7_takeIntoPlan_36 ml_X7_127 mfX0_take rfl ⟨by decide, by decide⟩ ⟨by decide, by decide⟩ (enc_at rfl sh0_2) rfl (Nat.le_of_ble_eq_true rfl) rfl (kX0_take l G F q_4 S) (fun a_6 => ?_)
        show V l G mX7_takeIntoPlan none phV _ 39 [(0, vR (0, 0)), (1, vI x1), (3, vI x3)] [] (enc a_6) 0 0
        exact (tjX7_takeIntoPlan_39 l G F x1 x3 a_6 (hX7_takeIntoPlan_10 F x1 n) ih)

theorem kX7_takeIntoPlan (l : Launch) (G : vg) (F : Nat) (x1 : Int32) (x2 : Int32) (S : vs) : Rt l G mX7_takeIntoPlan none phV [vR (0, 0), vI x1, vI x2] (enc S) (fX7_takeIntoPlan F x1 x2 S) := Rt.of rfl (Nat.le_of_ble_eq_true rfl) (by
  show V l G mX7_takeIntoPlan none phV _ 0 [(0, vR (0, 0)), (1, vI x1), (2, vI x2)] [] (enc S) 0 0
  unfold fX7_takeIntoPlan
  refine V.aload_n dX7_takeIntoPlan_0 0 rfl ?_
  refine V.sgR 7 3 dX7_takeIntoPlan_1 gf_X7_25 sh0_0 rfl rfl ?_
  refine V.iload_n dX7_takeIntoPlan_4 2 rfl ?_
  refine V.callV (M' := mX0_begin) (As := [vI x2]) (ψ := phV) dX7_takeIntoPlan_5 ml_X7_124 mfX0_begin rfl ⟨by decide, by decide⟩ ⟨by decide, by decide⟩ (enc_at rfl sh0_2) rfl (Nat.le_of_ble_eq_true rfl) rfl (kX0_begin l G F x2 S) (fun a_1 => ?_)
  show V l G mX7_takeIntoPlan none phV _ 8 [(0, vR (0, 0)), (1, vI x1), (2, vI x2)] [] (enc a_1) 0 0
  refine V.iconst (v := 0) dX7_takeIntoPlan_8 (by decide) ?_
  refine V.istore_n (L' := [(0, vR (0, 0)), (1, vI x1), (2, vI x2), (3, vI 0)]) dX7_takeIntoPlan_9 (by decide) rfl rfl ?_
  exact V.lsub [0, 1, 3] rfl (thX7_takeIntoPlan_10 l G F x1 F 0 a_1))

abbrev mX7_best : vmt := (yX7_best, cX7_best, 5, (some .int), { frames := 4, cells := 0, slots := 0, locals := 91 })
theorem mfX7_best : mfV mX7_best 3 := ⟨im_X7_best, se_X7_best, ini_X7, co_X7_best, by decide, by decide, by decide +kernel⟩
def fX7_best (F : Nat) (x1 : Int32) (x2 : Int32) (x3 : Int32) (S : vs) : Option (Int32 × vs) := (fX7_planRefusal F x1 x2 x3 3000 S).bind (fun a_1 => if a_1 = 0 then (fX7_takeIntoPlan F x1 x2 S).bind (fun a_2 => (fX0_mostWith F x3 a_2).bind (fun a_3 => some (a_3.1, a_3.2))) else some (a_1, S))
theorem kX7_best (l : Launch) (G : vg) (F : Nat) (x1 : Int32) (x2 : Int32) (x3 : Int32) (S : vs) : Rt l G mX7_best none phI [vR (0, 0), vI x1, vI x2, vI x3] (enc S) (fX7_best F x1 x2 x3 S) := Rt.of rfl (Nat.le_of_ble_eq_true rfl) (by
  show V l G mX7_best none phI _ 0 [(0, vR (0, 0)), (1, vI x1), (2, vI x2), (3, vI x3)] [] (enc S) 0 0
  unfold fX7_best
  refine V.aload_n dX7_best_0 0 rfl ?_
  refine V.iload_n dX7_best_1 1 rfl ?_
  refine V.iload_n dX7_best_2 2 rfl ?_
  refine V.iload_n dX7_best_3 3 rfl ?_
  refine V.sipush (v := 3000) dX7_best_4 (by decide) ?_
  refine V.callV (M' := mX7_planRefusal) (As := [vI x1, vI x2, vI x3, vI 3000]) (ψ := (phP S)) dX7_best_7 ml_X7_92 mfX7_planRefusal rfl ⟨by decide, by decide⟩ ⟨by decide, by decide⟩ (enc_at rfl sh0_0) rfl (Nat.le_of_ble_eq_true rfl) rfl (kX7_planRefusal l G F x1 x2 x3 3000 S) (fun a_1 => ?_)
  show V l G mX7_best none phI _ 10 [(0, vR (0, 0)), (1, vI x1), (2, vI x2), (3, vI x3)] [vI a_1] (enc S) 0 0
  refine V.istore (L' := [(0, vR (0, 0)), (1, vI x1), (2, vI x2), (3, vI x3), (4, vI a_1)]) dX7_best_10 (by decide) rfl rfl ?_
  refine V.iload dX7_best_12 4 rfl ?_
  refine V.if_eq 20 dX7_best_14 (by decide) ?_ ?_
  · refine V.aload_n dX7_best_20 0 rfl ?_
    refine V.iload_n dX7_best_21 1 rfl ?_
    refine V.iload_n dX7_best_22 2 rfl ?_
    refine V.callV (M' := mX7_takeIntoPlan) (As := [vI x1, vI x2]) (ψ := phV) dX7_best_23 ml_X7_96 mfX7_takeIntoPlan rfl ⟨by decide, by decide⟩ ⟨by decide, by decide⟩ (enc_at rfl sh0_0) rfl (Nat.le_of_ble_eq_true rfl) rfl (kX7_takeIntoPlan l G F x1 x2 S) (fun a_2 => ?_)
    show V l G mX7_best none phI _ 26 [(0, vR (0, 0)), (1, vI x1), (2, vI x2), (3, vI x3), (4, vI a_1)] [] (enc a_2) 0 0
    refine V.aload_n dX7_best_26 0 rfl ?_
    refine V.sgR 7 3 dX7_best_27 gf_X7_25 sh0_0 rfl rfl ?_
    refine V.iload_n dX7_best_30 3 rfl ?_
    refine V.callV (M' := mX0_mostWith) (As := [vI x3]) (ψ := phI) dX7_best_31 ml_X7_100 mfX0_mostWith rfl ⟨by decide, by decide⟩ ⟨by decide, by decide⟩ (enc_at rfl sh0_2) rfl (Nat.le_of_ble_eq_true rfl) rfl (kX0_mostWith l G F x3 a_2) (fun a_3 => ?_)
    show V l G mX7_best none phI _ 34 [(0, vR (0, 0)), (1, vI x1), (2, vI x2), (3, vI x3), (4, vI a_1)] [vI a_3.1] (enc a_3.2) 0 0
    exact V.iret rfl dX7_best_34 rfl (by decide) (by decide)
  · refine V.iload dX7_best_17 4 rfl ?_
    exact V.iret rfl dX7_best_19 rfl (by decide) (by decide))

abbrev mX7_does : vmt := (yX7_does, cX7_does, 7, (some .int), { frames := 5, cells := 0, slots := 0, locals := 121 })
theorem mfX7_does : mfV mX7_does 4 := ⟨im_X7_does, se_X7_does, ini_X7, co_X7_does, by decide, by decide, by decide +kernel⟩
def fX7_does (F : Nat) (x1 : Int32) (x2 : Int32) (x3 : Int32) (x4 : Int32) (S : vs) : Option (Int32 × vs) := (fX7_planRefusal F x1 x2 x3 3000 S).bind (fun a_1 => if a_1 = 0 then (fX7_isSide F x4 S).bind (fun a_2 => if a_2 = 0 then some ((-1), S) else (fX7_holds F x1 x4 S).bind (fun a_3 => if a_3 = 0 then some ((-9), S) else (fX7_takeIntoPlan F x1 x2 S).bind (fun a_4 => ltt (x1 &&& (((1 : Int32) <<< (x4 &&& 31)) - 1)) (fun x_5 => (fJ6_bitCount_0f7a4 F x_5 a_4).bind (fun a_6 => (fX0_optionAt F a_6 x3 a_4).bind (fun a_7 => some (a_7.1, a_7.2))))))) else some (a_1, S))
theorem kX7_does (l : Launch) (G : vg) (F : Nat) (x1 : Int32) (x2 : Int32) (x3 : Int32) (x4 : Int32) (S : vs) : Rt l G mX7_does none phI [vR (0, 0), vI x1, vI x2, vI x3, vI x4] (enc S) (fX7_does F x1 x2 x3 x4 S) := Rt.of rfl (Nat.le_of_ble_eq_true rfl) (by
  show V l G mX7_does none phI _ 0 [(0, vR (0, 0)), (1, vI x1), (2, vI x2), (3, vI x3), (4, vI x4)] [] (enc S) 0 0
  unfold fX7_does
  refine V.aload_n dX7_does_0 0 rfl ?_
  refine V.iload_n dX7_does_1 1 rfl ?_
  refine V.iload_n dX7_does_2 2 rfl ?_
  refine V.iload_n dX7_does_3 3 rfl ?_
  refine V.sipush (v := 3000) dX7_does_4 (by decide) ?_
  refine V.callV (M' := mX7_planRefusal) (As := [vI x1, vI x2, vI x3, vI 3000]) (ψ := (phP S)) dX7_does_7 ml_X7_92 mfX7_planRefusal rfl ⟨by decide, by decide⟩ ⟨by decide, by decide⟩ (enc_at rfl sh0_0) rfl (Nat.le_of_ble_eq_true rfl) rfl (kX7_planRefusal l G F x1 x2 x3 3000 S) (fun a_1 => ?_)
  show V l G mX7_does none phI _ 10 [(0, vR (0, 0)), (1, vI x1), (2, vI x2), (3, vI x3), (4, vI x4)] [vI a_1] (enc S) 0 0
  refine V.istore (L' := [(0, vR (0, 0)), (1, vI x1), (2, vI x2), (3, vI x3), (4, vI x4), (5, vI a_1)]) dX7_does_10 (by decide) rfl rfl ?_
  refine V.iload dX7_does_12 5 rfl ?_
  refine V.if_eq 20 dX7_does_14 (by decide) ?_ ?_
  · refine V.aload_n dX7_does_20 0 rfl ?_
    refine V.iload dX7_does_21 4 rfl ?_
    refine V.callV (M' := mX7_isSide) (As := [vI x4]) (ψ := (phP S)) dX7_does_23 ml_X7_57 mfX7_isSide rfl ⟨by decide, by decide⟩ ⟨by decide, by decide⟩ (enc_at rfl sh0_0) rfl (Nat.le_of_ble_eq_true rfl) rfl (kX7_isSide l G F x4 S) (fun a_2 => ?_)
    show V l G mX7_does none phI _ 26 [(0, vR (0, 0)), (1, vI x1), (2, vI x2), (3, vI x3), (4, vI x4), (5, vI a_1)] [vI a_2] (enc S) 0 0
    refine V.if_ne 31 dX7_does_26 (by decide) ?_ ?_
    · refine V.iload_n dX7_does_31 1 rfl ?_
      refine V.iload dX7_does_32 4 rfl ?_
      refine V.callS (M' := mX7_holds) (As := [vI x1, vI x4]) (ψ := (phP S)) dX7_does_34 ml_X7_104 mfX7_holds rfl ⟨by decide, by decide⟩ ⟨by decide, by decide⟩ (Nat.le_of_ble_eq_true rfl) rfl (kX7_holds l G F x1 x4 S) (fun a_3 => ?_)
      show V l G mX7_does none phI _ 37 [(0, vR (0, 0)), (1, vI x1), (2, vI x2), (3, vI x3), (4, vI x4), (5, vI a_1)] [vI a_3] (enc S) 0 0
      refine V.if_ne 43 dX7_does_37 (by decide) ?_ ?_
      · refine V.aload_n dX7_does_43 0 rfl ?_
        refine V.iload_n dX7_does_44 1 rfl ?_
        refine V.iload_n dX7_does_45 2 rfl ?_
        refine V.callV (M' := mX7_takeIntoPlan) (As := [vI x1, vI x2]) (ψ := phV) dX7_does_46 ml_X7_96 mfX7_takeIntoPlan rfl ⟨by decide, by decide⟩ ⟨by decide, by decide⟩ (enc_at rfl sh0_0) rfl (Nat.le_of_ble_eq_true rfl) rfl (kX7_takeIntoPlan l G F x1 x2 S) (fun a_4 => ?_)
        show V l G mX7_does none phI _ 49 [(0, vR (0, 0)), (1, vI x1), (2, vI x2), (3, vI x3), (4, vI x4), (5, vI a_1)] [] (enc a_4) 0 0
        refine V.iload_n dX7_does_49 1 rfl ?_
        refine V.iconst (v := 1) dX7_does_50 (by decide) ?_
        refine V.iload dX7_does_51 4 rfl ?_
        refine V.ishl dX7_does_53 ?_
        refine V.iconst (v := 1) dX7_does_54 (by decide) ?_
        refine V.isub dX7_does_55 ?_
        refine V.iand dX7_does_56 ?_
        refine V.lett fun x_5 => ?_
        refine V.istore (L' := [(0, vR (0, 0)), (1, vI x1), (2, vI x2), (3, vI x3), (4, vI x4), (5, vI a_1), (6, vI x_5)]) dX7_does_57 (by decide) rfl rfl ?_
        refine V.aload_n dX7_does_59 0 rfl ?_
        refine V.sgR 7 3 dX7_does_60 gf_X7_25 sh0_0 rfl rfl ?_
        refine V.iload dX7_does_63 6 rfl ?_
        refine V.callS (M' := mJ6_bitCount_0f7a4) (As := [vI x_5]) (ψ := (phP a_4)) dX7_does_65 ml_X7_108 mfJ6_bitCount_0f7a4 rfl ⟨by decide, by decide⟩ ⟨by decide, by decide⟩ (Nat.le_of_ble_eq_true rfl) rfl (kJ6_bitCount_0f7a4 l G F x_5 a_4) (fun a_6 => ?_)
        show V l G mX7_does none phI _ 68 [(0, vR (0, 0)), (1, vI x1), (2, vI x2), (3, vI x3), (4, vI x4), (5, vI a_1), (6, vI x_5)] [vI a_6, vR (0, 2)] (enc a_4) 0 0
        refine V.iload_n dX7_does_68 3 rfl ?_
        refine V.callV (M' := mX0_optionAt) (As := [vI a_6, vI x3]) (ψ := phI) dX7_does_69 ml_X7_113 mfX0_optionAt rfl ⟨by decide, by decide⟩ ⟨by decide, by decide⟩ (enc_at rfl sh0_2) rfl (Nat.le_of_ble_eq_true rfl) rfl (kX0_optionAt l G F a_6 x3 a_4) (fun a_7 => ?_)
        show V l G mX7_does none phI _ 72 [(0, vR (0, 0)), (1, vI x1), (2, vI x2), (3, vI x3), (4, vI x4), (5, vI a_1), (6, vI x_5)] [vI a_7.1] (enc a_7.2) 0 0
        exact V.iret rfl dX7_does_72 rfl (by decide) (by decide)
      · refine V.bipush (v := (-9)) dX7_does_40 (by decide) ?_
        exact V.iret rfl dX7_does_42 rfl (by decide) (by decide)
    · refine V.iconst (v := (-1)) dX7_does_29 (by decide) ?_
      exact V.iret rfl dX7_does_30 rfl (by decide) (by decide)
  · refine V.iload dX7_does_17 5 rfl ?_
    exact V.iret rfl dX7_does_19 rfl (by decide) (by decide))

abbrev mX7_needed : vmt := (yX7_needed, cX7_needed, 5, (some .int), { frames := 5, cells := 0, slots := 0, locals := 115 })
theorem mfX7_needed : mfV mX7_needed 3 := ⟨im_X7_needed, se_X7_needed, ini_X7, co_X7_needed, by decide, by decide, by decide +kernel⟩
def fX7_needed (F : Nat) (x1 : Int32) (x2 : Int32) (x3 : Int32) (S : vs) : Option (Int32 × vs) := (fX7_planRefusal F x1 x2 x3 600000 S).bind (fun a_1 => if a_1 = 0 then (fX7_takeIntoPlan F x1 x2 S).bind (fun a_2 => (fX0_leastHours F x3 a_2).bind (fun a_3 => some (a_3.1, a_3.2))) else some (a_1, S))
theorem kX7_needed (l : Launch) (G : vg) (F : Nat) (x1 : Int32) (x2 : Int32) (x3 : Int32) (S : vs) : Rt l G mX7_needed none phI [vR (0, 0), vI x1, vI x2, vI x3] (enc S) (fX7_needed F x1 x2 x3 S) := Rt.of rfl (Nat.le_of_ble_eq_true rfl) (by
  show V l G mX7_needed none phI _ 0 [(0, vR (0, 0)), (1, vI x1), (2, vI x2), (3, vI x3)] [] (enc S) 0 0
  unfold fX7_needed
  refine V.aload_n dX7_needed_0 0 rfl ?_
  refine V.iload_n dX7_needed_1 1 rfl ?_
  refine V.iload_n dX7_needed_2 2 rfl ?_
  refine V.iload_n dX7_needed_3 3 rfl ?_
  refine V.ldc (v := 600000) dX7_needed_4 ct_X7_117 ?_
  refine V.callV (M' := mX7_planRefusal) (As := [vI x1, vI x2, vI x3, vI 600000]) (ψ := (phP S)) dX7_needed_6 ml_X7_92 mfX7_planRefusal rfl ⟨by decide, by decide⟩ ⟨by decide, by decide⟩ (enc_at rfl sh0_0) rfl (Nat.le_of_ble_eq_true rfl) rfl (kX7_planRefusal l G F x1 x2 x3 600000 S) (fun a_1 => ?_)
  show V l G mX7_needed none phI _ 9 [(0, vR (0, 0)), (1, vI x1), (2, vI x2), (3, vI x3)] [vI a_1] (enc S) 0 0
  refine V.istore (L' := [(0, vR (0, 0)), (1, vI x1), (2, vI x2), (3, vI x3), (4, vI a_1)]) dX7_needed_9 (by decide) rfl rfl ?_
  refine V.iload dX7_needed_11 4 rfl ?_
  refine V.if_eq 19 dX7_needed_13 (by decide) ?_ ?_
  · refine V.aload_n dX7_needed_19 0 rfl ?_
    refine V.iload_n dX7_needed_20 1 rfl ?_
    refine V.iload_n dX7_needed_21 2 rfl ?_
    refine V.callV (M' := mX7_takeIntoPlan) (As := [vI x1, vI x2]) (ψ := phV) dX7_needed_22 ml_X7_96 mfX7_takeIntoPlan rfl ⟨by decide, by decide⟩ ⟨by decide, by decide⟩ (enc_at rfl sh0_0) rfl (Nat.le_of_ble_eq_true rfl) rfl (kX7_takeIntoPlan l G F x1 x2 S) (fun a_2 => ?_)
    show V l G mX7_needed none phI _ 25 [(0, vR (0, 0)), (1, vI x1), (2, vI x2), (3, vI x3), (4, vI a_1)] [] (enc a_2) 0 0
    refine V.aload_n dX7_needed_25 0 rfl ?_
    refine V.sgR 7 3 dX7_needed_26 gf_X7_25 sh0_0 rfl rfl ?_
    refine V.iload_n dX7_needed_29 3 rfl ?_
    refine V.callV (M' := mX0_leastHours) (As := [vI x3]) (ψ := phI) dX7_needed_30 ml_X7_118 mfX0_leastHours rfl ⟨by decide, by decide⟩ ⟨by decide, by decide⟩ (enc_at rfl sh0_2) rfl (Nat.le_of_ble_eq_true rfl) rfl (kX0_leastHours l G F x3 a_2) (fun a_3 => ?_)
    show V l G mX7_needed none phI _ 33 [(0, vR (0, 0)), (1, vI x1), (2, vI x2), (3, vI x3), (4, vI a_1)] [vI a_3.1] (enc a_3.2) 0 0
    exact V.iret rfl dX7_needed_33 rfl (by decide) (by decide)
  · refine V.iload dX7_needed_16 4 rfl ?_
    exact V.iret rfl dX7_needed_18 rfl (by decide) (by decide))

abbrev mX7_drop : vmt := (yX7_drop, cX7_drop, 2, (some .int), { frames := 1, cells := 0, slots := 0, locals := 22 })
theorem mfX7_drop : mfV mX7_drop 1 := ⟨im_X7_drop, se_X7_drop, ini_X7, co_X7_drop, by decide, by decide, by decide +kernel⟩
def fX7_drop (F : Nat) (x1 : Int32) (S : vs) : Option (Int32 × vs) := (fX4_has F x1 S).bind (fun a_1 => if a_1 = 0 then some ((-1), S) else (fX4_takeOut F x1 S).bind (fun a_2 => if a_2.1 = 0 then some ((-3), a_2.2) else some (1, a_2.2)))
theorem kX7_drop (l : Launch) (G : vg) (F : Nat) (x1 : Int32) (S : vs) : Rt l G mX7_drop none phI [vR (0, 0), vI x1] (enc S) (fX7_drop F x1 S) := Rt.of rfl (Nat.le_of_ble_eq_true rfl) (by
  show V l G mX7_drop none phI _ 0 [(0, vR (0, 0)), (1, vI x1)] [] (enc S) 0 0
  unfold fX7_drop
  refine V.aload_n dX7_drop_0 0 rfl ?_
  refine V.sgR 7 4 dX7_drop_1 gf_X7_32 sh0_0 rfl rfl ?_
  refine V.iload_n dX7_drop_4 1 rfl ?_
  refine V.callV (M' := mX4_has) (As := [vI x1]) (ψ := (phP S)) dX7_drop_5 ml_X7_142 mfX4_has rfl ⟨by decide, by decide⟩ ⟨by decide, by decide⟩ (enc_at rfl sh0_3) rfl (Nat.le_of_ble_eq_true rfl) rfl (kX4_has l G F x1 S) (fun a_1 => ?_)
  show V l G mX7_drop none phI _ 8 [(0, vR (0, 0)), (1, vI x1)] [vI a_1] (enc S) 0 0
  refine V.if_ne 13 dX7_drop_8 (by decide) ?_ ?_
  · refine V.aload_n dX7_drop_13 0 rfl ?_
    refine V.sgR 7 4 dX7_drop_14 gf_X7_32 sh0_0 rfl rfl ?_
    refine V.iload_n dX7_drop_17 1 rfl ?_
    refine V.callV (M' := mX4_takeOut) (As := [vI x1]) (ψ := phI) dX7_drop_18 ml_X7_145 mfX4_takeOut rfl ⟨by decide, by decide⟩ ⟨by decide, by decide⟩ (enc_at rfl sh0_3) rfl (Nat.le_of_ble_eq_true rfl) rfl (kX4_takeOut l G F x1 S) (fun a_2 => ?_)
    show V l G mX7_drop none phI _ 21 [(0, vR (0, 0)), (1, vI x1)] [vI a_2.1] (enc a_2.2) 0 0
    refine V.if_eq 28 dX7_drop_21 (by decide) ?_ ?_
    · refine V.bipush (v := (-3)) dX7_drop_28 (by decide) ?_
      exact V.iret rfl dX7_drop_30 rfl (by decide) (by decide)
    · refine V.iconst (v := 1) dX7_drop_24 (by decide) ?_
      refine V.goto 30 dX7_drop_25 (by decide) ?_
      exact V.iret rfl dX7_drop_30 rfl (by decide) (by decide)
  · refine V.iconst (v := (-1)) dX7_drop_11 (by decide) ?_
    exact V.iret rfl dX7_drop_12 rfl (by decide) (by decide))

abbrev mX7_speed : vmt := (yX7_speed, cX7_speed, 2, (some .int), { frames := 3, cells := 0, slots := 0, locals := 72 })
theorem mfX7_speed : mfV mX7_speed 1 := ⟨im_X7_speed, se_X7_speed, ini_X7, co_X7_speed, by decide, by decide, by decide +kernel⟩
def fX7_speed (F : Nat) (x1 : Int32) (S : vs) : Option Int32 := (fX7_isSide F x1 S).bind (fun a_1 => if a_1 = 0 then some (-1) else (fX4_leastHeaviest F x1 S).bind (fun a_2 => some a_2))
theorem kX7_speed (l : Launch) (G : vg) (F : Nat) (x1 : Int32) (S : vs) : Rt l G mX7_speed none (phP S) [vR (0, 0), vI x1] (enc S) (fX7_speed F x1 S) := Rt.of rfl (Nat.le_of_ble_eq_true rfl) (by
  show V l G mX7_speed none (phP S) _ 0 [(0, vR (0, 0)), (1, vI x1)] [] (enc S) 0 0
  unfold fX7_speed
  refine V.aload_n dX7_speed_0 0 rfl ?_
  refine V.iload_n dX7_speed_1 1 rfl ?_
  refine V.callV (M' := mX7_isSide) (As := [vI x1]) (ψ := (phP S)) dX7_speed_2 ml_X7_57 mfX7_isSide rfl ⟨by decide, by decide⟩ ⟨by decide, by decide⟩ (enc_at rfl sh0_0) rfl (Nat.le_of_ble_eq_true rfl) rfl (kX7_isSide l G F x1 S) (fun a_1 => ?_)
  show V l G mX7_speed none (phP S) _ 5 [(0, vR (0, 0)), (1, vI x1)] [vI a_1] (enc S) 0 0
  refine V.if_eq 19 dX7_speed_5 (by decide) ?_ ?_
  · refine V.iconst (v := (-1)) dX7_speed_19 (by decide) ?_
    exact V.iret rfl dX7_speed_20 rfl (by decide) (by decide)
  · refine V.aload_n dX7_speed_8 0 rfl ?_
    refine V.sgR 7 4 dX7_speed_9 gf_X7_32 sh0_0 rfl rfl ?_
    refine V.iload_n dX7_speed_12 1 rfl ?_
    refine V.callV (M' := mX4_leastHeaviest) (As := [vI x1]) (ψ := (phP S)) dX7_speed_13 ml_X7_148 mfX4_leastHeaviest rfl ⟨by decide, by decide⟩ ⟨by decide, by decide⟩ (enc_at rfl sh0_3) rfl (Nat.le_of_ble_eq_true rfl) rfl (kX4_leastHeaviest l G F x1 S) (fun a_2 => ?_)
    show V l G mX7_speed none (phP S) _ 16 [(0, vR (0, 0)), (1, vI x1)] [vI a_2] (enc S) 0 0
    refine V.goto 20 dX7_speed_16 (by decide) ?_
    exact V.iret rfl dX7_speed_20 rfl (by decide) (by decide))

abbrev mX7_span : vmt := (yX7_span, cX7_span, 2, (some .int), { frames := 4, cells := 0, slots := 0, locals := 99 })
theorem mfX7_span : mfV mX7_span 1 := ⟨im_X7_span, se_X7_span, ini_X7, co_X7_span, by decide, by decide, by decide +kernel⟩
def fX7_span (F : Nat) (x1 : Int32) (S : vs) : Option Int32 := (fX7_isSide F x1 S).bind (fun a_1 => if a_1 = 0 then some (-1) else (fX4_lastHeaviest F x1 S).bind (fun a_2 => some a_2))
theorem kX7_span (l : Launch) (G : vg) (F : Nat) (x1 : Int32) (S : vs) : Rt l G mX7_span none (phP S) [vR (0, 0), vI x1] (enc S) (fX7_span F x1 S) := Rt.of rfl (Nat.le_of_ble_eq_true rfl) (by
  show V l G mX7_span none (phP S) _ 0 [(0, vR (0, 0)), (1, vI x1)] [] (enc S) 0 0
  unfold fX7_span
  refine V.aload_n dX7_span_0 0 rfl ?_
  refine V.iload_n dX7_span_1 1 rfl ?_
  refine V.callV (M' := mX7_isSide) (As := [vI x1]) (ψ := (phP S)) dX7_span_2 ml_X7_57 mfX7_isSide rfl ⟨by decide, by decide⟩ ⟨by decide, by decide⟩ (enc_at rfl sh0_0) rfl (Nat.le_of_ble_eq_true rfl) rfl (kX7_isSide l G F x1 S) (fun a_1 => ?_)
  show V l G mX7_span none (phP S) _ 5 [(0, vR (0, 0)), (1, vI x1)] [vI a_1] (enc S) 0 0
  refine V.if_eq 19 dX7_span_5 (by decide) ?_ ?_
  · refine V.iconst (v := (-1)) dX7_span_19 (by decide) ?_
    exact V.iret rfl dX7_span_20 rfl (by decide) (by decide)
  · refine V.aload_n dX7_span_8 0 rfl ?_
    refine V.sgR 7 4 dX7_span_9 gf_X7_32 sh0_0 rfl rfl ?_
    refine V.iload_n dX7_span_12 1 rfl ?_
    refine V.callV (M' := mX4_lastHeaviest) (As := [vI x1]) (ψ := (phP S)) dX7_span_13 ml_X7_151 mfX4_lastHeaviest rfl ⟨by decide, by decide⟩ ⟨by decide, by decide⟩ (enc_at rfl sh0_3) rfl (Nat.le_of_ble_eq_true rfl) rfl (kX4_lastHeaviest l G F x1 S) (fun a_2 => ?_)
    show V l G mX7_span none (phP S) _ 16 [(0, vR (0, 0)), (1, vI x1)] [vI a_2] (enc S) 0 0
    refine V.goto 20 dX7_span_16 (by decide) ?_
    exact V.iret rfl dX7_span_20 rfl (by decide) (by decide))

abbrev mX7_weighs : vmt := (yX7_weighs, cX7_weighs, 3, (some .int), { frames := 2, cells := 0, slots := 0, locals := 46 })
theorem mfX7_weighs : mfV mX7_weighs 2 := ⟨im_X7_weighs, se_X7_weighs, ini_X7, co_X7_weighs, by decide, by decide, by decide +kernel⟩
def fX7_weighs (F : Nat) (x1 : Int32) (x2 : Int32) (S : vs) : Option Int32 := (fX7_isSide F x1 S).bind (fun a_1 => if a_1 = 0 then some (-1) else (fX7_within F x2 1 30000 S).bind (fun a_2 => if a_2 = 0 then some (-2) else (fX4_weightAt F x1 x2 S).bind (fun a_3 => some a_3)))
theorem kX7_weighs (l : Launch) (G : vg) (F : Nat) (x1 : Int32) (x2 : Int32) (S : vs) : Rt l G mX7_weighs none (phP S) [vR (0, 0), vI x1, vI x2] (enc S) (fX7_weighs F x1 x2 S) := Rt.of rfl (Nat.le_of_ble_eq_true rfl) (by
  show V l G mX7_weighs none (phP S) _ 0 [(0, vR (0, 0)), (1, vI x1), (2, vI x2)] [] (enc S) 0 0
  unfold fX7_weighs
  refine V.aload_n dX7_weighs_0 0 rfl ?_
  refine V.iload_n dX7_weighs_1 1 rfl ?_
  refine V.callV (M' := mX7_isSide) (As := [vI x1]) (ψ := (phP S)) dX7_weighs_2 ml_X7_57 mfX7_isSide rfl ⟨by decide, by decide⟩ ⟨by decide, by decide⟩ (enc_at rfl sh0_0) rfl (Nat.le_of_ble_eq_true rfl) rfl (kX7_isSide l G F x1 S) (fun a_1 => ?_)
  show V l G mX7_weighs none (phP S) _ 5 [(0, vR (0, 0)), (1, vI x1), (2, vI x2)] [vI a_1] (enc S) 0 0
  refine V.if_ne 10 dX7_weighs_5 (by decide) ?_ ?_
  · refine V.iload_n dX7_weighs_10 2 rfl ?_
    refine V.iconst (v := 1) dX7_weighs_11 (by decide) ?_
    refine V.sipush (v := 30000) dX7_weighs_12 (by decide) ?_
    refine V.callS (M' := mX7_within) (As := [vI x2, vI 1, vI 30000]) (ψ := (phP S)) dX7_weighs_15 ml_X7_50 mfX7_within rfl ⟨by decide, by decide⟩ ⟨by decide, by decide⟩ (Nat.le_of_ble_eq_true rfl) rfl (kX7_within l G F x2 1 30000 S) (fun a_2 => ?_)
    show V l G mX7_weighs none (phP S) _ 18 [(0, vR (0, 0)), (1, vI x1), (2, vI x2)] [vI a_2] (enc S) 0 0
    refine V.if_eq 33 dX7_weighs_18 (by decide) ?_ ?_
    · refine V.bipush (v := (-2)) dX7_weighs_33 (by decide) ?_
      exact V.iret rfl dX7_weighs_35 rfl (by decide) (by decide)
    · refine V.aload_n dX7_weighs_21 0 rfl ?_
      refine V.sgR 7 4 dX7_weighs_22 gf_X7_32 sh0_0 rfl rfl ?_
      refine V.iload_n dX7_weighs_25 1 rfl ?_
      refine V.iload_n dX7_weighs_26 2 rfl ?_
      refine V.callV (M' := mX4_weightAt) (As := [vI x1, vI x2]) (ψ := (phP S)) dX7_weighs_27 ml_X7_154 mfX4_weightAt rfl ⟨by decide, by decide⟩ ⟨by decide, by decide⟩ (enc_at rfl sh0_3) rfl (Nat.le_of_ble_eq_true rfl) rfl (kX4_weightAt l G F x1 x2 S) (fun a_3 => ?_)
      show V l G mX7_weighs none (phP S) _ 30 [(0, vR (0, 0)), (1, vI x1), (2, vI x2)] [vI a_3] (enc S) 0 0
      refine V.goto 35 dX7_weighs_30 (by decide) ?_
      exact V.iret rfl dX7_weighs_35 rfl (by decide) (by decide)
  · refine V.iconst (v := (-1)) dX7_weighs_8 (by decide) ?_
    exact V.iret rfl dX7_weighs_9 rfl (by decide) (by decide))

abbrev mX7_quarrels : vmt := (yX7_quarrels, cX7_quarrels, 2, (some .int), { frames := 2, cells := 0, slots := 0, locals := 45 })
theorem mfX7_quarrels : mfV mX7_quarrels 1 := ⟨im_X7_quarrels, se_X7_quarrels, ini_X7, co_X7_quarrels, by decide, by decide, by decide +kernel⟩
def fX7_quarrels (F : Nat) (x1 : Int32) (S : vs) : Option Int32 := (fX7_isSide F x1 S).bind (fun a_1 => if a_1 = 0 then some (-1) else (fX4_pairsApart F x1 S).bind (fun a_2 => some a_2))
theorem kX7_quarrels (l : Launch) (G : vg) (F : Nat) (x1 : Int32) (S : vs) : Rt l G mX7_quarrels none (phP S) [vR (0, 0), vI x1] (enc S) (fX7_quarrels F x1 S) := Rt.of rfl (Nat.le_of_ble_eq_true rfl) (by
  show V l G mX7_quarrels none (phP S) _ 0 [(0, vR (0, 0)), (1, vI x1)] [] (enc S) 0 0
  unfold fX7_quarrels
  refine V.aload_n dX7_quarrels_0 0 rfl ?_
  refine V.iload_n dX7_quarrels_1 1 rfl ?_
  refine V.callV (M' := mX7_isSide) (As := [vI x1]) (ψ := (phP S)) dX7_quarrels_2 ml_X7_57 mfX7_isSide rfl ⟨by decide, by decide⟩ ⟨by decide, by decide⟩ (enc_at rfl sh0_0) rfl (Nat.le_of_ble_eq_true rfl) rfl (kX7_isSide l G F x1 S) (fun a_1 => ?_)
  show V l G mX7_quarrels none (phP S) _ 5 [(0, vR (0, 0)), (1, vI x1)] [vI a_1] (enc S) 0 0
  refine V.if_eq 19 dX7_quarrels_5 (by decide) ?_ ?_
  · refine V.iconst (v := (-1)) dX7_quarrels_19 (by decide) ?_
    exact V.iret rfl dX7_quarrels_20 rfl (by decide) (by decide)
  · refine V.aload_n dX7_quarrels_8 0 rfl ?_
    refine V.sgR 7 4 dX7_quarrels_9 gf_X7_32 sh0_0 rfl rfl ?_
    refine V.iload_n dX7_quarrels_12 1 rfl ?_
    refine V.callV (M' := mX4_pairsApart) (As := [vI x1]) (ψ := (phP S)) dX7_quarrels_13 ml_X7_157 mfX4_pairsApart rfl ⟨by decide, by decide⟩ ⟨by decide, by decide⟩ (enc_at rfl sh0_3) rfl (Nat.le_of_ble_eq_true rfl) rfl (kX4_pairsApart l G F x1 S) (fun a_2 => ?_)
    show V l G mX7_quarrels none (phP S) _ 16 [(0, vR (0, 0)), (1, vI x1)] [vI a_2] (enc S) 0 0
    refine V.goto 20 dX7_quarrels_16 (by decide) ?_
    exact V.iret rfl dX7_quarrels_20 rfl (by decide) (by decide))

abbrev mX7_piece : vmt := (yX7_piece, cX7_piece, 3, (some .int), { frames := 1, cells := 0, slots := 0, locals := 22 })
theorem mfX7_piece : mfV mX7_piece 2 := ⟨im_X7_piece, se_X7_piece, ini_X7, co_X7_piece, by decide, by decide, by decide +kernel⟩
def fX7_piece (F : Nat) (x1 : Int32) (x2 : Int32) (S : vs) : Option (Int32 × vs) := (fX7_within F x1 0 99 S).bind (fun a_1 => if a_1 = 0 then some ((-2), S) else (fX7_within F x2 0 99 S).bind (fun a_2 => if a_2 = 0 then some ((-2), S) else (fX1_isFull F S).bind (fun a_3 => if a_3 = 0 then (fX1_add F x1 x2 S).bind (fun a_4 => some (a_4.1, a_4.2)) else some ((-4), S))))
theorem kX7_piece (l : Launch) (G : vg) (F : Nat) (x1 : Int32) (x2 : Int32) (S : vs) : Rt l G mX7_piece none phI [vR (0, 0), vI x1, vI x2] (enc S) (fX7_piece F x1 x2 S) := Rt.of rfl (Nat.le_of_ble_eq_true rfl) (by
  show V l G mX7_piece none phI _ 0 [(0, vR (0, 0)), (1, vI x1), (2, vI x2)] [] (enc S) 0 0
  unfold fX7_piece
  refine V.iload_n dX7_piece_0 1 rfl ?_
  refine V.iconst (v := 0) dX7_piece_1 (by decide) ?_
  refine V.bipush (v := 99) dX7_piece_2 (by decide) ?_
  refine V.callS (M' := mX7_within) (As := [vI x1, vI 0, vI 99]) (ψ := (phP S)) dX7_piece_4 ml_X7_50 mfX7_within rfl ⟨by decide, by decide⟩ ⟨by decide, by decide⟩ (Nat.le_of_ble_eq_true rfl) rfl (kX7_within l G F x1 0 99 S) (fun a_1 => ?_)
  show V l G mX7_piece none phI _ 7 [(0, vR (0, 0)), (1, vI x1), (2, vI x2)] [vI a_1] (enc S) 0 0
  refine V.if_eq 20 dX7_piece_7 (by decide) ?_ ?_
  · refine V.bipush (v := (-2)) dX7_piece_20 (by decide) ?_
    exact V.iret rfl dX7_piece_22 rfl (by decide) (by decide)
  · refine V.iload_n dX7_piece_10 2 rfl ?_
    refine V.iconst (v := 0) dX7_piece_11 (by decide) ?_
    refine V.bipush (v := 99) dX7_piece_12 (by decide) ?_
    refine V.callS (M' := mX7_within) (As := [vI x2, vI 0, vI 99]) (ψ := (phP S)) dX7_piece_14 ml_X7_50 mfX7_within rfl ⟨by decide, by decide⟩ ⟨by decide, by decide⟩ (Nat.le_of_ble_eq_true rfl) rfl (kX7_within l G F x2 0 99 S) (fun a_2 => ?_)
    show V l G mX7_piece none phI _ 17 [(0, vR (0, 0)), (1, vI x1), (2, vI x2)] [vI a_2] (enc S) 0 0
    refine V.if_ne 23 dX7_piece_17 (by decide) ?_ ?_
    · refine V.aload_n dX7_piece_23 0 rfl ?_
      refine V.sgR 7 5 dX7_piece_24 gf_X7_39 sh0_0 rfl rfl ?_
      refine V.callV (M' := mX1_isFull) (As := []) (ψ := (phP S)) dX7_piece_27 ml_X7_160 mfX1_isFull rfl ⟨by decide, by decide⟩ ⟨by decide, by decide⟩ (enc_at rfl sh0_4) rfl (Nat.le_of_ble_eq_true rfl) rfl (kX1_isFull l G F S) (fun a_3 => ?_)
      show V l G mX7_piece none phI _ 30 [(0, vR (0, 0)), (1, vI x1), (2, vI x2)] [vI a_3] (enc S) 0 0
      refine V.if_eq 38 dX7_piece_30 (by decide) ?_ ?_
      · refine V.aload_n dX7_piece_38 0 rfl ?_
        refine V.sgR 7 5 dX7_piece_39 gf_X7_39 sh0_0 rfl rfl ?_
        refine V.iload_n dX7_piece_42 1 rfl ?_
        refine V.iload_n dX7_piece_43 2 rfl ?_
        refine V.callV (M' := mX1_add) (As := [vI x1, vI x2]) (ψ := phI) dX7_piece_44 ml_X7_161 mfX1_add rfl ⟨by decide, by decide⟩ ⟨by decide, by decide⟩ (enc_at rfl sh0_4) rfl (Nat.le_of_ble_eq_true rfl) rfl (kX1_add l G F x1 x2 S) (fun a_4 => ?_)
        show V l G mX7_piece none phI _ 47 [(0, vR (0, 0)), (1, vI x1), (2, vI x2)] [vI a_4.1] (enc a_4.2) 0 0
        exact V.iret rfl dX7_piece_47 rfl (by decide) (by decide)
      · refine V.bipush (v := (-4)) dX7_piece_33 (by decide) ?_
        refine V.goto 47 dX7_piece_35 (by decide) ?_
        exact V.iret rfl dX7_piece_47 rfl (by decide) (by decide)
    · refine V.bipush (v := (-2)) dX7_piece_20 (by decide) ?_
      exact V.iret rfl dX7_piece_22 rfl (by decide) (by decide))

abbrev mX7_sweep : vmt := (yX7_sweep, cX7_sweep, 1, (some .int), { frames := 1, cells := 0, slots := 0, locals := 21 })
theorem mfX7_sweep : mfV mX7_sweep 0 := ⟨im_X7_sweep, se_X7_sweep, ini_X7, co_X7_sweep, by decide, by decide, by decide +kernel⟩
def fX7_sweep (F : Nat) (S : vs) : Option (Int32 × vs) := (fX1_clear F S).bind (fun a_1 => some (a_1.1, a_1.2))
theorem kX7_sweep (l : Launch) (G : vg) (F : Nat) (S : vs) : Rt l G mX7_sweep none phI [vR (0, 0)] (enc S) (fX7_sweep F S) := Rt.of rfl (Nat.le_of_ble_eq_true rfl) (by
  show V l G mX7_sweep none phI _ 0 [(0, vR (0, 0))] [] (enc S) 0 0
  unfold fX7_sweep
  refine V.aload_n dX7_sweep_0 0 rfl ?_
  refine V.sgR 7 5 dX7_sweep_1 gf_X7_39 sh0_0 rfl rfl ?_
  refine V.callV (M' := mX1_clear) (As := []) (ψ := phI) dX7_sweep_4 ml_X7_163 mfX1_clear rfl ⟨by decide, by decide⟩ ⟨by decide, by decide⟩ (enc_at rfl sh0_4) rfl (Nat.le_of_ble_eq_true rfl) rfl (kX1_clear l G F S) (fun a_1 => ?_)
  show V l G mX7_sweep none phI _ 7 [(0, vR (0, 0))] [vI a_1.1] (enc a_1.2) 0 0
  exact V.iret rfl dX7_sweep_7 rfl (by decide) (by decide))

abbrev mX7_tolerance : vmt := (yX7_tolerance, cX7_tolerance, 3, (some .int), { frames := 1, cells := 0, slots := 0, locals := 22 })
theorem mfX7_tolerance : mfV mX7_tolerance 1 := ⟨im_X7_tolerance, se_X7_tolerance, ini_X7, co_X7_tolerance, by decide, by decide, by decide +kernel⟩
def fX7_tolerance (F : Nat) (x1 : Int32) (S : vs) : Option (Int32 × vs) := (fX7_within F x1 0 99 S).bind (fun a_1 => if a_1 = 0 then some ((-2), S) else ltt (S.1 (0, 4) 0) (fun x_2 => stp (s2 S (0, 4) 0 x1) (fun S_3 => some (x_2, S_3))))
theorem kX7_tolerance (l : Launch) (G : vg) (F : Nat) (x1 : Int32) (S : vs) : Rt l G mX7_tolerance none phI [vR (0, 0), vI x1] (enc S) (fX7_tolerance F x1 S) := Rt.of rfl (Nat.le_of_ble_eq_true rfl) (by
  show V l G mX7_tolerance none phI _ 0 [(0, vR (0, 0)), (1, vI x1)] [] (enc S) 0 0
  unfold fX7_tolerance
  refine V.iload_n dX7_tolerance_0 1 rfl ?_
  refine V.iconst (v := 0) dX7_tolerance_1 (by decide) ?_
  refine V.bipush (v := 99) dX7_tolerance_2 (by decide) ?_
  refine V.callS (M' := mX7_within) (As := [vI x1, vI 0, vI 99]) (ψ := (phP S)) dX7_tolerance_4 ml_X7_50 mfX7_within rfl ⟨by decide, by decide⟩ ⟨by decide, by decide⟩ (Nat.le_of_ble_eq_true rfl) rfl (kX7_within l G F x1 0 99 S) (fun a_1 => ?_)
  show V l G mX7_tolerance none phI _ 7 [(0, vR (0, 0)), (1, vI x1)] [vI a_1] (enc S) 0 0
  refine V.if_ne 13 dX7_tolerance_7 (by decide) ?_ ?_
  · refine V.aload_n dX7_tolerance_13 0 rfl ?_
    refine V.sgR 7 5 dX7_tolerance_14 gf_X7_39 sh0_0 rfl rfl ?_
    refine V.sgI 1 0 dX7_tolerance_17 gf_X7_167 sh0_4 rfl rfl ?_
    refine V.lett fun x_2 => ?_
    refine V.istore_n (L' := [(0, vR (0, 0)), (1, vI x1), (2, vI x_2)]) dX7_tolerance_20 (by decide) rfl rfl ?_
    refine V.aload_n dX7_tolerance_21 0 rfl ?_
    refine V.sgR 7 5 dX7_tolerance_22 gf_X7_39 sh0_0 rfl rfl ?_
    refine V.iload_n dX7_tolerance_25 1 rfl ?_
    refine V.spI 1 0 dX7_tolerance_26 pf_X7_167 sh0_4 rfl rfl ?_
    refine V.sst fun S_3 => ?_
    refine V.iload_n dX7_tolerance_29 2 rfl ?_
    exact V.iret rfl dX7_tolerance_30 rfl (by decide) (by decide)
  · refine V.bipush (v := (-2)) dX7_tolerance_10 (by decide) ?_
    exact V.iret rfl dX7_tolerance_12 rfl (by decide) (by decide))

abbrev mX7_rows : vmt := (yX7_rows, cX7_rows, 1, (some .int), { frames := 6, cells := 0, slots := 0, locals := 138 })
theorem mfX7_rows : mfV mX7_rows 0 := ⟨im_X7_rows, se_X7_rows, ini_X7, co_X7_rows, by decide, by decide, by decide +kernel⟩
def fX7_rows (F : Nat) (S : vs) : Option (Int32 × vs) := (fX1_countRows F S).bind (fun a_1 => some (a_1.1, a_1.2))
theorem kX7_rows (l : Launch) (G : vg) (F : Nat) (S : vs) : Rt l G mX7_rows none phI [vR (0, 0)] (enc S) (fX7_rows F S) := Rt.of rfl (Nat.le_of_ble_eq_true rfl) (by
  show V l G mX7_rows none phI _ 0 [(0, vR (0, 0))] [] (enc S) 0 0
  unfold fX7_rows
  refine V.aload_n dX7_rows_0 0 rfl ?_
  refine V.sgR 7 5 dX7_rows_1 gf_X7_39 sh0_0 rfl rfl ?_
  refine V.callV (M' := mX1_countRows) (As := []) (ψ := phI) dX7_rows_4 ml_X7_170 mfX1_countRows rfl ⟨by decide, by decide⟩ ⟨by decide, by decide⟩ (enc_at rfl sh0_4) rfl (Nat.le_of_ble_eq_true rfl) rfl (kX1_countRows l G F S) (fun a_1 => ?_)
  show V l G mX7_rows none phI _ 7 [(0, vR (0, 0))] [vI a_1.1] (enc a_1.2) 0 0
  exact V.iret rfl dX7_rows_7 rfl (by decide) (by decide))

abbrev mX7_misfit : vmt := (yX7_misfit, cX7_misfit, 1, (some .int), { frames := 7, cells := 0, slots := 0, locals := 161 })
theorem mfX7_misfit : mfV mX7_misfit 0 := ⟨im_X7_misfit, se_X7_misfit, ini_X7, co_X7_misfit, by decide, by decide, by decide +kernel⟩
def fX7_misfit (F : Nat) (S : vs) : Option (Int32 × vs) := (fX1_leastMisfit F S).bind (fun a_1 => some (a_1.1, a_1.2))
theorem kX7_misfit (l : Launch) (G : vg) (F : Nat) (S : vs) : Rt l G mX7_misfit none phI [vR (0, 0)] (enc S) (fX7_misfit F S) := Rt.of rfl (Nat.le_of_ble_eq_true rfl) (by
  show V l G mX7_misfit none phI _ 0 [(0, vR (0, 0))] [] (enc S) 0 0
  unfold fX7_misfit
  refine V.aload_n dX7_misfit_0 0 rfl ?_
  refine V.sgR 7 5 dX7_misfit_1 gf_X7_39 sh0_0 rfl rfl ?_
  refine V.callV (M' := mX1_leastMisfit) (As := []) (ψ := phI) dX7_misfit_4 ml_X7_173 mfX1_leastMisfit rfl ⟨by decide, by decide⟩ ⟨by decide, by decide⟩ (enc_at rfl sh0_4) rfl (Nat.le_of_ble_eq_true rfl) rfl (kX1_leastMisfit l G F S) (fun a_1 => ?_)
  show V l G mX7_misfit none phI _ 7 [(0, vR (0, 0))] [vI a_1.1] (enc a_1.2) 0 0
  exact V.iret rfl dX7_misfit_7 rfl (by decide) (by decide))

abbrev mX7_inRow : vmt := (yX7_inRow, cX7_inRow, 2, (some .int), { frames := 7, cells := 0, slots := 0, locals := 164 })
theorem mfX7_inRow : mfV mX7_inRow 1 := ⟨im_X7_inRow, se_X7_inRow, ini_X7, co_X7_inRow, by decide, by decide, by decide +kernel⟩
def fX7_inRow (F : Nat) (x1 : Int32) (S : vs) : Option (Int32 × vs) := (fX1_pieceAt F x1 S).bind (fun a_1 => some (a_1.1, a_1.2))
theorem kX7_inRow (l : Launch) (G : vg) (F : Nat) (x1 : Int32) (S : vs) : Rt l G mX7_inRow none phI [vR (0, 0), vI x1] (enc S) (fX7_inRow F x1 S) := Rt.of rfl (Nat.le_of_ble_eq_true rfl) (by
  show V l G mX7_inRow none phI _ 0 [(0, vR (0, 0)), (1, vI x1)] [] (enc S) 0 0
  unfold fX7_inRow
  refine V.aload_n dX7_inRow_0 0 rfl ?_
  refine V.sgR 7 5 dX7_inRow_1 gf_X7_39 sh0_0 rfl rfl ?_
  refine V.iload_n dX7_inRow_4 1 rfl ?_
  refine V.callV (M' := mX1_pieceAt) (As := [vI x1]) (ψ := phI) dX7_inRow_5 ml_X7_176 mfX1_pieceAt rfl ⟨by decide, by decide⟩ ⟨by decide, by decide⟩ (enc_at rfl sh0_4) rfl (Nat.le_of_ble_eq_true rfl) rfl (kX1_pieceAt l G F x1 S) (fun a_1 => ?_)
  show V l G mX7_inRow none phI _ 8 [(0, vR (0, 0)), (1, vI x1)] [vI a_1.1] (enc a_1.2) 0 0
  exact V.iret rfl dX7_inRow_8 rfl (by decide) (by decide))

abbrev mX7_isSong : vmt := (yX7_isSong, cX7_isSong, 1, (some .boolean), { frames := 1, cells := 0, slots := 0, locals := 22 })
theorem mfX7_isSong : mfS mX7_isSong 1 := ⟨sm_X7_isSong, ini_X7, co_X7_isSong, by decide, by decide, by decide +kernel⟩
def fX7_isSong (F : Nat) (x0 : Int32) (S : vs) : Option Int32 := (fX7_within F x0 0 3 S).bind (fun a_1 => gd (zb a_1) (some a_1))
theorem kX7_isSong (l : Launch) (G : vg) (F : Nat) (x0 : Int32) (S : vs) : Rt l G mX7_isSong none (phP S) [vI x0] (enc S) (fX7_isSong F x0 S) := Rt.of rfl (Nat.le_of_ble_eq_true rfl) (by
  show V l G mX7_isSong none (phP S) _ 0 [(0, vI x0)] [] (enc S) 0 0
  unfold fX7_isSong
  refine V.iload_n dX7_isSong_0 0 rfl ?_
  refine V.iconst (v := 0) dX7_isSong_1 (by decide) ?_
  refine V.iconst (v := 3) dX7_isSong_2 (by decide) ?_
  refine V.callS (M' := mX7_within) (As := [vI x0, vI 0, vI 3]) (ψ := (phP S)) dX7_isSong_3 ml_X7_50 mfX7_within rfl ⟨by decide, by decide⟩ ⟨by decide, by decide⟩ (Nat.le_of_ble_eq_true rfl) rfl (kX7_within l G F x0 0 3 S) (fun a_1 => ?_)
  show V l G mX7_isSong none (phP S) _ 6 [(0, vI x0)] [vI a_1] (enc S) 0 0
  refine V.chk fun h_2 => ?_
  exact V.zret rfl dX7_isSong_6 rfl (zb_n h_2) (by decide) (by decide))

abbrev mX7_sung : vmt := (yX7_sung, cX7_sung, 5, (some .int), { frames := 2, cells := 0, slots := 0, locals := 42 })
theorem mfX7_sung : mfV mX7_sung 3 := ⟨im_X7_sung, se_X7_sung, ini_X7, co_X7_sung, by decide, by decide, by decide +kernel⟩
def fX7_sung (F : Nat) (x1 : Int32) (x2 : Int32) (x3 : Int32) (S : vs) : Option (Int32 × vs) := (fX7_isSide F x1 S).bind (fun a_1 => if a_1 = 0 then some ((-1), S) else (fX7_isSong F x3 S).bind (fun a_2 => if a_2 = 0 then some ((-1), S) else (fX7_within F x2 0 255 S).bind (fun a_3 => if a_3 = 0 then some ((-2), S) else (rget 2 S (0, 6) x1).bind (fun q_4 => gd (alv S.2.2 (1, q_4)) (ltt (S.1 (1, q_4) 9) (fun x_7 => stp (s2 S (1, q_4) 9 x2) (fun S_8 => (rget 2 S_8 (0, 6) x1).bind (fun q_9 => gd (alv S_8.2.2 (1, q_9)) (stp (s2 S_8 (1, q_9) 10 x3) (fun S_12 => some (x_7, S_12)))))))))))
theorem kX7_sung (l : Launch) (G : vg) (F : Nat) (x1 : Int32) (x2 : Int32) (x3 : Int32) (S : vs) : Rt l G mX7_sung none phI [vR (0, 0), vI x1, vI x2, vI x3] (enc S) (fX7_sung F x1 x2 x3 S) := Rt.of rfl (Nat.le_of_ble_eq_true rfl) (by
  show V l G mX7_sung none phI _ 0 [(0, vR (0, 0)), (1, vI x1), (2, vI x2), (3, vI x3)] [] (enc S) 0 0
  unfold fX7_sung
  refine V.aload_n dX7_sung_0 0 rfl ?_
  refine V.iload_n dX7_sung_1 1 rfl ?_
  refine V.callV (M' := mX7_isSide) (As := [vI x1]) (ψ := (phP S)) dX7_sung_2 ml_X7_57 mfX7_isSide rfl ⟨by decide, by decide⟩ ⟨by decide, by decide⟩ (enc_at rfl sh0_0) rfl (Nat.le_of_ble_eq_true rfl) rfl (kX7_isSide l G F x1 S) (fun a_1 => ?_)
  show V l G mX7_sung none phI _ 5 [(0, vR (0, 0)), (1, vI x1), (2, vI x2), (3, vI x3)] [vI a_1] (enc S) 0 0
  refine V.if_eq 15 dX7_sung_5 (by decide) ?_ ?_
  · refine V.iconst (v := (-1)) dX7_sung_15 (by decide) ?_
    exact V.iret rfl dX7_sung_16 rfl (by decide) (by decide)
  · refine V.iload_n dX7_sung_8 3 rfl ?_
    refine V.callS (M' := mX7_isSong) (As := [vI x3]) (ψ := (phP S)) dX7_sung_9 ml_X7_179 mfX7_isSong rfl ⟨by decide, by decide⟩ ⟨by decide, by decide⟩ (Nat.le_of_ble_eq_true rfl) rfl (kX7_isSong l G F x3 S) (fun a_2 => ?_)
    show V l G mX7_sung none phI _ 12 [(0, vR (0, 0)), (1, vI x1), (2, vI x2), (3, vI x3)] [vI a_2] (enc S) 0 0
    refine V.if_ne 17 dX7_sung_12 (by decide) ?_ ?_
    · refine V.iload_n dX7_sung_17 2 rfl ?_
      refine V.iconst (v := 0) dX7_sung_18 (by decide) ?_
      refine V.sipush (v := 255) dX7_sung_19 (by decide) ?_
      refine V.callS (M' := mX7_within) (As := [vI x2, vI 0, vI 255]) (ψ := (phP S)) dX7_sung_22 ml_X7_50 mfX7_within rfl ⟨by decide, by decide⟩ ⟨by decide, by decide⟩ (Nat.le_of_ble_eq_true rfl) rfl (kX7_within l G F x2 0 255 S) (fun a_3 => ?_)
      show V l G mX7_sung none phI _ 25 [(0, vR (0, 0)), (1, vI x1), (2, vI x2), (3, vI x3)] [vI a_3] (enc S) 0 0
      refine V.if_ne 31 dX7_sung_25 (by decide) ?_ ?_
      · refine V.aload_n dX7_sung_31 0 rfl ?_
        refine V.sgR 7 0 dX7_sung_32 gf_X7_11 sh0_0 rfl rfl ?_
        refine V.iload_n dX7_sung_35 1 rfl ?_
        refine V.sbind fun q_4 h_5 => ?_
        refine V.saa (t := 2) dX7_sung_36 rfl rfl h_5 ?_
        refine V.chk fun h_6 => ?_
        refine V.sgI 2 9 dX7_sung_37 gf_X7_182 rfl rfl h_6 ?_
        refine V.lett fun x_7 => ?_
        refine V.istore (L' := [(0, vR (0, 0)), (1, vI x1), (2, vI x2), (3, vI x3), (4, vI x_7)]) dX7_sung_40 (by decide) rfl rfl ?_
        refine V.aload_n dX7_sung_42 0 rfl ?_
        refine V.sgR 7 0 dX7_sung_43 gf_X7_11 sh0_0 rfl rfl ?_
        refine V.iload_n dX7_sung_46 1 rfl ?_
        refine V.saa (t := 2) dX7_sung_47 rfl rfl h_5 ?_
        refine V.iload_n dX7_sung_48 2 rfl ?_
        refine V.spI 2 9 dX7_sung_49 pf_X7_182 rfl rfl h_6 ?_
        refine V.sst fun S_8 => ?_
        refine V.aload_n dX7_sung_52 0 rfl ?_
        refine V.sgR 7 0 dX7_sung_53 gf_X7_11 sh0_0 rfl rfl ?_
        refine V.iload_n dX7_sung_56 1 rfl ?_
        refine V.sbind fun q_9 h_10 => ?_
        refine V.saa (t := 2) dX7_sung_57 rfl rfl h_10 ?_
        refine V.iload_n dX7_sung_58 3 rfl ?_
        refine V.chk fun h_11 => ?_
        refine V.spI 2 10 dX7_sung_59 pf_X7_185 rfl rfl h_11 ?_
        refine V.sst fun S_12 => ?_
        refine V.iload dX7_sung_62 4 rfl ?_
        exact V.iret rfl dX7_sung_64 rfl (by decide) (by decide)
      · refine V.bipush (v := (-2)) dX7_sung_28 (by decide) ?_
        exact V.iret rfl dX7_sung_30 rfl (by decide) (by decide)
    · refine V.iconst (v := (-1)) dX7_sung_15 (by decide) ?_
      exact V.iret rfl dX7_sung_16 rfl (by decide) (by decide))

abbrev mX7_isFamily : vmt := (yX7_isFamily, cX7_isFamily, 1, (some .boolean), { frames := 1, cells := 0, slots := 0, locals := 22 })
theorem mfX7_isFamily : mfS mX7_isFamily 1 := ⟨sm_X7_isFamily, ini_X7, co_X7_isFamily, by decide, by decide, by decide +kernel⟩
def fX7_isFamily (F : Nat) (x0 : Int32) (S : vs) : Option Int32 := (fX7_within F x0 0 7 S).bind (fun a_1 => gd (zb a_1) (some a_1))
theorem kX7_isFamily (l : Launch) (G : vg) (F : Nat) (x0 : Int32) (S : vs) : Rt l G mX7_isFamily none (phP S) [vI x0] (enc S) (fX7_isFamily F x0 S) := Rt.of rfl (Nat.le_of_ble_eq_true rfl) (by
  show V l G mX7_isFamily none (phP S) _ 0 [(0, vI x0)] [] (enc S) 0 0
  unfold fX7_isFamily
  refine V.iload_n dX7_isFamily_0 0 rfl ?_
  refine V.iconst (v := 0) dX7_isFamily_1 (by decide) ?_
  refine V.bipush (v := 7) dX7_isFamily_2 (by decide) ?_
  refine V.callS (M' := mX7_within) (As := [vI x0, vI 0, vI 7]) (ψ := (phP S)) dX7_isFamily_4 ml_X7_50 mfX7_within rfl ⟨by decide, by decide⟩ ⟨by decide, by decide⟩ (Nat.le_of_ble_eq_true rfl) rfl (kX7_within l G F x0 0 7 S) (fun a_1 => ?_)
  show V l G mX7_isFamily none (phP S) _ 7 [(0, vI x0)] [vI a_1] (enc S) 0 0
  refine V.chk fun h_2 => ?_
  exact V.zret rfl dX7_isFamily_7 rfl (zb_n h_2) (by decide) (by decide))

