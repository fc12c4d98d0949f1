abbrev mX8_in : vmt := (yX8_in, cX8_in, 6, (some .boolean), { frames := 0, cells := 0, slots := 0, locals := 0 })
theorem mfX8_in : mfS mX8_in 3 := ⟨sm_X8_in, ini_X8, co_X8_in, by decide, by decide, by decide +kernel⟩
def fX8_in (F : Nat) (y0 : Int64) (y2 : Int64) (y4 : Int64) (S : vs) : Option Int32 := if (lg_cmp y0 y2) < 0 then some 0 else if 0 < (lg_cmp y0 y4) then some 0 else some 1
theorem kX8_in (l : Launch) (G : vg) (F : Nat) (y0 : Int64) (y2 : Int64) (y4 : Int64) (S : vs) : Rt l G mX8_in none (phP S) [vJ y0, vJ y2, vJ y4] (enc S) (fX8_in F y0 y2 y4 S) := Rt.of rfl (Nat.le_of_ble_eq_true rfl) (by
  show V l G mX8_in none (phP S) _ 0 [(0, vJ y0), (2, vJ y2), (4, vJ y4)] [] (enc S) 0 0
  unfold fX8_in
  refine V.lload_n dX8_in_0 0 rfl ?_
  refine V.lload_n dX8_in_1 1 rfl ?_
  refine V.lcmp dX8_in_2 ?_
  refine V.if_lt 17 dX8_in_3 (by decide) ?_ ?_
  · refine V.iconst (v := 0) dX8_in_17 (by decide) ?_
    exact V.zret rfl dX8_in_18 rfl (zb_n rfl) (by decide) (by decide)
  · refine V.lload_n dX8_in_6 0 rfl ?_
    refine V.lload dX8_in_7 2 rfl ?_
    refine V.lcmp dX8_in_9 ?_
    refine V.if_gt 17 dX8_in_10 (by decide) ?_ ?_
    · refine V.iconst (v := 0) dX8_in_17 (by decide) ?_
      exact V.zret rfl dX8_in_18 rfl (zb_n rfl) (by decide) (by decide)
    · refine V.iconst (v := 1) dX8_in_13 (by decide) ?_
      refine V.goto 18 dX8_in_14 (by decide) ?_
      exact V.zret rfl dX8_in_18 rfl (zb_n rfl) (by decide) (by decide))

abbrev mX8_noSide : vmt := (yX8_noSide, cX8_noSide, 2, (some .boolean), { frames := 1, cells := 0, slots := 0, locals := 25 })
theorem mfX8_noSide : mfV mX8_noSide 1 := ⟨im_X8_noSide, se_X8_noSide, ini_X8, co_X8_noSide, by decide, by decide, by decide +kernel⟩
def fX8_noSide (F : Nat) (x1 : Int32) (S : vs) : Option Int32 := (fX8_in F x1.toInt64 0 (((S.1 (0, 1) 1) - 1).toInt64) S).bind (fun a_1 => if a_1 = 0 then some 1 else some 0)
theorem kX8_noSide (l : Launch) (G : vg) (F : Nat) (x1 : Int32) (S : vs) : Rt l G mX8_noSide none (phP S) [vR (0, 1), vI x1] (enc S) (fX8_noSide F x1 S) := Rt.of rfl (Nat.le_of_ble_eq_true rfl) (by
  show V l G mX8_noSide none (phP S) _ 0 [(0, vR (0, 1)), (1, vI x1)] [] (enc S) 0 0
  unfold fX8_noSide
  refine V.iload_n dX8_noSide_0 1 rfl ?_
  refine V.i2l dX8_noSide_1 ?_
  refine V.lconst (v := 0) dX8_noSide_2 (by decide) ?_
  refine V.aload_n dX8_noSide_3 0 rfl ?_
  refine V.sgI 8 1 dX8_noSide_4 gf_X8_99 sh0_1 rfl rfl ?_
  refine V.iconst (v := 1) dX8_noSide_7 (by decide) ?_
  refine V.isub dX8_noSide_8 ?_
  refine V.i2l dX8_noSide_9 ?_
  refine V.callS (M' := mX8_in) (As := [vJ x1.toInt64, vJ 0, vJ (((S.1 (0, 1) 1) - 1).toInt64)]) (ψ := (phP S)) dX8_noSide_10 ml_X8_102 mfX8_in rfl ⟨by decide, by decide⟩ ⟨by decide, by decide⟩ (Nat.le_of_ble_eq_true rfl) rfl (kX8_in l G F x1.toInt64 0 (((S.1 (0, 1) 1) - 1).toInt64) S) (fun a_1 => ?_)
  show V l G mX8_noSide none (phP S) _ 13 [(0, vR (0, 1)), (1, vI x1)] [vI a_1] (enc S) 0 0
  refine V.if_ne 20 dX8_noSide_13 (by decide) ?_ ?_
  · refine V.iconst (v := 0) dX8_noSide_20 (by decide) ?_
    exact V.zret rfl dX8_noSide_21 rfl (zb_n rfl) (by decide) (by decide)
  · refine V.iconst (v := 1) dX8_noSide_16 (by decide) ?_
    refine V.goto 21 dX8_noSide_17 (by decide) ?_
    exact V.zret rfl dX8_noSide_21 rfl (zb_n rfl) (by decide) (by decide))

abbrev mX8_noSet : vmt := (yX8_noSet, cX8_noSet, 2, (some .boolean), { frames := 0, cells := 0, slots := 0, locals := 0 })
theorem mfX8_noSet : mfV mX8_noSet 1 := ⟨im_X8_noSet, se_X8_noSet, ini_X8, co_X8_noSet, by decide, by decide, by decide +kernel⟩
def jX8_noSet_13 (F : Nat) (S : vs) : Option Int32 := some 1

def fX8_noSet (F : Nat) (x1 : Int32) (S : vs) : Option Int32 := if x1 < 0 then jX8_noSet_13 F S else if (x1 >>> ((S.1 (0, 1) 1) &&& 31)) = 0 then some 0 else jX8_noSet_13 F S
theorem tjX8_noSet_13 (l : Launch) (G : vg) (F : Nat) (S : vs) : V l G mX8_noSet none (phP S) (jX8_noSet_13 F S) 13 [] [] (enc S) 0 0 := by
  unfold jX8_noSet_13
  refine V.iconst (v := 1) dX8_noSet_13 (by decide) ?_
  refine V.goto 18 dX8_noSet_14 (by decide) ?_
  exact V.zret rfl dX8_noSet_18 rfl (zb_n rfl) (by decide) (by decide)

theorem kX8_noSet (l : Launch) (G : vg) (F : Nat) (x1 : Int32) (S : vs) : Rt l G mX8_noSet none (phP S) [vR (0, 1), vI x1] (enc S) (fX8_noSet F x1 S) := Rt.of rfl (Nat.le_of_ble_eq_true rfl) (by
  show V l G mX8_noSet none (phP S) _ 0 [(0, vR (0, 1)), (1, vI x1)] [] (enc S) 0 0
  unfold fX8_noSet
  refine V.iload_n dX8_noSet_0 1 rfl ?_
  refine V.if_lt 13 dX8_noSet_1 (by decide) ?_ ?_
  · exact V.lsub [] rfl (tjX8_noSet_13 l G F S)
  · refine V.iload_n dX8_noSet_4 1 rfl ?_
    refine V.aload_n dX8_noSet_5 0 rfl ?_
    refine V.sgI 8 1 dX8_noSet_6 gf_X8_99 sh0_1 rfl rfl ?_
    refine V.ishr dX8_noSet_9 ?_
    refine V.if_eq 17 dX8_noSet_10 (by decide) ?_ ?_
    · refine V.iconst (v := 0) dX8_noSet_17 (by decide) ?_
      exact V.zret rfl dX8_noSet_18 rfl (zb_n rfl) (by decide) (by decide)
    · exact V.lsub [] rfl (tjX8_noSet_13 l G F S))

abbrev mX8_bits : vmt := (yX8_bits, cX8_bits, 3, (some .int), { frames := 0, cells := 0, slots := 0, locals := 0 })
theorem mfX8_bits : mfS mX8_bits 1 := ⟨sm_X8_bits, ini_X8, co_X8_bits, by decide, by decide, by decide +kernel⟩
def hX8_bits_4 (F : Nat) (S : vs) (x0 : Int32) : Nat → Int32 → Int32 → Option Int32
  | 0, _, _ => none
  | n + 1, x1, x2 => if 16 ≤ x2 then some x1 else ltt (x1 + ((x0 >>> (x2 &&& 31)) &&& 1)) (fun x_1 => ltt (x2 + 1) (fun x_2 => hX8_bits_4 F S x0 n x_1 x_2))

def fX8_bits (F : Nat) (x0 : Int32) (S : vs) : Option Int32 := hX8_bits_4 F S x0 F 0 0
theorem thX8_bits_4 (l : Launch) (G : vg) (F : Nat) (S : vs) (x0 : Int32) : ∀ (n : Nat) (x1 : Int32) (x2 : Int32), V l G mX8_bits none (phP S) (hX8_bits_4 F S x0 n x1 x2) 4 [(0, vI x0), (1, vI x1), (2, vI x2)] [] (enc S) 0 0
  | 0, _, _ => V.nil
  | n + 1, x1, x2 => by
    have ih := thX8_bits_4 l G F S x0 n
    rw [hX8_bits_4]
    refine V.iload_n dX8_bits_4 2 rfl ?_
    refine V.bipush (v := 16) dX8_bits_5 (by decide) ?_
    refine V.icmp_ge 24 dX8_bits_7 (by decide) ?_ ?_
    · refine V.iload_n dX8_bits_24 1 rfl ?_
      exact V.iret rfl dX8_bits_25 rfl (by decide) (by decide)
    · refine V.iload_n dX8_bits_10 1 rfl ?_
      refine V.iload_n dX8_bits_11 0 rfl ?_
      refine V.iload_n dX8_bits_12 2 rfl ?_
      refine V.ishr dX8_bits_13 ?_
      refine V.iconst (v := 1) dX8_bits_14 (by decide) ?_
      refine V.iand dX8_bits_15 ?_
      refine V.iadd dX8_bits_16 ?_
      refine V.lett fun x_1 => ?_
      refine V.istore_n (L' := [(0, vI x0), (1, vI x_1), (2, vI x2)]) dX8_bits_17 (by decide) rfl rfl ?_
      refine V.lti (e := x2 + 1) (fun x_2 he => ?_)
      refine V.iinc (v := x_2) (L' := [(0, vI x0), (1, vI x_1), (2, vI x_2)]) dX8_bits_18 2 rfl he.symm (by decide) rfl rfl ?_
      refine V.goto 4 dX8_bits_21 (by decide) ?_
      exact (ih x_1 x_2)

theorem kX8_bits (l : Launch) (G : vg) (F : Nat) (x0 : Int32) (S : vs) : Rt l G mX8_bits none (phP S) [vI x0] (enc S) (fX8_bits F x0 S) := Rt.of rfl (Nat.le_of_ble_eq_true rfl) (by
  show V l G mX8_bits none (phP S) _ 0 [(0, vI x0)] [] (enc S) 0 0
  unfold fX8_bits
  refine V.iconst (v := 0) dX8_bits_0 (by decide) ?_
  refine V.istore_n (L' := [(0, vI x0), (1, vI 0)]) dX8_bits_1 (by decide) rfl rfl ?_
  refine V.iconst (v := 0) dX8_bits_2 (by decide) ?_
  refine V.istore_n (L' := [(0, vI x0), (1, vI 0), (2, vI 0)]) dX8_bits_3 (by decide) rfl rfl ?_
  exact (thX8_bits_4 l G F S x0 F 0 0))

abbrev mX8_side : vmt := (yX8_side, cX8_side, 5, (some .int), { frames := 1, cells := 0, slots := 0, locals := 25 })
theorem mfX8_side : mfV mX8_side 4 := ⟨im_X8_side, se_X8_side, ini_X8, co_X8_side, by decide, by decide, by decide +kernel⟩
def fX8_side (F : Nat) (x1 : Int32) (x2 : Int32) (x3 : Int32) (x4 : Int32) (S : vs) : Option (Int32 × vs) := stp (s2 S (0, 1) 0 0) (fun S_1 => (fX8_in F x1.toInt64 0 1000 S_1).bind (fun a_2 => if a_2 = 0 then some ((-2), S_1) else (fX8_in F x2.toInt64 0 100 S_1).bind (fun a_3 => if a_3 = 0 then some ((-2), S_1) else (fX8_in F x3.toInt64 0 100 S_1).bind (fun a_4 => if a_4 = 0 then some ((-2), S_1) else (fX8_in F x4.toInt64 0 100 S_1).bind (fun a_5 => if a_5 = 0 then some ((-2), S_1) else if (S_1.1 (0, 1) 1) = 16 then some ((-4), S_1) else gd (inb (S_1.1 (0, 1) 1) (alen 0 S_1.2.2 (0, 23))) (stp (s2 S_1 (0, 23) (S_1.1 (0, 1) 1).toNatClampNeg x1) (fun S_7 => gd (inb (S_7.1 (0, 1) 1) (alen 0 S_7.2.2 (0, 24))) (stp (s2 S_7 (0, 24) (S_7.1 (0, 1) 1).toNatClampNeg x2) (fun S_9 => gd (inb (S_9.1 (0, 1) 1) (alen 0 S_9.2.2 (0, 25))) (stp (s2 S_9 (0, 25) (S_9.1 (0, 1) 1).toNatClampNeg x3) (fun S_11 => gd (inb (S_11.1 (0, 1) 1) (alen 0 S_11.2.2 (0, 26))) (stp (s2 S_11 (0, 26) (S_11.1 (0, 1) 1).toNatClampNeg x4) (fun S_13 => gd (inb (S_13.1 (0, 1) 1) (alen 0 S_13.2.2 (0, 27))) (stp (s2 S_13 (0, 27) (S_13.1 (0, 1) 1).toNatClampNeg 10) (fun S_15 => gd (inb (S_15.1 (0, 1) 1) (alen 0 S_15.2.2 (0, 28))) (stp (s2 S_15 (0, 28) (S_15.1 (0, 1) 1).toNatClampNeg 5) (fun S_17 => gd (inb (S_17.1 (0, 1) 1) (alen 0 S_17.2.2 (0, 30))) (stp (s2 S_17 (0, 30) (S_17.1 (0, 1) 1).toNatClampNeg (-9)) (fun S_19 => gd (inb (S_19.1 (0, 1) 1) (alen 0 S_19.2.2 (0, 31))) (stp (s2 S_19 (0, 31) (S_19.1 (0, 1) 1).toNatClampNeg (-9)) (fun S_21 => stp (s2 S_21 (0, 1) 1 ((S_21.1 (0, 1) 1) + 1)) (fun S_22 => some ((S_22.1 (0, 1) 1) - 1, S_22)))))))))))))))))))))))
theorem kX8_side (l : Launch) (G : vg) (F : Nat) (x1 : Int32) (x2 : Int32) (x3 : Int32) (x4 : Int32) (S : vs) : Rt l G mX8_side none phI [vR (0, 1), vI x1, vI x2, vI x3, vI x4] (enc S) (fX8_side F x1 x2 x3 x4 S) := Rt.of rfl (Nat.le_of_ble_eq_true rfl) (by
  show V l G mX8_side none phI _ 0 [(0, vR (0, 1)), (1, vI x1), (2, vI x2), (3, vI x3), (4, vI x4)] [] (enc S) 0 0
  unfold fX8_side
  refine V.aload_n dX8_side_0 0 rfl ?_
  refine V.iconst (v := 0) dX8_side_1 (by decide) ?_
  refine V.spI 8 0 dX8_side_2 pf_X8_95 sh0_1 rfl rfl ?_
  refine V.sst fun S_1 => ?_
  refine V.iload_n dX8_side_5 1 rfl ?_
  refine V.i2l dX8_side_6 ?_
  refine V.lconst (v := 0) dX8_side_7 (by decide) ?_
  refine V.ldc2 (v := 1000) dX8_side_8 ct_X8_106 ?_
  refine V.callS (M' := mX8_in) (As := [vJ x1.toInt64, vJ 0, vJ 1000]) (ψ := (phP S_1)) dX8_side_11 ml_X8_102 mfX8_in rfl ⟨by decide, by decide⟩ ⟨by decide, by decide⟩ (Nat.le_of_ble_eq_true rfl) rfl (kX8_in l G F x1.toInt64 0 1000 S_1) (fun a_2 => ?_)
  show V l G mX8_side none phI _ 14 [(0, vR (0, 1)), (1, vI x1), (2, vI x2), (3, vI x3), (4, vI x4)] [vI a_2] (enc S_1) 0 0
  refine V.if_eq 54 dX8_side_14 (by decide) ?_ ?_
  · refine V.bipush (v := (-2)) dX8_side_54 (by decide) ?_
    exact V.iret rfl dX8_side_56 rfl (by decide) (by decide)
  · refine V.iload_n dX8_side_17 2 rfl ?_
    refine V.i2l dX8_side_18 ?_
    refine V.lconst (v := 0) dX8_side_19 (by decide) ?_
    refine V.ldc2 (v := 100) dX8_side_20 ct_X8_108 ?_
    refine V.callS (M' := mX8_in) (As := [vJ x2.toInt64, vJ 0, vJ 100]) (ψ := (phP S_1)) dX8_side_23 ml_X8_102 mfX8_in rfl ⟨by decide, by decide⟩ ⟨by decide, by decide⟩ (Nat.le_of_ble_eq_true rfl) rfl (kX8_in l G F x2.toInt64 0 100 S_1) (fun a_3 => ?_)
    show V l G mX8_side none phI _ 26 [(0, vR (0, 1)), (1, vI x1), (2, vI x2), (3, vI x3), (4, vI x4)] [vI a_3] (enc S_1) 0 0
    refine V.if_eq 54 dX8_side_26 (by decide) ?_ ?_
    · refine V.bipush (v := (-2)) dX8_side_54 (by decide) ?_
      exact V.iret rfl dX8_side_56 rfl (by decide) (by decide)
    · refine V.iload_n dX8_side_29 3 rfl ?_
      refine V.i2l dX8_side_30 ?_
      refine V.lconst (v := 0) dX8_side_31 (by decide) ?_
      refine V.ldc2 (v := 100) dX8_side_32 ct_X8_108 ?_
      refine V.callS (M' := mX8_in) (As := [vJ x3.toInt64, vJ 0, vJ 100]) (ψ := (phP S_1)) dX8_side_35 ml_X8_102 mfX8_in rfl ⟨by decide, by decide⟩ ⟨by decide, by decide⟩ (Nat.le_of_ble_eq_true rfl) rfl (kX8_in l G F x3.toInt64 0 100 S_1) (fun a_4 => ?_)
      show V l G mX8_side none phI _ 38 [(0, vR (0, 1)), (1, vI x1), (2, vI x2), (3, vI x3), (4, vI x4)] [vI a_4] (enc S_1) 0 0
      refine V.if_eq 54 dX8_side_38 (by decide) ?_ ?_
      · refine V.bipush (v := (-2)) dX8_side_54 (by decide) ?_
        exact V.iret rfl dX8_side_56 rfl (by decide) (by decide)
      · refine V.iload dX8_side_41 4 rfl ?_
        refine V.i2l dX8_side_43 ?_
        refine V.lconst (v := 0) dX8_side_44 (by decide) ?_
        refine V.ldc2 (v := 100) dX8_side_45 ct_X8_108 ?_
        refine V.callS (M' := mX8_in) (As := [vJ x4.toInt64, vJ 0, vJ 100]) (ψ := (phP S_1)) dX8_side_48 ml_X8_102 mfX8_in rfl ⟨by decide, by decide⟩ ⟨by decide, by decide⟩ (Nat.le_of_ble_eq_true rfl) rfl (kX8_in l G F x4.toInt64 0 100 S_1) (fun a_5 => ?_)
        show V l G mX8_side none phI _ 51 [(0, vR (0, 1)), (1, vI x1), (2, vI x2), (3, vI x3), (4, vI x4)] [vI a_5] (enc S_1) 0 0
        refine V.if_ne 57 dX8_side_51 (by decide) ?_ ?_
        · refine V.aload_n dX8_side_57 0 rfl ?_
          refine V.sgI 8 1 dX8_side_58 gf_X8_99 sh0_1 rfl rfl ?_
          refine V.bipush (v := 16) dX8_side_61 (by decide) ?_
          refine V.icmp_ne 69 dX8_side_63 (by decide) ?_ ?_
          · refine V.aload_n dX8_side_69 0 rfl ?_
            refine V.sgR 8 3 dX8_side_70 gf_X8_7 sh0_1 rfl rfl ?_
            refine V.aload_n dX8_side_73 0 rfl ?_
            refine V.sgI 8 1 dX8_side_74 gf_X8_99 sh0_1 rfl rfl ?_
            refine V.iload_n dX8_side_77 1 rfl ?_
            refine V.chk fun h_6 => ?_
            refine V.sis dX8_side_78 h_6 ?_
            refine V.sst fun S_7 => ?_
            refine V.aload_n dX8_side_79 0 rfl ?_
            refine V.sgR 8 4 dX8_side_80 gf_X8_13 sh0_1 rfl rfl ?_
            refine V.aload_n dX8_side_83 0 rfl ?_
            refine V.sgI 8 1 dX8_side_84 gf_X8_99 sh0_1 rfl rfl ?_
            refine V.iload_n dX8_side_87 2 rfl ?_
            refine V.chk fun h_8 => ?_
            refine V.sis dX8_side_88 h_8 ?_
            refine V.sst fun S_9 => ?_
            refine V.aload_n dX8_side_89 0 rfl ?_
            refine V.sgR 8 5 dX8_side_90 gf_X8_16 sh0_1 rfl rfl ?_
            refine V.aload_n dX8_side_93 0 rfl ?_
            refine V.sgI 8 1 dX8_side_94 gf_X8_99 sh0_1 rfl rfl ?_
            refine V.iload_n dX8_side_97 3 rfl ?_
            refine V.chk fun h_10 => ?_
            refine V.sis dX8_side_98 h_10 ?_
            refine V.sst fun S_11 => ?_
            refine V.aload_n dX8_side_99 0 rfl ?_
            refine V.sgR 8 6 dX8_side_100 gf_X8_19 sh0_1 rfl rfl ?_
            refine V.aload_n dX8_side_103 0 rfl ?_
            refine V.sgI 8 1 dX8_side_104 gf_X8_99 sh0_1 rfl rfl ?_
            refine V.iload dX8_side_107 4 rfl ?_
            refine V.chk fun h_12 => ?_
            refine V.sis dX8_side_109 h_12 ?_
            refine V.sst fun S_13 => ?_
            refine V.aload_n dX8_side_110 0 rfl ?_
            refine V.sgR 8 7 dX8_side_111 gf_X8_22 sh0_1 rfl rfl ?_
            refine V.aload_n dX8_side_114 0 rfl ?_
            refine V.sgI 8 1 dX8_side_115 gf_X8_99 sh0_1 rfl rfl ?_
            refine V.bipush (v := 10) dX8_side_118 (by decide) ?_
            refine V.chk fun h_14 => ?_
            refine V.sis dX8_side_120 h_14 ?_
            refine V.sst fun S_15 => ?_
            refine V.aload_n dX8_side_121 0 rfl ?_
            refine V.sgR 8 8 dX8_side_122 gf_X8_25 sh0_1 rfl rfl ?_
            refine V.aload_n dX8_side_125 0 rfl ?_
            refine V.sgI 8 1 dX8_side_126 gf_X8_99 sh0_1 rfl rfl ?_
            refine V.iconst (v := 5) dX8_side_129 (by decide) ?_
            refine V.chk fun h_16 => ?_
            refine V.sis dX8_side_130 h_16 ?_
            refine V.sst fun S_17 => ?_
            refine V.aload_n dX8_side_131 0 rfl ?_
            refine V.sgR 8 10 dX8_side_132 gf_X8_31 sh0_1 rfl rfl ?_
            refine V.aload_n dX8_side_135 0 rfl ?_
            refine V.sgI 8 1 dX8_side_136 gf_X8_99 sh0_1 rfl rfl ?_
            refine V.bipush (v := (-9)) dX8_side_139 (by decide) ?_
            refine V.chk fun h_18 => ?_
            refine V.sis dX8_side_141 h_18 ?_
            refine V.sst fun S_19 => ?_
            refine V.aload_n dX8_side_142 0 rfl ?_
            refine V.sgR 8 11 dX8_side_143 gf_X8_34 sh0_1 rfl rfl ?_
            refine V.aload_n dX8_side_146 0 rfl ?_
            refine V.sgI 8 1 dX8_side_147 gf_X8_99 sh0_1 rfl rfl ?_
            refine V.bipush (v := (-9)) dX8_side_150 (by decide) ?_
            refine V.chk fun h_20 => ?_
            refine V.sis dX8_side_152 h_20 ?_
            refine V.sst fun S_21 => ?_
            refine V.aload_n dX8_side_153 0 rfl ?_
            refine V.dup dX8_side_154 rfl ?_
            refine V.sgI 8 1 dX8_side_155 gf_X8_99 sh0_1 rfl rfl ?_
            refine V.iconst (v := 1) dX8_side_158 (by decide) ?_
            refine V.iadd dX8_side_159 ?_
            refine V.spI 8 1 dX8_side_160 pf_X8_99 sh0_1 rfl rfl ?_
            refine V.sst fun S_22 => ?_
            refine V.aload_n dX8_side_163 0 rfl ?_
            refine V.sgI 8 1 dX8_side_164 gf_X8_99 sh0_1 rfl rfl ?_
            refine V.iconst (v := 1) dX8_side_167 (by decide) ?_
            refine V.isub dX8_side_168 ?_
            exact V.iret rfl dX8_side_169 rfl (by decide) (by decide)
          · refine V.bipush (v := (-4)) dX8_side_66 (by decide) ?_
            exact V.iret rfl dX8_side_68 rfl (by decide) (by decide)
        · refine V.bipush (v := (-2)) dX8_side_54 (by decide) ?_
          exact V.iret rfl dX8_side_56 rfl (by decide) (by decide))

abbrev mX8_hours : vmt := (yX8_hours, cX8_hours, 4, (some .int), { frames := 2, cells := 0, slots := 0, locals := 46 })
theorem mfX8_hours : mfV mX8_hours 3 := ⟨im_X8_hours, se_X8_hours, ini_X8, co_X8_hours, by decide, by decide, by decide +kernel⟩
def fX8_hours (F : Nat) (x1 : Int32) (x2 : Int32) (x3 : Int32) (S : vs) : Option (Int32 × vs) := stp (s2 S (0, 1) 0 0) (fun S_1 => (fX8_noSide F x1 S_1).bind (fun a_2 => if a_2 = 0 then (fX8_in F x2.toInt64 1 1000 S_1).bind (fun a_3 => if a_3 = 0 then some ((-2), S_1) else (fX8_in F x3.toInt64 1 1000 S_1).bind (fun a_4 => if a_4 = 0 then some ((-2), S_1) else gd (inb x1 (alen 0 S_1.2.2 (0, 27))) (stp (s2 S_1 (0, 27) x1.toNatClampNeg x2) (fun S_6 => gd (inb x1 (alen 0 S_6.2.2 (0, 28))) (stp (s2 S_6 (0, 28) x1.toNatClampNeg x3) (fun S_8 => some (1, S_8))))))) else some ((-1), S_1)))
theorem kX8_hours (l : Launch) (G : vg) (F : Nat) (x1 : Int32) (x2 : Int32) (x3 : Int32) (S : vs) : Rt l G mX8_hours none phI [vR (0, 1), vI x1, vI x2, vI x3] (enc S) (fX8_hours F x1 x2 x3 S) := Rt.of rfl (Nat.le_of_ble_eq_true rfl) (by
  show V l G mX8_hours none phI _ 0 [(0, vR (0, 1)), (1, vI x1), (2, vI x2), (3, vI x3)] [] (enc S) 0 0
  unfold fX8_hours
  refine V.aload_n dX8_hours_0 0 rfl ?_
  refine V.iconst (v := 0) dX8_hours_1 (by decide) ?_
  refine V.spI 8 0 dX8_hours_2 pf_X8_95 sh0_1 rfl rfl ?_
  refine V.sst fun S_1 => ?_
  refine V.aload_n dX8_hours_5 0 rfl ?_
  refine V.iload_n dX8_hours_6 1 rfl ?_
  refine V.callV (M' := mX8_noSide) (As := [vI x1]) (ψ := (phP S_1)) dX8_hours_7 ml_X8_110 mfX8_noSide rfl ⟨by decide, by decide⟩ ⟨by decide, by decide⟩ (enc_at rfl sh0_1) rfl (Nat.le_of_ble_eq_true rfl) rfl (kX8_noSide l G F x1 S_1) (fun a_2 => ?_)
  show V l G mX8_hours none phI _ 10 [(0, vR (0, 1)), (1, vI x1), (2, vI x2), (3, vI x3)] [vI a_2] (enc S_1) 0 0
  refine V.if_eq 15 dX8_hours_10 (by decide) ?_ ?_
  · refine V.iload_n dX8_hours_15 2 rfl ?_
    refine V.i2l dX8_hours_16 ?_
    refine V.lconst (v := 1) dX8_hours_17 (by decide) ?_
    refine V.ldc2 (v := 1000) dX8_hours_18 ct_X8_106 ?_
    refine V.callS (M' := mX8_in) (As := [vJ x2.toInt64, vJ 1, vJ 1000]) (ψ := (phP S_1)) dX8_hours_21 ml_X8_102 mfX8_in rfl ⟨by decide, by decide⟩ ⟨by decide, by decide⟩ (Nat.le_of_ble_eq_true rfl) rfl (kX8_in l G F x2.toInt64 1 1000 S_1) (fun a_3 => ?_)
    show V l G mX8_hours none phI _ 24 [(0, vR (0, 1)), (1, vI x1), (2, vI x2), (3, vI x3)] [vI a_3] (enc S_1) 0 0
    refine V.if_eq 39 dX8_hours_24 (by decide) ?_ ?_
    · refine V.bipush (v := (-2)) dX8_hours_39 (by decide) ?_
      exact V.iret rfl dX8_hours_41 rfl (by decide) (by decide)
    · refine V.iload_n dX8_hours_27 3 rfl ?_
      refine V.i2l dX8_hours_28 ?_
      refine V.lconst (v := 1) dX8_hours_29 (by decide) ?_
      refine V.ldc2 (v := 1000) dX8_hours_30 ct_X8_106 ?_
      refine V.callS (M' := mX8_in) (As := [vJ x3.toInt64, vJ 1, vJ 1000]) (ψ := (phP S_1)) dX8_hours_33 ml_X8_102 mfX8_in rfl ⟨by decide, by decide⟩ ⟨by decide, by decide⟩ (Nat.le_of_ble_eq_true rfl) rfl (kX8_in l G F x3.toInt64 1 1000 S_1) (fun a_4 => ?_)
      show V l G mX8_hours none phI _ 36 [(0, vR (0, 1)), (1, vI x1), (2, vI x2), (3, vI x3)] [vI a_4] (enc S_1) 0 0
      refine V.if_ne 42 dX8_hours_36 (by decide) ?_ ?_
      · refine V.aload_n dX8_hours_42 0 rfl ?_
        refine V.sgR 8 7 dX8_hours_43 gf_X8_22 sh0_1 rfl rfl ?_
        refine V.iload_n dX8_hours_46 1 rfl ?_
        refine V.iload_n dX8_hours_47 2 rfl ?_
        refine V.chk fun h_5 => ?_
        refine V.sis dX8_hours_48 h_5 ?_
        refine V.sst fun S_6 => ?_
        refine V.aload_n dX8_hours_49 0 rfl ?_
        refine V.sgR 8 8 dX8_hours_50 gf_X8_25 sh0_1 rfl rfl ?_
        refine V.iload_n dX8_hours_53 1 rfl ?_
        refine V.iload_n dX8_hours_54 3 rfl ?_
        refine V.chk fun h_7 => ?_
        refine V.sis dX8_hours_55 h_7 ?_
        refine V.sst fun S_8 => ?_
        refine V.iconst (v := 1) dX8_hours_56 (by decide) ?_
        exact V.iret rfl dX8_hours_57 rfl (by decide) (by decide)
      · refine V.bipush (v := (-2)) dX8_hours_39 (by decide) ?_
        exact V.iret rfl dX8_hours_41 rfl (by decide) (by decide)
  · refine V.iconst (v := (-1)) dX8_hours_13 (by decide) ?_
    exact V.iret rfl dX8_hours_14 rfl (by decide) (by decide))

abbrev mX8_told : vmt := (yX8_told, cX8_told, 3, (some .int), { frames := 2, cells := 0, slots := 0, locals := 46 })
theorem mfX8_told : mfV mX8_told 2 := ⟨im_X8_told, se_X8_told, ini_X8, co_X8_told, by decide, by decide, by decide +kernel⟩
def fX8_told (F : Nat) (x1 : Int32) (x2 : Int32) (S : vs) : Option (Int32 × vs) := stp (s2 S (0, 1) 0 0) (fun S_1 => (fX8_noSide F x1 S_1).bind (fun a_2 => if a_2 = 0 then if x2 = 0 then gd (inb x1 (alen 0 S_1.2.2 (0, 23))) (some (S_1.1 (0, 23) x1.toNatClampNeg, S_1)) else if x2 = 1 then gd (inb x1 (alen 0 S_1.2.2 (0, 24))) (some (S_1.1 (0, 24) x1.toNatClampNeg, S_1)) else if x2 = 2 then gd (inb x1 (alen 0 S_1.2.2 (0, 25))) (some (S_1.1 (0, 25) x1.toNatClampNeg, S_1)) else if x2 = 3 then gd (inb x1 (alen 0 S_1.2.2 (0, 26))) (some (S_1.1 (0, 26) x1.toNatClampNeg, S_1)) else if x2 = 4 then gd (inb x1 (alen 0 S_1.2.2 (0, 27))) (some (S_1.1 (0, 27) x1.toNatClampNeg, S_1)) else if x2 = 5 then gd (inb x1 (alen 0 S_1.2.2 (0, 28))) (some (S_1.1 (0, 28) x1.toNatClampNeg, S_1)) else if x2 = 6 then gd (inb x1 (alen 0 S_1.2.2 (0, 29))) (some (S_1.1 (0, 29) x1.toNatClampNeg, S_1)) else if x2 = 7 then gd (inb x1 (alen 0 S_1.2.2 (0, 30))) (some (S_1.1 (0, 30) x1.toNatClampNeg, S_1)) else if x2 = 8 then gd (inb x1 (alen 0 S_1.2.2 (0, 31))) (some (S_1.1 (0, 31) x1.toNatClampNeg, S_1)) else some ((-2), S_1) else some ((-1), S_1)))
theorem kX8_told (l : Launch) (G : vg) (F : Nat) (x1 : Int32) (x2 : Int32) (S : vs) : Rt l G mX8_told none phI [vR (0, 1), vI x1, vI x2] (enc S) (fX8_told F x1 x2 S) := Rt.of rfl (Nat.le_of_ble_eq_true rfl) (by
  show V l G mX8_told none phI _ 0 [(0, vR (0, 1)), (1, vI x1), (2, vI x2)] [] (enc S) 0 0
  unfold fX8_told
  refine V.aload_n dX8_told_0 0 rfl ?_
  refine V.iconst (v := 0) dX8_told_1 (by decide) ?_
  refine V.spI 8 0 dX8_told_2 pf_X8_95 sh0_1 rfl rfl ?_
  refine V.sst fun S_1 => ?_
  refine V.aload_n dX8_told_5 0 rfl ?_
  refine V.iload_n dX8_told_6 1 rfl ?_
  refine V.callV (M' := mX8_noSide) (As := [vI x1]) (ψ := (phP S_1)) dX8_told_7 ml_X8_110 mfX8_noSide rfl ⟨by decide, by decide⟩ ⟨by decide, by decide⟩ (enc_at rfl sh0_1) rfl (Nat.le_of_ble_eq_true rfl) rfl (kX8_noSide l G F x1 S_1) (fun a_2 => ?_)
  show V l G mX8_told none phI _ 10 [(0, vR (0, 1)), (1, vI x1), (2, vI x2)] [vI a_2] (enc S_1) 0 0
  refine V.if_eq 15 dX8_told_10 (by decide) ?_ ?_
  · refine V.iload_n dX8_told_15 2 rfl ?_
    refine V.ite (fun h_4 => ?_) (fun h_4 => ?_)
    · refine V.tsI 0 68 dX8_told_16 h_4 (by decide) (by decide) rfl (by decide) ?_
      refine V.aload_n dX8_told_68 0 rfl ?_
      refine V.sgR 8 3 dX8_told_69 gf_X8_7 sh0_1 rfl rfl ?_
      refine V.iload_n dX8_told_72 1 rfl ?_
      refine V.chk fun h_3 => ?_
      refine V.sia dX8_told_73 h_3 ?_
      exact V.iret rfl dX8_told_74 rfl (by decide) (by decide)
    refine V.ite (fun h_6 => ?_) (fun h_6 => ?_)
    · refine V.tsI 1 75 dX8_told_16 h_6 (by decide) (by decide) rfl (by decide) ?_
      refine V.aload_n dX8_told_75 0 rfl ?_
      refine V.sgR 8 4 dX8_told_76 gf_X8_13 sh0_1 rfl rfl ?_
      refine V.iload_n dX8_told_79 1 rfl ?_
      refine V.chk fun h_5 => ?_
      refine V.sia dX8_told_80 h_5 ?_
      exact V.iret rfl dX8_told_81 rfl (by decide) (by decide)
    refine V.ite (fun h_8 => ?_) (fun h_8 => ?_)
    · refine V.tsI 2 82 dX8_told_16 h_8 (by decide) (by decide) rfl (by decide) ?_
      refine V.aload_n dX8_told_82 0 rfl ?_
      refine V.sgR 8 5 dX8_told_83 gf_X8_16 sh0_1 rfl rfl ?_
      refine V.iload_n dX8_told_86 1 rfl ?_
      refine V.chk fun h_7 => ?_
      refine V.sia dX8_told_87 h_7 ?_
      exact V.iret rfl dX8_told_88 rfl (by decide) (by decide)
    refine V.ite (fun h_10 => ?_) (fun h_10 => ?_)
    · refine V.tsI 3 89 dX8_told_16 h_10 (by decide) (by decide) rfl (by decide) ?_
      refine V.aload_n dX8_told_89 0 rfl ?_
      refine V.sgR 8 6 dX8_told_90 gf_X8_19 sh0_1 rfl rfl ?_
      refine V.iload_n dX8_told_93 1 rfl ?_
      refine V.chk fun h_9 => ?_
      refine V.sia dX8_told_94 h_9 ?_
      exact V.iret rfl dX8_told_95 rfl (by decide) (by decide)
    refine V.ite (fun h_12 => ?_) (fun h_12 => ?_)
    · refine V.tsI 4 96 dX8_told_16 h_12 (by decide) (by decide) rfl (by decide) ?_
      refine V.aload_n dX8_told_96 0 rfl ?_
      refine V.sgR 8 7 dX8_told_97 gf_X8_22 sh0_1 rfl rfl ?_
      refine V.iload_n dX8_told_100 1 rfl ?_
      refine V.chk fun h_11 => ?_
      refine V.sia dX8_told_101 h_11 ?_
      exact V.iret rfl dX8_told_102 rfl (by decide) (by decide)
    refine V.ite (fun h_14 => ?_) (fun h_14 => ?_)
    · refine V.tsI 5 103 dX8_told_16 h_14 (by decide) (by decide) rfl (by decide) ?_
      refine V.aload_n dX8_told_103 0 rfl ?_
      refine V.sgR 8 8 dX8_told_104 gf_X8_25 sh0_1 rfl rfl ?_
      refine V.iload_n dX8_told_107 1 rfl ?_
      refine V.chk fun h_13 => ?_
      refine V.sia dX8_told_108 h_13 ?_
      exact V.iret rfl dX8_told_109 rfl (by decide) (by decide)
    refine V.ite (fun h_16 => ?_) (fun h_16 => ?_)
    · refine V.tsI 6 110 dX8_told_16 h_16 (by decide) (by decide) rfl (by decide) ?_
      refine V.aload_n dX8_told_110 0 rfl ?_
      refine V.sgR 8 9 dX8_told_111 gf_X8_28 sh0_1 rfl rfl ?_
      refine V.iload_n dX8_told_114 1 rfl ?_
      refine V.chk fun h_15 => ?_
      refine V.sia dX8_told_115 h_15 ?_
      exact V.iret rfl dX8_told_116 rfl (by decide) (by decide)
    refine V.ite (fun h_18 => ?_) (fun h_18 => ?_)
    · refine V.tsI 7 117 dX8_told_16 h_18 (by decide) (by decide) rfl (by decide) ?_
      refine V.aload_n dX8_told_117 0 rfl ?_
      refine V.sgR 8 10 dX8_told_118 gf_X8_31 sh0_1 rfl rfl ?_
      refine V.iload_n dX8_told_121 1 rfl ?_
      refine V.chk fun h_17 => ?_
      refine V.sia dX8_told_122 h_17 ?_
      exact V.iret rfl dX8_told_123 rfl (by decide) (by decide)
    refine V.ite (fun h_20 => ?_) (fun h_20 => ?_)
    · refine V.tsI 8 124 dX8_told_16 h_20 (by decide) (by decide) rfl (by decide) ?_
      refine V.aload_n dX8_told_124 0 rfl ?_
      refine V.sgR 8 11 dX8_told_125 gf_X8_34 sh0_1 rfl rfl ?_
      refine V.iload_n dX8_told_128 1 rfl ?_
      refine V.chk fun h_19 => ?_
      refine V.sia dX8_told_129 h_19 ?_
      exact V.iret rfl dX8_told_130 rfl (by decide) (by decide)
    have hh : x2.toInt ≠ 0 ∧ x2.toInt ≠ 1 ∧ x2.toInt ≠ 2 ∧ x2.toInt ≠ 3 ∧ x2.toInt ≠ 4 ∧ x2.toInt ≠ 5 ∧ x2.toInt ≠ 6 ∧ x2.toInt ≠ 7 ∧ x2.toInt ≠ 8 := ⟨i32ne h_4, i32ne h_6, i32ne h_8, i32ne h_10, i32ne h_12, i32ne h_14, i32ne h_16, i32ne h_18, i32ne h_20⟩
    refine V.tsO 131 dX8_told_16 (by omega) (by decide) ?_
    refine V.bipush (v := (-2)) dX8_told_131 (by decide) ?_
    exact V.iret rfl dX8_told_133 rfl (by decide) (by decide)
  · refine V.iconst (v := (-1)) dX8_told_13 (by decide) ?_
    exact V.iret rfl dX8_told_14 rfl (by decide) (by decide))

abbrev mX8_atLeastNone : vmt := (yX8_atLeastNone, cX8_atLeastNone, 1, (some .int), { frames := 0, cells := 0, slots := 0, locals := 0 })
theorem mfX8_atLeastNone : mfS mX8_atLeastNone 1 := ⟨sm_X8_atLeastNone, ini_X8, co_X8_atLeastNone, by decide, by decide, by decide +kernel⟩
def fX8_atLeastNone (F : Nat) (x0 : Int32) (S : vs) : Option Int32 := if x0 ≤ 0 then some 0 else some x0
theorem kX8_atLeastNone (l : Launch) (G : vg) (F : Nat) (x0 : Int32) (S : vs) : Rt l G mX8_atLeastNone none (phP S) [vI x0] (enc S) (fX8_atLeastNone F x0 S) := Rt.of rfl (Nat.le_of_ble_eq_true rfl) (by
  show V l G mX8_atLeastNone none (phP S) _ 0 [(0, vI x0)] [] (enc S) 0 0
  unfold fX8_atLeastNone
  refine V.iload_n dX8_atLeastNone_0 0 rfl ?_
  refine V.if_le 8 dX8_atLeastNone_1 (by decide) ?_ ?_
  · refine V.iconst (v := 0) dX8_atLeastNone_8 (by decide) ?_
    exact V.iret rfl dX8_atLeastNone_9 rfl (by decide) (by decide)
  · refine V.iload_n dX8_atLeastNone_4 0 rfl ?_
    refine V.goto 9 dX8_atLeastNone_5 (by decide) ?_
    exact V.iret rfl dX8_atLeastNone_9 rfl (by decide) (by decide))

abbrev mX8_read : vmt := (yX8_read, cX8_read, 3, (some .int), { frames := 2, cells := 0, slots := 0, locals := 46 })
theorem mfX8_read : mfV mX8_read 2 := ⟨im_X8_read, se_X8_read, ini_X8, co_X8_read, by decide, by decide, by decide +kernel⟩
def jX8_read_63 (F : Nat) (x1 : Int32) (S : vs) : Option (Int32 × vs) := gd (inb x1 (alen 0 S.2.2 (0, 30))) (stp (s2 S (0, 30) x1.toNatClampNeg (S.1 (0, 1) 2)) (fun S_5 => gd (inb x1 (alen 0 S_5.2.2 (0, 24))) (some (S_5.1 (0, 24) x1.toNatClampNeg, S_5))))

def fX8_read (F : Nat) (x1 : Int32) (x2 : Int32) (S : vs) : Option (Int32 × vs) := stp (s2 S (0, 1) 0 0) (fun S_1 => (fX8_noSide F x1 S_1).bind (fun a_2 => if a_2 = 0 then gd (inb x1 (alen 0 S_1.2.2 (0, 24))) (if (S_1.1 (0, 24) x1.toNatClampNeg) = 0 then some ((-3), S_1) else if x2 = 0 then jX8_read_63 F x1 S_1 else gd (inb x1 (alen 0 S_1.2.2 (0, 25))) ((fX8_atLeastNone F ((S_1.1 (0, 24) x1.toNatClampNeg) - (S_1.1 (0, 25) x1.toNatClampNeg)) S_1).bind (fun a_8 => stp (s2 S_1 (0, 24) x1.toNatClampNeg a_8) (fun S_9 => gd (inb x1 (alen 0 S_9.2.2 (0, 29))) (stp (s2 S_9 (0, 29) x1.toNatClampNeg ((S_9.1 (0, 29) x1.toNatClampNeg) + 1)) (fun S_11 => jX8_read_63 F x1 S_11)))))) else some ((-1), S_1)))
theorem tjX8_read_63 (l : Launch) (G : vg) (F : Nat) (x1 : Int32) (S : vs) : V l G mX8_read none phI (jX8_read_63 F x1 S) 63 [(0, vR (0, 1)), (1, vI x1)] [] (enc S) 0 0 := by
  unfold jX8_read_63
  refine V.aload_n dX8_read_63 0 rfl ?_
  refine V.sgR 8 10 dX8_read_64 gf_X8_31 sh0_1 rfl rfl ?_
  refine V.iload_n dX8_read_67 1 rfl ?_
  refine V.aload_n dX8_read_68 0 rfl ?_
  refine V.sgI 8 2 dX8_read_69 gf_X8_118 sh0_1 rfl rfl ?_
  refine V.chk fun h_4 => ?_
  refine V.sis dX8_read_72 h_4 ?_
  refine V.sst fun S_5 => ?_
  refine V.aload_n dX8_read_73 0 rfl ?_
  refine V.sgR 8 4 dX8_read_74 gf_X8_13 sh0_1 rfl rfl ?_
  refine V.iload_n dX8_read_77 1 rfl ?_
  refine V.chk fun h_6 => ?_
  refine V.sia dX8_read_78 h_6 ?_
  exact V.iret rfl dX8_read_79 rfl (by decide) (by decide)

theorem kX8_read (l : Launch) (G : vg) (F : Nat) (x1 : Int32) (x2 : Int32) (S : vs) : Rt l G mX8_read none phI [vR (0, 1), vI x1, vI x2] (enc S) (fX8_read F x1 x2 S) := Rt.of rfl (Nat.le_of_ble_eq_true rfl) (by
  show V l G mX8_read none phI _ 0 [(0, vR (0, 1)), (1, vI x1), (2, vI x2)] [] (enc S) 0 0
  unfold fX8_read
  refine V.aload_n dX8_read_0 0 rfl ?_
  refine V.iconst (v := 0) dX8_read_1 (by decide) ?_
  refine V.spI 8 0 dX8_read_2 pf_X8_95 sh0_1 rfl rfl ?_
  refine V.sst fun S_1 => ?_
  refine V.aload_n dX8_read_5 0 rfl ?_
  refine V.iload_n dX8_read_6 1 rfl ?_
  refine V.callV (M' := mX8_noSide) (As := [vI x1]) (ψ := (phP S_1)) dX8_read_7 ml_X8_110 mfX8_noSide rfl ⟨by decide, by decide⟩ ⟨by decide, by decide⟩ (enc_at rfl sh0_1) rfl (Nat.le_of_ble_eq_true rfl) rfl (kX8_noSide l G F x1 S_1) (fun a_2 => ?_)
  show V l G mX8_read none phI _ 10 [(0, vR (0, 1)), (1, vI x1), (2, vI x2)] [vI a_2] (enc S_1) 0 0
  refine V.if_eq 15 dX8_read_10 (by decide) ?_ ?_
  · refine V.aload_n dX8_read_15 0 rfl ?_
    refine V.sgR 8 4 dX8_read_16 gf_X8_13 sh0_1 rfl rfl ?_
    refine V.iload_n dX8_read_19 1 rfl ?_
    refine V.chk fun h_3 => ?_
    refine V.sia dX8_read_20 h_3 ?_
    refine V.if_ne 27 dX8_read_21 (by decide) ?_ ?_
    · refine V.iload_n dX8_read_27 2 rfl ?_
      refine V.if_eq 63 dX8_read_28 (by decide) ?_ ?_
      · exact V.lsub [0, 1] rfl (tjX8_read_63 l G F x1 S_1)
      · refine V.aload_n dX8_read_31 0 rfl ?_
        refine V.sgR 8 4 dX8_read_32 gf_X8_13 sh0_1 rfl rfl ?_
        refine V.iload_n dX8_read_35 1 rfl ?_
        refine V.aload_n dX8_read_36 0 rfl ?_
        refine V.sgR 8 4 dX8_read_37 gf_X8_13 sh0_1 rfl rfl ?_
        refine V.iload_n dX8_read_40 1 rfl ?_
        refine V.sia dX8_read_41 h_3 ?_
        refine V.aload_n dX8_read_42 0 rfl ?_
        refine V.sgR 8 5 dX8_read_43 gf_X8_16 sh0_1 rfl rfl ?_
        refine V.iload_n dX8_read_46 1 rfl ?_
        refine V.chk fun h_7 => ?_
        refine V.sia dX8_read_47 h_7 ?_
        refine V.isub dX8_read_48 ?_
        refine V.callS (M' := mX8_atLeastNone) (As := [vI ((S_1.1 (0, 24) x1.toNatClampNeg) - (S_1.1 (0, 25) x1.toNatClampNeg))]) (ψ := (phP S_1)) dX8_read_49 ml_X8_114 mfX8_atLeastNone rfl ⟨by decide, by decide⟩ ⟨by decide, by decide⟩ (Nat.le_of_ble_eq_true rfl) rfl (kX8_atLeastNone l G F ((S_1.1 (0, 24) x1.toNatClampNeg) - (S_1.1 (0, 25) x1.toNatClampNeg)) S_1) (fun a_8 => ?_)
        show V l G mX8_read none phI _ 52 [(0, vR (0, 1)), (1, vI x1), (2, vI x2)] [vI a_8, vI x1, vR (0, 24)] (enc S_1) 0 0
        refine V.sis dX8_read_52 h_3 ?_
        refine V.sst fun S_9 => ?_
        refine V.aload_n dX8_read_53 0 rfl ?_
        refine V.sgR 8 9 dX8_read_54 gf_X8_28 sh0_1 rfl rfl ?_
        refine V.iload_n dX8_read_57 1 rfl ?_
        refine V.dup2 dX8_read_58 rfl rfl ?_
        refine V.chk fun h_10 => ?_
        refine V.sia dX8_read_59 h_10 ?_
        refine V.iconst (v := 1) dX8_read_60 (by decide) ?_
        refine V.iadd dX8_read_61 ?_
        refine V.sis dX8_read_62 h_10 ?_
        refine V.sst fun S_11 => ?_
        exact V.lsub [0, 1] rfl (tjX8_read_63 l G F x1 S_11)
    · refine V.bipush (v := (-3)) dX8_read_24 (by decide) ?_
      exact V.iret rfl dX8_read_26 rfl (by decide) (by decide)
  · refine V.iconst (v := (-1)) dX8_read_13 (by decide) ?_
    exact V.iret rfl dX8_read_14 rfl (by decide) (by decide))

abbrev mX8_pass : vmt := (yX8_pass, cX8_pass, 3, (some .int), { frames := 1, cells := 0, slots := 0, locals := 25 })
theorem mfX8_pass : mfV mX8_pass 1 := ⟨im_X8_pass, se_X8_pass, ini_X8, co_X8_pass, by decide, by decide, by decide +kernel⟩
def hX8_pass_47 (F : Nat) (x1 : Int32) : Nat → Int32 → vs → Option (Int32 × vs)
  | 0, _, _ => none
  | n + 1, x2, S => if (S.1 (0, 1) 1) ≤ x2 then some (S.1 (0, 1) 2, S) else gd (inb x2 (alen 0 S.2.2 (0, 24))) (gd (inb x2 (alen 0 S.2.2 (0, 26))) ((fX8_atLeastNone F ((S.1 (0, 24) x2.toNatClampNeg) - (x1 * (S.1 (0, 26) x2.toNatClampNeg))) S).bind (fun a_6 => stp (s2 S (0, 24) x2.toNatClampNeg a_6) (fun S_7 => ltt (x2 + 1) (fun x_8 => hX8_pass_47 F x1 n x_8 S_7)))))

def fX8_pass (F : Nat) (x1 : Int32) (S : vs) : Option (Int32 × vs) := stp (s2 S (0, 1) 0 0) (fun S_1 => (fX8_in F x1.toInt64 1 100 S_1).bind (fun a_2 => if a_2 = 0 then some ((-2), S_1) else if ((S_1.1 (0, 1) 2) + x1) ≤ 1000 then stp (s2 S_1 (0, 1) 2 ((S_1.1 (0, 1) 2) + x1)) (fun S_3 => hX8_pass_47 F x1 F 0 S_3) else some ((-4), S_1)))
theorem thX8_pass_47 (l : Launch) (G : vg) (F : Nat) (x1 : Int32) : ∀ (n : Nat) (x2 : Int32) (S : vs), V l G mX8_pass none phI (hX8_pass_47 F x1 n x2 S) 47 [(0, vR (0, 1)), (1, vI x1), (2, vI x2)] [] (enc S) 0 0
  | 0, _, _ => V.nil
  | n + 1, x2, S => by
    have ih := thX8_pass_47 l G F x1 n
    rw [hX8_pass_47]
    refine V.iload_n dX8_pass_47 2 rfl ?_
    refine V.aload_n dX8_pass_48 0 rfl ?_
    refine V.sgI 8 1 dX8_pass_49 gf_X8_99 sh0_1 rfl rfl ?_
    refine V.icmp_ge 85 dX8_pass_52 (by decide) ?_ ?_
    · refine V.aload_n dX8_pass_85 0 rfl ?_
      refine V.sgI 8 2 dX8_pass_86 gf_X8_118 sh0_1 rfl rfl ?_
      exact V.iret rfl dX8_pass_89 rfl (by decide) (by decide)
    · refine V.aload_n dX8_pass_55 0 rfl ?_
      refine V.sgR 8 4 dX8_pass_56 gf_X8_13 sh0_1 rfl rfl ?_
      refine V.iload_n dX8_pass_59 2 rfl ?_
      refine V.aload_n dX8_pass_60 0 rfl ?_
      refine V.sgR 8 4 dX8_pass_61 gf_X8_13 sh0_1 rfl rfl ?_
      refine V.iload_n dX8_pass_64 2 rfl ?_
      refine V.chk fun h_4 => ?_
      refine V.sia dX8_pass_65 h_4 ?_
      refine V.iload_n dX8_pass_66 1 rfl ?_
      refine V.aload_n dX8_pass_67 0 rfl ?_
      refine V.sgR 8 6 dX8_pass_68 gf_X8_19 sh0_1 rfl rfl ?_
      refine V.iload_n dX8_pass_71 2 rfl ?_
      refine V.chk fun h_5 => ?_
      refine V.sia dX8_pass_72 h_5 ?_
      refine V.imul dX8_pass_73 ?_
      refine V.isub dX8_pass_74 ?_
      refine V.callS (M' := mX8_atLeastNone) (As := [vI ((S.1 (0, 24) x2.toNatClampNeg) - (x1 * (S.1 (0, 26) x2.toNatClampNeg)))]) (ψ := (phP S)) dX8_pass_75 ml_X8_114 mfX8_atLeastNone rfl ⟨by decide, by decide⟩ ⟨by decide, by decide⟩ (Nat.le_of_ble_eq_true rfl) rfl (kX8_atLeastNone l G F ((S.1 (0, 24) x2.toNatClampNeg) - (x1 * (S.1 (0, 26) x2.toNatClampNeg))) S) (fun a_6 => ?_)
      show V l G mX8_pass none phI _ 78 [(0, vR (0, 1)), (1, vI x1), (2, vI x2)] [vI a_6, vI x2, vR (0, 24)] (enc S) 0 0
      refine V.sis dX8_pass_78 h_4 ?_
      refine V.sst fun S_7 => ?_
      refine V.lti (e := x2 + 1) (fun x_8 he => ?_)
      refine V.iinc (v := x_8) (L' := [(0, vR (0, 1)), (1, vI x1), (2, vI x_8)]) dX8_pass_79 2 rfl he.symm (by decide) rfl rfl ?_
      refine V.goto 47 dX8_pass_82 (by decide) ?_
      exact (ih x_8 S_7)

theorem kX8_pass (l : Launch) (G : vg) (F : Nat) (x1 : Int32) (S : vs) : Rt l G mX8_pass none phI [vR (0, 1), vI x1] (enc S) (fX8_pass F x1 S) := Rt.of rfl (Nat.le_of_ble_eq_true rfl) (by
  show V l G mX8_pass none phI _ 0 [(0, vR (0, 1)), (1, vI x1)] [] (enc S) 0 0
  unfold fX8_pass
  refine V.aload_n dX8_pass_0 0 rfl ?_
  refine V.iconst (v := 0) dX8_pass_1 (by decide) ?_
  refine V.spI 8 0 dX8_pass_2 pf_X8_95 sh0_1 rfl rfl ?_
  refine V.sst fun S_1 => ?_
  refine V.iload_n dX8_pass_5 1 rfl ?_
  refine V.i2l dX8_pass_6 ?_
  refine V.lconst (v := 1) dX8_pass_7 (by decide) ?_
  refine V.ldc2 (v := 100) dX8_pass_8 ct_X8_108 ?_
  refine V.callS (M' := mX8_in) (As := [vJ x1.toInt64, vJ 1, vJ 100]) (ψ := (phP S_1)) dX8_pass_11 ml_X8_102 mfX8_in rfl ⟨by decide, by decide⟩ ⟨by decide, by decide⟩ (Nat.le_of_ble_eq_true rfl) rfl (kX8_in l G F x1.toInt64 1 100 S_1) (fun a_2 => ?_)
  show V l G mX8_pass none phI _ 14 [(0, vR (0, 1)), (1, vI x1)] [vI a_2] (enc S_1) 0 0
  refine V.if_ne 20 dX8_pass_14 (by decide) ?_ ?_
  · refine V.aload_n dX8_pass_20 0 rfl ?_
    refine V.sgI 8 2 dX8_pass_21 gf_X8_118 sh0_1 rfl rfl ?_
    refine V.iload_n dX8_pass_24 1 rfl ?_
    refine V.iadd dX8_pass_25 ?_
    refine V.sipush (v := 1000) dX8_pass_26 (by decide) ?_
    refine V.icmp_le 35 dX8_pass_29 (by decide) ?_ ?_
    · refine V.aload_n dX8_pass_35 0 rfl ?_
      refine V.dup dX8_pass_36 rfl ?_
      refine V.sgI 8 2 dX8_pass_37 gf_X8_118 sh0_1 rfl rfl ?_
      refine V.iload_n dX8_pass_40 1 rfl ?_
      refine V.iadd dX8_pass_41 ?_
      refine V.spI 8 2 dX8_pass_42 pf_X8_118 sh0_1 rfl rfl ?_
      refine V.sst fun S_3 => ?_
      refine V.iconst (v := 0) dX8_pass_45 (by decide) ?_
      refine V.istore_n (L' := [(0, vR (0, 1)), (1, vI x1), (2, vI 0)]) dX8_pass_46 (by decide) rfl rfl ?_
      exact (thX8_pass_47 l G F x1 F 0 S_3)
    · refine V.bipush (v := (-4)) dX8_pass_32 (by decide) ?_
      exact V.iret rfl dX8_pass_34 rfl (by decide) (by decide)
  · refine V.bipush (v := (-2)) dX8_pass_17 (by decide) ?_
    exact V.iret rfl dX8_pass_19 rfl (by decide) (by decide))

abbrev mX8_gather : vmt := (yX8_gather, cX8_gather, 3, none, { frames := 0, cells := 0, slots := 0, locals := 0 })
theorem mfX8_gather : mfV mX8_gather 1 := ⟨im_X8_gather, se_X8_gather, ini_X8, co_X8_gather, by decide, by decide, by decide +kernel⟩
def jX8_gather_44 (k7 : Int32 → vs → Option vs) (F : Nat) (x1 : Int32) (x2 : Int32) (S : vs) : Option vs := ltt (x2 + 1) (fun x_2 => k7 x_2 S)

def hX8_gather_7 (F : Nat) (x1 : Int32) : Nat → Int32 → vs → Option vs
  | 0, _, _ => none
  | n + 1, x2, S => if (S.1 (0, 1) 1) ≤ x2 then some S else if ((x1 >>> (x2 &&& 31)) &&& 1) = 1 then gd (inb (S.1 (0, 1) 30) (alen 0 S.2.2 (0, 46))) (stp (s2 S (0, 46) (S.1 (0, 1) 30).toNatClampNeg x2) (fun S_4 => stp (s2 S_4 (0, 1) 30 ((S_4.1 (0, 1) 30) + 1)) (fun S_5 => jX8_gather_44 (hX8_gather_7 F x1 n) F x1 x2 S_5))) else jX8_gather_44 (hX8_gather_7 F x1 n) F x1 x2 S

def fX8_gather (F : Nat) (x1 : Int32) (S : vs) : Option vs := stp (s2 S (0, 1) 30 0) (fun S_1 => hX8_gather_7 F x1 F 0 S_1)
theorem tjX8_gather_44 (l : Launch) (G : vg) (F : Nat) (x1 : Int32) (x2 : Int32) (S : vs) (k7 : Int32 → vs → Option vs) (H7 : ∀ (z2 : Int32), ∀ (Sz : vs), V l G mX8_gather none phV (k7 z2 Sz) 7 [(0, vR (0, 1)), (1, vI x1), (2, vI z2)] [] (enc Sz) 0 0) : V l G mX8_gather none phV (jX8_gather_44 k7 F x1 x2 S) 44 [(0, vR (0, 1)), (1, vI x1), (2, vI x2)] [] (enc S) 0 0 := by
  unfold jX8_gather_44
  refine V.lti (e := x2 + 1) (fun x_2 he => ?_)
  refine V.iinc (v := x_2) (L' := [(0, vR (0, 1)), (1, vI x1), (2, vI x_2)]) dX8_gather_44 2 rfl he.symm (by decide) rfl rfl ?_
  refine V.goto 7 dX8_gather_47 (by decide) ?_
  exact (H7 x_2 S)

theorem thX8_gather_7 (l : Launch) (G : vg) (F : Nat) (x1 : Int32) : ∀ (n : Nat) (x2 : Int32) (S : vs), V l G mX8_gather none phV (hX8_gather_7 F x1 n x2 S) 7 [(0, vR (0, 1)), (1, vI x1), (2, vI x2)] [] (enc S) 0 0
  | 0, _, _ => V.nil
  | n + 1, x2, S => by
    have ih := thX8_gather_7 l G F x1 n
    rw [hX8_gather_7]
    refine V.iload_n dX8_gather_7 2 rfl ?_
    refine V.aload_n dX8_gather_8 0 rfl ?_
    refine V.sgI 8 1 dX8_gather_9 gf_X8_99 sh0_1 rfl rfl ?_
    refine V.icmp_ge 50 dX8_gather_12 (by decide) ?_ ?_
    · exact V.vret rfl dX8_gather_50 rfl (by decide) (by decide)
    · refine V.iload_n dX8_gather_15 1 rfl ?_
      refine V.iload_n dX8_gather_16 2 rfl ?_
      refine V.ishr dX8_gather_17 ?_
      refine V.iconst (v := 1) dX8_gather_18 (by decide) ?_
      refine V.iand dX8_gather_19 ?_
      refine V.iconst (v := 1) dX8_gather_20 (by decide) ?_
      refine V.icmp_ne 44 dX8_gather_21 (by decide) ?_ ?_
      · exact (tjX8_gather_44 l G F x1 x2 S (hX8_gather_7 F x1 n) ih)
      · refine V.aload_n dX8_gather_24 0 rfl ?_
        refine V.sgR 8 31 dX8_gather_25 gf_X8_80 sh0_1 rfl rfl ?_
        refine V.aload_n dX8_gather_28 0 rfl ?_
        refine V.sgI 8 30 dX8_gather_29 gf_X8_121 sh0_1 rfl rfl ?_
        refine V.iload_n dX8_gather_32 2 rfl ?_
        refine V.chk fun h_3 => ?_
        refine V.sis dX8_gather_33 h_3 ?_
        refine V.sst fun S_4 => ?_
        refine V.aload_n dX8_gather_34 0 rfl ?_
        refine V.dup dX8_gather_35 rfl ?_
        refine V.sgI 8 30 dX8_gather_36 gf_X8_121 sh0_1 rfl rfl ?_
        refine V.iconst (v := 1) dX8_gather_39 (by decide) ?_
        refine V.iadd dX8_gather_40 ?_
        refine V.spI 8 30 dX8_gather_41 pf_X8_121 sh0_1 rfl rfl ?_
        refine V.sst fun S_5 => ?_
        exact (tjX8_gather_44 l G F x1 x2 S_5 (hX8_gather_7 F x1 n) ih)

theorem kX8_gather (l : Launch) (G : vg) (F : Nat) (x1 : Int32) (S : vs) : Rt l G mX8_gather none phV [vR (0, 1), vI x1] (enc S) (fX8_gather F x1 S) := Rt.of rfl (Nat.le_of_ble_eq_true rfl) (by
  show V l G mX8_gather none phV _ 0 [(0, vR (0, 1)), (1, vI x1)] [] (enc S) 0 0
  unfold fX8_gather
  refine V.aload_n dX8_gather_0 0 rfl ?_
  refine V.iconst (v := 0) dX8_gather_1 (by decide) ?_
  refine V.spI 8 30 dX8_gather_2 pf_X8_121 sh0_1 rfl rfl ?_
  refine V.sst fun S_1 => ?_
  refine V.iconst (v := 0) dX8_gather_5 (by decide) ?_
  refine V.istore_n (L' := [(0, vR (0, 1)), (1, vI x1), (2, vI 0)]) dX8_gather_6 (by decide) rfl rfl ?_
  exact (thX8_gather_7 l G F x1 F 0 S_1))

