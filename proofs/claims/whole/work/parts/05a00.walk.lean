abbrev mJ7_fill_53178 : vmt := (yJ7_fill_53178, cJ7_fill_53178, 4, none, { frames := 0, cells := 0, slots := 0, locals := 0 })
theorem mfJ7_fill_53178 : mfS mJ7_fill_53178 2 := ⟨sm_J7_fill_53178, ini_J7, co_J7_fill_53178, by decide, by decide, by decide +kernel⟩
def hJ7_fill_53178_5 (F : Nat) (a0 : vk) (x1 : Int32) (x3 : Int32) : Nat → Int32 → vs → Option vs
  | 0, _, _ => none
  | n + 1, x2, S => if x3 ≤ x2 then some S else gd (inb x2 (alen 0 S.2.2 a0)) (stp (s2 S a0 x2.toNatClampNeg x1) (fun S_4 => ltt (x2 + 1) (fun x_5 => hJ7_fill_53178_5 F a0 x1 x3 n x_5 S_4)))

def fJ7_fill_53178 (F : Nat) (a0 : vk) (x1 : Int32) (S : vs) : Option vs := gd (decide (0 < alen 0 S.2.2 a0)) (ltt (nI (alen 0 S.2.2 a0)) (fun x_2 => hJ7_fill_53178_5 F a0 x1 x_2 F 0 S))
theorem thJ7_fill_53178_5 (l : Launch) (G : vg) (F : Nat) (a0 : vk) (x1 : Int32) (x3 : Int32) : ∀ (n : Nat) (x2 : Int32) (S : vs), V l G mJ7_fill_53178 none phV (hJ7_fill_53178_5 F a0 x1 x3 n x2 S) 5 [(0, vR a0), (1, vI x1), (2, vI x2), (3, vI x3)] [] (enc S) 0 0
  | 0, _, _ => V.nil
  | n + 1, x2, S => by
    have ih := thJ7_fill_53178_5 l G F a0 x1 x3 n
    rw [hJ7_fill_53178_5]
    refine V.iload_n dJ7_fill_53178_5 2 rfl ?_
    refine V.iload_n dJ7_fill_53178_6 3 rfl ?_
    refine V.icmp_ge 20 dJ7_fill_53178_7 (by decide) ?_ ?_
    · exact V.vret rfl dJ7_fill_53178_20 rfl (by decide) (by decide)
    · refine V.aload_n dJ7_fill_53178_10 0 rfl ?_
      refine V.iload_n dJ7_fill_53178_11 2 rfl ?_
      refine V.iload_n dJ7_fill_53178_12 1 rfl ?_
      refine V.chk fun h_3 => ?_
      refine V.sis dJ7_fill_53178_13 h_3 ?_
      refine V.sst fun S_4 => ?_
      refine V.lti (e := x2 + 1) (fun x_5 he => ?_)
      refine V.iinc (v := x_5) (L' := [(0, vR a0), (1, vI x1), (2, vI x_5), (3, vI x3)]) dJ7_fill_53178_14 2 rfl he.symm (by decide) rfl rfl ?_
      refine V.goto 5 dJ7_fill_53178_17 (by decide) ?_
      exact (ih x_5 S_4)

theorem kJ7_fill_53178 (l : Launch) (G : vg) (F : Nat) (a0 : vk) (x1 : Int32) (S : vs) : Rt l G mJ7_fill_53178 none phV [vR a0, vI x1] (enc S) (fJ7_fill_53178 F a0 x1 S) := Rt.of rfl (Nat.le_of_ble_eq_true rfl) (by
  show V l G mJ7_fill_53178 none phV _ 0 [(0, vR a0), (1, vI x1)] [] (enc S) 0 0
  unfold fJ7_fill_53178
  refine V.iconst (v := 0) dJ7_fill_53178_0 (by decide) ?_
  refine V.istore_n (L' := [(0, vR a0), (1, vI x1), (2, vI 0)]) dJ7_fill_53178_1 (by decide) rfl rfl ?_
  refine V.aload_n dJ7_fill_53178_2 0 rfl ?_
  refine V.chk fun h_1 => ?_
  refine V.salen dJ7_fill_53178_3 h_1 ?_
  refine V.lett fun x_2 => ?_
  refine V.istore_n (L' := [(0, vR a0), (1, vI x1), (2, vI 0), (3, vI x_2)]) dJ7_fill_53178_4 (by decide) rfl rfl ?_
  exact (thJ7_fill_53178_5 l G F a0 x1 x_2 F 0 S))

abbrev mJ6_bitCount_0f7a4 : vmt := (yJ6_bitCount_0f7a4, cJ6_bitCount_0f7a4, 1, (some .int), { frames := 0, cells := 0, slots := 0, locals := 0 })
theorem mfJ6_bitCount_0f7a4 : mfS mJ6_bitCount_0f7a4 1 := ⟨sm_J6_bitCount_0f7a4, ini_J6, co_J6_bitCount_0f7a4, by decide, by decide, by decide +kernel⟩
def fJ6_bitCount_0f7a4 (F : Nat) (x0 : Int32) (S : vs) : Option Int32 := ltt (x0 - (((x0.toUInt32 >>> (Int32.toUInt32 1 &&& Int32.toUInt32 31)).toInt32) &&& 1431655765)) (fun x_1 => ltt ((x_1 &&& 858993459) + (((x_1.toUInt32 >>> (Int32.toUInt32 2 &&& Int32.toUInt32 31)).toInt32) &&& 858993459)) (fun x_2 => ltt ((x_2 + ((x_2.toUInt32 >>> (Int32.toUInt32 4 &&& Int32.toUInt32 31)).toInt32)) &&& 252645135) (fun x_3 => ltt (x_3 + ((x_3.toUInt32 >>> (Int32.toUInt32 8 &&& Int32.toUInt32 31)).toInt32)) (fun x_4 => ltt (x_4 + ((x_4.toUInt32 >>> (Int32.toUInt32 16 &&& Int32.toUInt32 31)).toInt32)) (fun x_5 => some (x_5 &&& 63))))))
theorem kJ6_bitCount_0f7a4 (l : Launch) (G : vg) (F : Nat) (x0 : Int32) (S : vs) : Rt l G mJ6_bitCount_0f7a4 none (phP S) [vI x0] (enc S) (fJ6_bitCount_0f7a4 F x0 S) := Rt.of rfl (Nat.le_of_ble_eq_true rfl) (by
  show V l G mJ6_bitCount_0f7a4 none (phP S) _ 0 [(0, vI x0)] [] (enc S) 0 0
  unfold fJ6_bitCount_0f7a4
  refine V.iload_n dJ6_bitCount_0f7a4_0 0 rfl ?_
  refine V.iload_n dJ6_bitCount_0f7a4_1 0 rfl ?_
  refine V.iconst (v := 1) dJ6_bitCount_0f7a4_2 (by decide) ?_
  refine V.iushr dJ6_bitCount_0f7a4_3 ?_
  refine V.ldcw (v := 1431655765) dJ6_bitCount_0f7a4_4 ct_J6_265 ?_
  refine V.iand dJ6_bitCount_0f7a4_7 ?_
  refine V.isub dJ6_bitCount_0f7a4_8 ?_
  refine V.lett fun x_1 => ?_
  refine V.istore_n (L' := [(0, vI x_1)]) dJ6_bitCount_0f7a4_9 (by decide) rfl rfl ?_
  refine V.iload_n dJ6_bitCount_0f7a4_10 0 rfl ?_
  refine V.ldcw (v := 858993459) dJ6_bitCount_0f7a4_11 ct_J6_266 ?_
  refine V.iand dJ6_bitCount_0f7a4_14 ?_
  refine V.iload_n dJ6_bitCount_0f7a4_15 0 rfl ?_
  refine V.iconst (v := 2) dJ6_bitCount_0f7a4_16 (by decide) ?_
  refine V.iushr dJ6_bitCount_0f7a4_17 ?_
  refine V.ldcw (v := 858993459) dJ6_bitCount_0f7a4_18 ct_J6_266 ?_
  refine V.iand dJ6_bitCount_0f7a4_21 ?_
  refine V.iadd dJ6_bitCount_0f7a4_22 ?_
  refine V.lett fun x_2 => ?_
  refine V.istore_n (L' := [(0, vI x_2)]) dJ6_bitCount_0f7a4_23 (by decide) rfl rfl ?_
  refine V.iload_n dJ6_bitCount_0f7a4_24 0 rfl ?_
  refine V.iload_n dJ6_bitCount_0f7a4_25 0 rfl ?_
  refine V.iconst (v := 4) dJ6_bitCount_0f7a4_26 (by decide) ?_
  refine V.iushr dJ6_bitCount_0f7a4_27 ?_
  refine V.iadd dJ6_bitCount_0f7a4_28 ?_
  refine V.ldcw (v := 252645135) dJ6_bitCount_0f7a4_29 ct_J6_267 ?_
  refine V.iand dJ6_bitCount_0f7a4_32 ?_
  refine V.lett fun x_3 => ?_
  refine V.istore_n (L' := [(0, vI x_3)]) dJ6_bitCount_0f7a4_33 (by decide) rfl rfl ?_
  refine V.iload_n dJ6_bitCount_0f7a4_34 0 rfl ?_
  refine V.iload_n dJ6_bitCount_0f7a4_35 0 rfl ?_
  refine V.bipush (v := 8) dJ6_bitCount_0f7a4_36 (by decide) ?_
  refine V.iushr dJ6_bitCount_0f7a4_38 ?_
  refine V.iadd dJ6_bitCount_0f7a4_39 ?_
  refine V.lett fun x_4 => ?_
  refine V.istore_n (L' := [(0, vI x_4)]) dJ6_bitCount_0f7a4_40 (by decide) rfl rfl ?_
  refine V.iload_n dJ6_bitCount_0f7a4_41 0 rfl ?_
  refine V.iload_n dJ6_bitCount_0f7a4_42 0 rfl ?_
  refine V.bipush (v := 16) dJ6_bitCount_0f7a4_43 (by decide) ?_
  refine V.iushr dJ6_bitCount_0f7a4_45 ?_
  refine V.iadd dJ6_bitCount_0f7a4_46 ?_
  refine V.lett fun x_5 => ?_
  refine V.istore_n (L' := [(0, vI x_5)]) dJ6_bitCount_0f7a4_47 (by decide) rfl rfl ?_
  refine V.iload_n dJ6_bitCount_0f7a4_48 0 rfl ?_
  refine V.bipush (v := 63) dJ6_bitCount_0f7a4_49 (by decide) ?_
  refine V.iand dJ6_bitCount_0f7a4_51 ?_
  exact V.iret rfl dJ6_bitCount_0f7a4_52 rfl (by decide) (by decide))

