abbrev mX8_needed : vmt := (yX8_needed, cX8_needed, 6, (some .int), { frames := 2, cells := 0, slots := 0, locals := 47 })
theorem mfX8_needed : mfV mX8_needed 3 := ⟨im_X8_needed, se_X8_needed, ini_X8, co_X8_needed, by decide, by decide, by decide +kernel⟩
def jX8_needed_108 (k51 : Int32 → Int32 → vs → Option (Int32 × vs)) (F : Nat) (x2 : Int32) (x3 : Int32) (x4 : Int32) (x5 : Int32) (S : vs) : Option (Int32 × vs) := ltt (x5 + 1) (fun x_8 => k51 x4 x_8 S)

def jX8_needed_102 (k51 : Int32 → Int32 → vs → Option (Int32 × vs)) (F : Nat) (x2 : Int32) (x3 : Int32) (x5 : Int32) (S : vs) : Option (Int32 × vs) := (fX8_most F S).bind (fun a_10 => jX8_needed_108 k51 F x2 x3 a_10 x5 S)

def hX8_needed_51 (F : Nat) (x2 : Int32) (x3 : Int32) : Nat → Int32 → Int32 → vs → Option (Int32 × vs)
  | 0, _, _, _ => none
  | n + 1, x4, x5, S => (fX8_codes F x2 S).bind (fun a_6 => if a_6 ≤ x5 then some (x4, S) else (fX8_weigh F x5 x2 S).bind (fun a_7 => if (a_7.1 (0, 1) 33) < x3 then jX8_needed_108 (hX8_needed_51 F x2 x3 n) F x2 x3 x4 x5 a_7 else (fX8_most F a_7).bind (fun a_9 => if 3000 < a_9 then jX8_needed_108 (hX8_needed_51 F x2 x3 n) F x2 x3 x4 x5 a_7 else if x4 = (-9) then jX8_needed_102 (hX8_needed_51 F x2 x3 n) F x2 x3 x5 a_7 else (fX8_most F a_7).bind (fun a_11 => if x4 ≤ a_11 then jX8_needed_108 (hX8_needed_51 F x2 x3 n) F x2 x3 x4 x5 a_7 else jX8_needed_102 (hX8_needed_51 F x2 x3 n) F x2 x3 x5 a_7))))

def fX8_needed (F : Nat) (x1 : Int32) (x2 : Int32) (x3 : Int32) (S : vs) : Option (Int32 × vs) := stp (s2 S (0, 1) 0 0) (fun S_1 => (fX8_noSet F x1 S_1).bind (fun a_2 => if a_2 = 0 then (fX8_badPlan F x1 x2 0 S_1).bind (fun a_3 => if a_3 = 0 then (fX8_in F x3.toInt64 0 600000 S_1).bind (fun a_4 => if a_4 = 0 then some ((-2), S_1) else (fX8_gather F x1 S_1).bind (fun a_5 => hX8_needed_51 F x2 x3 F (-9) 0 a_5)) else some ((-2), S_1)) else some ((-1), S_1)))
theorem tjX8_needed_108 (l : Launch) (G : vg) (F : Nat) (x2 : Int32) (x3 : Int32) (x4 : Int32) (x5 : Int32) (S : vs) (k51 : Int32 → Int32 → vs → Option (Int32 × vs)) (H51 : ∀ (z4 : Int32), ∀ (z5 : Int32), ∀ (Sz : vs), V l G mX8_needed none phI (k51 z4 z5 Sz) 51 [(0, vR (0, 1)), (2, vI x2), (3, vI x3), (4, vI z4), (5, vI z5)] [] (enc Sz) 0 0) : V l G mX8_needed none phI (jX8_needed_108 k51 F x2 x3 x4 x5 S) 108 [(0, vR (0, 1)), (2, vI x2), (3, vI x3), (4, vI x4), (5, vI x5)] [] (enc S) 0 0 := by
  unfold jX8_needed_108
  refine V.lti (e := x5 + 1) (fun x_8 he => ?_)
  refine V.iinc (v := x_8) (L' := [(0, vR (0, 1)), (2, vI x2), (3, vI x3), (4, vI x4), (5, vI x_8)]) dX8_needed_108 4 rfl he.symm (by decide) rfl rfl ?_
  refine V.goto 51 dX8_needed_111 (by decide) ?_
  exact (H51 x4 x_8 S)

theorem tjX8_needed_102 (l : Launch) (G : vg) (F : Nat) (x2 : Int32) (x3 : Int32) (x5 : Int32) (S : vs) (k51 : Int32 → Int32 → vs → Option (Int32 × vs)) (H51 : ∀ (z4 : Int32), ∀ (z5 : Int32), ∀ (Sz : vs), V l G mX8_needed none phI (k51 z4 z5 Sz) 51 [(0, vR (0, 1)), (2, vI x2), (3, vI x3), (4, vI z4), (5, vI z5)] [] (enc Sz) 0 0) : V l G mX8_needed none phI (jX8_needed_102 k51 F x2 x3 x5 S) 102 [(0, vR (0, 1)), (2, vI x2), (3, vI x3), (5, vI x5)] [] (enc S) 0 0 := by
  unfold jX8_needed_102
  refine V.aload_n dX8_needed_102 0 rfl ?_
  refine V.callV (M' := mX8_most) (As := []) (ψ := (phP S)) dX8_needed_103 ml_X8_138 mfX8_most rfl ⟨by decide, by decide⟩ ⟨by decide, by decide⟩ (enc_at rfl sh0_1) rfl (Nat.le_of_ble_eq_true rfl) rfl (kX8_most l G F S) (fun a_10 => ?_)
  show V l G mX8_needed none phI _ 106 [(0, vR (0, 1)), (2, vI x2), (3, vI x3), (5, vI x5)] [vI a_10] (enc S) 0 0
  refine V.istore (L' := [(0, vR (0, 1)), (2, vI x2), (3, vI x3), (5, vI x5), (4, vI a_10)]) dX8_needed_106 (by decide) rfl rfl ?_
  exact V.lsub [0, 1, 2, 4, 3] rfl (tjX8_needed_108 l G F x2 x3 a_10 x5 S k51 H51)

theorem thX8_needed_51 (l : Launch) (G : vg) (F : Nat) (x2 : Int32) (x3 : Int32) : ∀ (n : Nat) (x4 : Int32) (x5 : Int32) (S : vs), V l G mX8_needed none phI (hX8_needed_51 F x2 x3 n x4 x5 S) 51 [(0, vR (0, 1)), (2, vI x2), (3, vI x3), (4, vI x4), (5, vI x5)] [] (enc S) 0 0
  | 0, _, _, _ => V.nil
  | n + 1, x4, x5, S => by
    have ih := thX8_needed_51 l G F x2 x3 n
    rw [hX8_needed_51]
    refine V.iload dX8_needed_51 4 rfl ?_
    refine V.aload_n dX8_needed_53 0 rfl ?_
    refine V.iload_n dX8_needed_54 1 rfl ?_
    refine V.callV (M' := mX8_codes) (As := [vI x2]) (ψ := (phP S)) dX8_needed_55 ml_X8_131 mfX8_codes rfl ⟨by decide, by decide⟩ ⟨by decide, by decide⟩ (enc_at rfl sh0_1) rfl (Nat.le_of_ble_eq_true rfl) rfl (kX8_codes l G F x2 S) (fun a_6 => ?_)
    show V l G mX8_needed none phI _ 58 [(0, vR (0, 1)), (2, vI x2), (3, vI x3), (4, vI x4), (5, vI x5)] [vI a_6, vI x5] (enc S) 0 0
    refine V.icmp_ge 114 dX8_needed_58 (by decide) ?_ ?_
    · refine V.iload dX8_needed_114 3 rfl ?_
      exact V.iret rfl dX8_needed_116 rfl (by decide) (by decide)
    · refine V.aload_n dX8_needed_61 0 rfl ?_
      refine V.iload dX8_needed_62 4 rfl ?_
      refine V.iload_n dX8_needed_64 1 rfl ?_
      refine V.callV (M' := mX8_weigh) (As := [vI x5, vI x2]) (ψ := phV) dX8_needed_65 ml_X8_134 mfX8_weigh rfl ⟨by decide, by decide⟩ ⟨by decide, by decide⟩ (enc_at rfl sh0_1) rfl (Nat.le_of_ble_eq_true rfl) rfl (kX8_weigh l G F x5 x2 S) (fun a_7 => ?_)
      show V l G mX8_needed none phI _ 68 [(0, vR (0, 1)), (2, vI x2), (3, vI x3), (4, vI x4), (5, vI x5)] [] (enc a_7) 0 0
      refine V.aload_n dX8_needed_68 0 rfl ?_
      refine V.sgI 8 33 dX8_needed_69 gf_X8_124 sh0_1 rfl rfl ?_
      refine V.iload_n dX8_needed_72 2 rfl ?_
      refine V.icmp_lt 108 dX8_needed_73 (by decide) ?_ ?_
      · exact (tjX8_needed_108 l G F x2 x3 x4 x5 a_7 (hX8_needed_51 F x2 x3 n) ih)
      · refine V.aload_n dX8_needed_76 0 rfl ?_
        refine V.callV (M' := mX8_most) (As := []) (ψ := (phP a_7)) dX8_needed_77 ml_X8_138 mfX8_most rfl ⟨by decide, by decide⟩ ⟨by decide, by decide⟩ (enc_at rfl sh0_1) rfl (Nat.le_of_ble_eq_true rfl) rfl (kX8_most l G F a_7) (fun a_9 => ?_)
        show V l G mX8_needed none phI _ 80 [(0, vR (0, 1)), (2, vI x2), (3, vI x3), (4, vI x4), (5, vI x5)] [vI a_9] (enc a_7) 0 0
        refine V.sipush (v := 3000) dX8_needed_80 (by decide) ?_
        refine V.icmp_gt 108 dX8_needed_83 (by decide) ?_ ?_
        · exact (tjX8_needed_108 l G F x2 x3 x4 x5 a_7 (hX8_needed_51 F x2 x3 n) ih)
        · refine V.iload dX8_needed_86 3 rfl ?_
          refine V.bipush (v := (-9)) dX8_needed_88 (by decide) ?_
          refine V.icmp_eq 102 dX8_needed_90 (by decide) ?_ ?_
          · exact V.lsub [0, 1, 2, 4] rfl (tjX8_needed_102 l G F x2 x3 x5 a_7 (hX8_needed_51 F x2 x3 n) ih)
          · refine V.aload_n dX8_needed_93 0 rfl ?_
            refine V.callV (M' := mX8_most) (As := []) (ψ := (phP a_7)) dX8_needed_94 ml_X8_138 mfX8_most rfl ⟨by decide, by decide⟩ ⟨by decide, by decide⟩ (enc_at rfl sh0_1) rfl (Nat.le_of_ble_eq_true rfl) rfl (kX8_most l G F a_7) (fun a_11 => ?_)
            show V l G mX8_needed none phI _ 97 [(0, vR (0, 1)), (2, vI x2), (3, vI x3), (4, vI x4), (5, vI x5)] [vI a_11] (enc a_7) 0 0
            refine V.iload dX8_needed_97 3 rfl ?_
            refine V.icmp_ge 108 dX8_needed_99 (by decide) ?_ ?_
            · exact (tjX8_needed_108 l G F x2 x3 x4 x5 a_7 (hX8_needed_51 F x2 x3 n) ih)
            · exact V.lsub [0, 1, 2, 4] rfl (tjX8_needed_102 l G F x2 x3 x5 a_7 (hX8_needed_51 F x2 x3 n) ih)

theorem kX8_needed (l : Launch) (G : vg) (F : Nat) (x1 : Int32) (x2 : Int32) (x3 : Int32) (S : vs) : Rt l G mX8_needed none phI [vR (0, 1), vI x1, vI x2, vI x3] (enc S) (fX8_needed F x1 x2 x3 S) := Rt.of rfl (Nat.le_of_ble_eq_true rfl) (by
  show V l G mX8_needed none phI _ 0 [(0, vR (0, 1)), (1, vI x1), (2, vI x2), (3, vI x3)] [] (enc S) 0 0
  unfold fX8_needed
  refine V.aload_n dX8_needed_0 0 rfl ?_
  refine V.iconst (v := 0) dX8_needed_1 (by decide) ?_
  refine V.spI 8 0 dX8_needed_2 pf_X8_95 sh0_1 rfl rfl ?_
  refine V.sst fun S_1 => ?_
  refine V.aload_n dX8_needed_5 0 rfl ?_
  refine V.iload_n dX8_needed_6 1 rfl ?_
  refine V.callV (M' := mX8_noSet) (As := [vI x1]) (ψ := (phP S_1)) dX8_needed_7 ml_X8_149 mfX8_noSet rfl ⟨by decide, by decide⟩ ⟨by decide, by decide⟩ (enc_at rfl sh0_1) rfl (Nat.le_of_ble_eq_true rfl) rfl (kX8_noSet l G F x1 S_1) (fun a_2 => ?_)
  show V l G mX8_needed none phI _ 10 [(0, vR (0, 1)), (1, vI x1), (2, vI x2), (3, vI x3)] [vI a_2] (enc S_1) 0 0
  refine V.if_eq 15 dX8_needed_10 (by decide) ?_ ?_
  · refine V.iload_n dX8_needed_15 1 rfl ?_
    refine V.iload_n dX8_needed_16 2 rfl ?_
    refine V.iconst (v := 0) dX8_needed_17 (by decide) ?_
    refine V.callS (M' := mX8_badPlan) (As := [vI x1, vI x2, vI 0]) (ψ := (phP S_1)) dX8_needed_18 ml_X8_152 mfX8_badPlan rfl ⟨by decide, by decide⟩ ⟨by decide, by decide⟩ (Nat.le_of_ble_eq_true rfl) rfl (kX8_badPlan l G F x1 x2 0 S_1) (fun a_3 => ?_)
    show V l G mX8_needed none phI _ 21 [(0, vR (0, 1)), (1, vI x1), (2, vI x2), (3, vI x3)] [vI a_3] (enc S_1) 0 0
    refine V.if_ne 36 dX8_needed_21 (by decide) ?_ ?_
    · refine V.bipush (v := (-2)) dX8_needed_36 (by decide) ?_
      exact V.iret rfl dX8_needed_38 rfl (by decide) (by decide)
    · refine V.iload_n dX8_needed_24 3 rfl ?_
      refine V.i2l dX8_needed_25 ?_
      refine V.lconst (v := 0) dX8_needed_26 (by decide) ?_
      refine V.ldc2 (v := 600000) dX8_needed_27 ct_X8_160 ?_
      refine V.callS (M' := mX8_in) (As := [vJ x3.toInt64, vJ 0, vJ 600000]) (ψ := (phP S_1)) dX8_needed_30 ml_X8_102 mfX8_in rfl ⟨by decide, by decide⟩ ⟨by decide, by decide⟩ (Nat.le_of_ble_eq_true rfl) rfl (kX8_in l G F x3.toInt64 0 600000 S_1) (fun a_4 => ?_)
      show V l G mX8_needed none phI _ 33 [(0, vR (0, 1)), (1, vI x1), (2, vI x2), (3, vI x3)] [vI a_4] (enc S_1) 0 0
      refine V.if_ne 39 dX8_needed_33 (by decide) ?_ ?_
      · refine V.aload_n dX8_needed_39 0 rfl ?_
        refine V.iload_n dX8_needed_40 1 rfl ?_
        refine V.callV (M' := mX8_gather) (As := [vI x1]) (ψ := phV) dX8_needed_41 ml_X8_127 mfX8_gather rfl ⟨by decide, by decide⟩ ⟨by decide, by decide⟩ (enc_at rfl sh0_1) rfl (Nat.le_of_ble_eq_true rfl) rfl (kX8_gather l G F x1 S_1) (fun a_5 => ?_)
        show V l G mX8_needed none phI _ 44 [(0, vR (0, 1)), (1, vI x1), (2, vI x2), (3, vI x3)] [] (enc a_5) 0 0
        refine V.bipush (v := (-9)) dX8_needed_44 (by decide) ?_
        refine V.istore (L' := [(0, vR (0, 1)), (1, vI x1), (2, vI x2), (3, vI x3), (4, vI (-9))]) dX8_needed_46 (by decide) rfl rfl ?_
        refine V.iconst (v := 0) dX8_needed_48 (by decide) ?_
        refine V.istore (L' := [(0, vR (0, 1)), (1, vI x1), (2, vI x2), (3, vI x3), (4, vI (-9)), (5, vI 0)]) dX8_needed_49 (by decide) rfl rfl ?_
        exact V.lsub [0, 2, 3, 4, 5] rfl (thX8_needed_51 l G F x2 x3 F (-9) 0 a_5)
      · refine V.bipush (v := (-2)) dX8_needed_36 (by decide) ?_
        exact V.iret rfl dX8_needed_38 rfl (by decide) (by decide)
  · refine V.iconst (v := (-1)) dX8_needed_13 (by decide) ?_
    exact V.iret rfl dX8_needed_14 rfl (by decide) (by decide))

abbrev mX8_sign : vmt := (yX8_sign, cX8_sign, 5, (some .int), { frames := 2, cells := 0, slots := 0, locals := 46 })
theorem mfX8_sign : mfV mX8_sign 4 := ⟨im_X8_sign, se_X8_sign, ini_X8, co_X8_sign, by decide, by decide, by decide +kernel⟩
def fX8_sign (F : Nat) (x1 : Int32) (x2 : Int32) (x3 : Int32) (x4 : Int32) (S : vs) : Option (Int32 × vs) := stp (s2 S (0, 1) 0 0) (fun S_1 => (fX8_noSide F x1 S_1).bind (fun a_2 => if a_2 = 0 then (fX8_in F x2.toInt64 1 x3.toInt64 S_1).bind (fun a_3 => if a_3 = 0 then some ((-2), S_1) else if 30000 < x3 then some ((-2), S_1) else (fX8_in F x4.toInt64 1 9 S_1).bind (fun a_4 => if a_4 = 0 then some ((-2), S_1) else if (S_1.1 (0, 1) 14) = 60 then some ((-4), S_1) else gd (inb (S_1.1 (0, 1) 14) (alen 0 S_1.2.2 (0, 34))) (stp (s2 S_1 (0, 34) (S_1.1 (0, 1) 14).toNatClampNeg x1) (fun S_6 => gd (inb (S_6.1 (0, 1) 14) (alen 0 S_6.2.2 (0, 35))) (stp (s2 S_6 (0, 35) (S_6.1 (0, 1) 14).toNatClampNeg x2) (fun S_8 => gd (inb (S_8.1 (0, 1) 14) (alen 0 S_8.2.2 (0, 36))) (stp (s2 S_8 (0, 36) (S_8.1 (0, 1) 14).toNatClampNeg x3) (fun S_10 => gd (inb (S_10.1 (0, 1) 14) (alen 0 S_10.2.2 (0, 37))) (stp (s2 S_10 (0, 37) (S_10.1 (0, 1) 14).toNatClampNeg x4) (fun S_12 => stp (s2 S_12 (0, 1) 14 ((S_12.1 (0, 1) 14) + 1)) (fun S_13 => some ((S_13.1 (0, 1) 14) - 1, S_13)))))))))))) else some ((-1), S_1)))
theorem kX8_sign (l : Launch) (G : vg) (F : Nat) (x1 : Int32) (x2 : Int32) (x3 : Int32) (x4 : Int32) (S : vs) : Rt l G mX8_sign none phI [vR (0, 1), vI x1, vI x2, vI x3, vI x4] (enc S) (fX8_sign F x1 x2 x3 x4 S) := Rt.of rfl (Nat.le_of_ble_eq_true rfl) (by
  show V l G mX8_sign none phI _ 0 [(0, vR (0, 1)), (1, vI x1), (2, vI x2), (3, vI x3), (4, vI x4)] [] (enc S) 0 0
  unfold fX8_sign
  refine V.aload_n dX8_sign_0 0 rfl ?_
  refine V.iconst (v := 0) dX8_sign_1 (by decide) ?_
  refine V.spI 8 0 dX8_sign_2 pf_X8_95 sh0_1 rfl rfl ?_
  refine V.sst fun S_1 => ?_
  refine V.aload_n dX8_sign_5 0 rfl ?_
  refine V.iload_n dX8_sign_6 1 rfl ?_
  refine V.callV (M' := mX8_noSide) (As := [vI x1]) (ψ := (phP S_1)) dX8_sign_7 ml_X8_110 mfX8_noSide rfl ⟨by decide, by decide⟩ ⟨by decide, by decide⟩ (enc_at rfl sh0_1) rfl (Nat.le_of_ble_eq_true rfl) rfl (kX8_noSide l G F x1 S_1) (fun a_2 => ?_)
  show V l G mX8_sign none phI _ 10 [(0, vR (0, 1)), (1, vI x1), (2, vI x2), (3, vI x3), (4, vI x4)] [vI a_2] (enc S_1) 0 0
  refine V.if_eq 15 dX8_sign_10 (by decide) ?_ ?_
  · refine V.iload_n dX8_sign_15 2 rfl ?_
    refine V.i2l dX8_sign_16 ?_
    refine V.lconst (v := 1) dX8_sign_17 (by decide) ?_
    refine V.iload_n dX8_sign_18 3 rfl ?_
    refine V.i2l dX8_sign_19 ?_
    refine V.callS (M' := mX8_in) (As := [vJ x2.toInt64, vJ 1, vJ x3.toInt64]) (ψ := (phP S_1)) dX8_sign_20 ml_X8_102 mfX8_in rfl ⟨by decide, by decide⟩ ⟨by decide, by decide⟩ (Nat.le_of_ble_eq_true rfl) rfl (kX8_in l G F x2.toInt64 1 x3.toInt64 S_1) (fun a_3 => ?_)
    show V l G mX8_sign none phI _ 23 [(0, vR (0, 1)), (1, vI x1), (2, vI x2), (3, vI x3), (4, vI x4)] [vI a_3] (enc S_1) 0 0
    refine V.if_eq 46 dX8_sign_23 (by decide) ?_ ?_
    · refine V.bipush (v := (-2)) dX8_sign_46 (by decide) ?_
      exact V.iret rfl dX8_sign_48 rfl (by decide) (by decide)
    · refine V.iload_n dX8_sign_26 3 rfl ?_
      refine V.sipush (v := 30000) dX8_sign_27 (by decide) ?_
      refine V.icmp_gt 46 dX8_sign_30 (by decide) ?_ ?_
      · refine V.bipush (v := (-2)) dX8_sign_46 (by decide) ?_
        exact V.iret rfl dX8_sign_48 rfl (by decide) (by decide)
      · refine V.iload dX8_sign_33 4 rfl ?_
        refine V.i2l dX8_sign_35 ?_
        refine V.lconst (v := 1) dX8_sign_36 (by decide) ?_
        refine V.ldc2 (v := 9) dX8_sign_37 ct_X8_162 ?_
        refine V.callS (M' := mX8_in) (As := [vJ x4.toInt64, vJ 1, vJ 9]) (ψ := (phP S_1)) dX8_sign_40 ml_X8_102 mfX8_in rfl ⟨by decide, by decide⟩ ⟨by decide, by decide⟩ (Nat.le_of_ble_eq_true rfl) rfl (kX8_in l G F x4.toInt64 1 9 S_1) (fun a_4 => ?_)
        show V l G mX8_sign none phI _ 43 [(0, vR (0, 1)), (1, vI x1), (2, vI x2), (3, vI x3), (4, vI x4)] [vI a_4] (enc S_1) 0 0
        refine V.if_ne 49 dX8_sign_43 (by decide) ?_ ?_
        · refine V.aload_n dX8_sign_49 0 rfl ?_
          refine V.sgI 8 14 dX8_sign_50 gf_X8_164 sh0_1 rfl rfl ?_
          refine V.bipush (v := 60) dX8_sign_53 (by decide) ?_
          refine V.icmp_ne 61 dX8_sign_55 (by decide) ?_ ?_
          · refine V.aload_n dX8_sign_61 0 rfl ?_
            refine V.sgR 8 15 dX8_sign_62 gf_X8_43 sh0_1 rfl rfl ?_
            refine V.aload_n dX8_sign_65 0 rfl ?_
            refine V.sgI 8 14 dX8_sign_66 gf_X8_164 sh0_1 rfl rfl ?_
            refine V.iload_n dX8_sign_69 1 rfl ?_
            refine V.chk fun h_5 => ?_
            refine V.sis dX8_sign_70 h_5 ?_
            refine V.sst fun S_6 => ?_
            refine V.aload_n dX8_sign_71 0 rfl ?_
            refine V.sgR 8 16 dX8_sign_72 gf_X8_46 sh0_1 rfl rfl ?_
            refine V.aload_n dX8_sign_75 0 rfl ?_
            refine V.sgI 8 14 dX8_sign_76 gf_X8_164 sh0_1 rfl rfl ?_
            refine V.iload_n dX8_sign_79 2 rfl ?_
            refine V.chk fun h_7 => ?_
            refine V.sis dX8_sign_80 h_7 ?_
            refine V.sst fun S_8 => ?_
            refine V.aload_n dX8_sign_81 0 rfl ?_
            refine V.sgR 8 17 dX8_sign_82 gf_X8_49 sh0_1 rfl rfl ?_
            refine V.aload_n dX8_sign_85 0 rfl ?_
            refine V.sgI 8 14 dX8_sign_86 gf_X8_164 sh0_1 rfl rfl ?_
            refine V.iload_n dX8_sign_89 3 rfl ?_
            refine V.chk fun h_9 => ?_
            refine V.sis dX8_sign_90 h_9 ?_
            refine V.sst fun S_10 => ?_
            refine V.aload_n dX8_sign_91 0 rfl ?_
            refine V.sgR 8 18 dX8_sign_92 gf_X8_52 sh0_1 rfl rfl ?_
            refine V.aload_n dX8_sign_95 0 rfl ?_
            refine V.sgI 8 14 dX8_sign_96 gf_X8_164 sh0_1 rfl rfl ?_
            refine V.iload dX8_sign_99 4 rfl ?_
            refine V.chk fun h_11 => ?_
            refine V.sis dX8_sign_101 h_11 ?_
            refine V.sst fun S_12 => ?_
            refine V.aload_n dX8_sign_102 0 rfl ?_
            refine V.dup dX8_sign_103 rfl ?_
            refine V.sgI 8 14 dX8_sign_104 gf_X8_164 sh0_1 rfl rfl ?_
            refine V.iconst (v := 1) dX8_sign_107 (by decide) ?_
            refine V.iadd dX8_sign_108 ?_
            refine V.spI 8 14 dX8_sign_109 pf_X8_164 sh0_1 rfl rfl ?_
            refine V.sst fun S_13 => ?_
            refine V.aload_n dX8_sign_112 0 rfl ?_
            refine V.sgI 8 14 dX8_sign_113 gf_X8_164 sh0_1 rfl rfl ?_
            refine V.iconst (v := 1) dX8_sign_116 (by decide) ?_
            refine V.isub dX8_sign_117 ?_
            exact V.iret rfl dX8_sign_118 rfl (by decide) (by decide)
          · refine V.bipush (v := (-4)) dX8_sign_58 (by decide) ?_
            exact V.iret rfl dX8_sign_60 rfl (by decide) (by decide)
        · refine V.bipush (v := (-2)) dX8_sign_46 (by decide) ?_
          exact V.iret rfl dX8_sign_48 rfl (by decide) (by decide)
  · refine V.iconst (v := (-1)) dX8_sign_13 (by decide) ?_
    exact V.iret rfl dX8_sign_14 rfl (by decide) (by decide))

abbrev mX8_drop : vmt := (yX8_drop, cX8_drop, 2, (some .int), { frames := 1, cells := 0, slots := 0, locals := 25 })
theorem mfX8_drop : mfV mX8_drop 1 := ⟨im_X8_drop, se_X8_drop, ini_X8, co_X8_drop, by decide, by decide, by decide +kernel⟩
def fX8_drop (F : Nat) (x1 : Int32) (S : vs) : Option (Int32 × vs) := stp (s2 S (0, 1) 0 0) (fun S_1 => (fX8_in F x1.toInt64 0 (((S_1.1 (0, 1) 14) - 1).toInt64) S_1).bind (fun a_2 => if a_2 = 0 then some ((-1), S_1) else gd (inb x1 (alen 1 S_1.2.2 (0, 38))) (if (S_1.1 (0, 38) x1.toNatClampNeg) = 0 then stp (s2 S_1 (0, 38) x1.toNatClampNeg 1) (fun S_4 => some (1, S_4)) else some ((-3), S_1))))
theorem kX8_drop (l : Launch) (G : vg) (F : Nat) (x1 : Int32) (S : vs) : Rt l G mX8_drop none phI [vR (0, 1), vI x1] (enc S) (fX8_drop F x1 S) := Rt.of rfl (Nat.le_of_ble_eq_true rfl) (by
  show V l G mX8_drop none phI _ 0 [(0, vR (0, 1)), (1, vI x1)] [] (enc S) 0 0
  unfold fX8_drop
  refine V.aload_n dX8_drop_0 0 rfl ?_
  refine V.iconst (v := 0) dX8_drop_1 (by decide) ?_
  refine V.spI 8 0 dX8_drop_2 pf_X8_95 sh0_1 rfl rfl ?_
  refine V.sst fun S_1 => ?_
  refine V.iload_n dX8_drop_5 1 rfl ?_
  refine V.i2l dX8_drop_6 ?_
  refine V.lconst (v := 0) dX8_drop_7 (by decide) ?_
  refine V.aload_n dX8_drop_8 0 rfl ?_
  refine V.sgI 8 14 dX8_drop_9 gf_X8_164 sh0_1 rfl rfl ?_
  refine V.iconst (v := 1) dX8_drop_12 (by decide) ?_
  refine V.isub dX8_drop_13 ?_
  refine V.i2l dX8_drop_14 ?_
  refine V.callS (M' := mX8_in) (As := [vJ x1.toInt64, vJ 0, vJ (((S_1.1 (0, 1) 14) - 1).toInt64)]) (ψ := (phP S_1)) dX8_drop_15 ml_X8_102 mfX8_in rfl ⟨by decide, by decide⟩ ⟨by decide, by decide⟩ (Nat.le_of_ble_eq_true rfl) rfl (kX8_in l G F x1.toInt64 0 (((S_1.1 (0, 1) 14) - 1).toInt64) S_1) (fun a_2 => ?_)
  show V l G mX8_drop none phI _ 18 [(0, vR (0, 1)), (1, vI x1)] [vI a_2] (enc S_1) 0 0
  refine V.if_ne 23 dX8_drop_18 (by decide) ?_ ?_
  · refine V.aload_n dX8_drop_23 0 rfl ?_
    refine V.sgR 8 19 dX8_drop_24 gf_X8_55 sh0_1 rfl rfl ?_
    refine V.iload_n dX8_drop_27 1 rfl ?_
    refine V.chk fun h_3 => ?_
    refine V.sza dX8_drop_28 h_3 ?_
    refine V.if_eq 35 dX8_drop_29 (by decide) ?_ ?_
    · refine V.aload_n dX8_drop_35 0 rfl ?_
      refine V.sgR 8 19 dX8_drop_36 gf_X8_55 sh0_1 rfl rfl ?_
      refine V.iload_n dX8_drop_39 1 rfl ?_
      refine V.iconst (v := 1) dX8_drop_40 (by decide) ?_
      refine V.szs dX8_drop_41 h_3 rfl ?_
      refine V.sst fun S_4 => ?_
      refine V.iconst (v := 1) dX8_drop_42 (by decide) ?_
      exact V.iret rfl dX8_drop_43 rfl (by decide) (by decide)
    · refine V.bipush (v := (-3)) dX8_drop_32 (by decide) ?_
      exact V.iret rfl dX8_drop_34 rfl (by decide) (by decide)
  · refine V.iconst (v := (-1)) dX8_drop_21 (by decide) ?_
    exact V.iret rfl dX8_drop_22 rfl (by decide) (by decide))

abbrev mX8_isOf : vmt := (yX8_isOf, cX8_isOf, 3, (some .boolean), { frames := 0, cells := 0, slots := 0, locals := 0 })
theorem mfX8_isOf : mfV mX8_isOf 2 := ⟨im_X8_isOf, se_X8_isOf, ini_X8, co_X8_isOf, by decide, by decide, by decide +kernel⟩
def fX8_isOf (F : Nat) (x1 : Int32) (x2 : Int32) (S : vs) : Option Int32 := gd (inb x1 (alen 0 S.2.2 (0, 34))) (if (S.1 (0, 34) x1.toNatClampNeg) = x2 then gd (inb x1 (alen 1 S.2.2 (0, 38))) (if (S.1 (0, 38) x1.toNatClampNeg) = 0 then some 1 else some 0) else some 0)
theorem kX8_isOf (l : Launch) (G : vg) (F : Nat) (x1 : Int32) (x2 : Int32) (S : vs) : Rt l G mX8_isOf none (phP S) [vR (0, 1), vI x1, vI x2] (enc S) (fX8_isOf F x1 x2 S) := Rt.of rfl (Nat.le_of_ble_eq_true rfl) (by
  show V l G mX8_isOf none (phP S) _ 0 [(0, vR (0, 1)), (1, vI x1), (2, vI x2)] [] (enc S) 0 0
  unfold fX8_isOf
  refine V.aload_n dX8_isOf_0 0 rfl ?_
  refine V.sgR 8 15 dX8_isOf_1 gf_X8_43 sh0_1 rfl rfl ?_
  refine V.iload_n dX8_isOf_4 1 rfl ?_
  refine V.chk fun h_1 => ?_
  refine V.sia dX8_isOf_5 h_1 ?_
  refine V.iload_n dX8_isOf_6 2 rfl ?_
  refine V.icmp_ne 23 dX8_isOf_7 (by decide) ?_ ?_
  · refine V.iconst (v := 0) dX8_isOf_23 (by decide) ?_
    exact V.zret rfl dX8_isOf_24 rfl (zb_n rfl) (by decide) (by decide)
  · refine V.aload_n dX8_isOf_10 0 rfl ?_
    refine V.sgR 8 19 dX8_isOf_11 gf_X8_55 sh0_1 rfl rfl ?_
    refine V.iload_n dX8_isOf_14 1 rfl ?_
    refine V.chk fun h_2 => ?_
    refine V.sza dX8_isOf_15 h_2 ?_
    refine V.if_ne 23 dX8_isOf_16 (by decide) ?_ ?_
    · refine V.iconst (v := 0) dX8_isOf_23 (by decide) ?_
      exact V.zret rfl dX8_isOf_24 rfl (zb_n rfl) (by decide) (by decide)
    · refine V.iconst (v := 1) dX8_isOf_19 (by decide) ?_
      refine V.goto 24 dX8_isOf_20 (by decide) ?_
      exact V.zret rfl dX8_isOf_24 rfl (zb_n rfl) (by decide) (by decide))

abbrev mX8_weighsOf : vmt := (yX8_weighsOf, cX8_weighsOf, 5, (some .int), { frames := 1, cells := 0, slots := 0, locals := 25 })
theorem mfX8_weighsOf : mfV mX8_weighsOf 2 := ⟨im_X8_weighsOf, se_X8_weighsOf, ini_X8, co_X8_weighsOf, by decide, by decide, by decide +kernel⟩
def jX8_weighsOf_60 (k5 : Int32 → Int32 → Option Int32) (F : Nat) (x1 : Int32) (x2 : Int32) (x4 : Int32) (sk0 : Int32) (sk1 : Int32) (S : vs) : Option Int32 := ltt (sk1 + sk0) (fun x_2 => ltt (x4 + 1) (fun x_3 => k5 x_2 x_3))

def jX8_weighsOf_59 (k5 : Int32 → Int32 → Option Int32) (F : Nat) (x1 : Int32) (x2 : Int32) (x4 : Int32) (sk0 : Int32) (S : vs) : Option Int32 := jX8_weighsOf_60 k5 F x1 x2 x4 0 sk0 S

def hX8_weighsOf_5 (F : Nat) (S : vs) (x1 : Int32) (x2 : Int32) : Nat → Int32 → Int32 → Option Int32
  | 0, _, _ => none
  | n + 1, x3, x4 => if (S.1 (0, 1) 14) ≤ x4 then some x3 else (fX8_isOf F x4 x1 S).bind (fun a_1 => if a_1 = 0 then jX8_weighsOf_59 (hX8_weighsOf_5 F S x1 x2 n) F x1 x2 x4 x3 S else gd (inb x4 (alen 0 S.2.2 (0, 35))) (gd (inb x4 (alen 0 S.2.2 (0, 36))) ((fX8_in F x2.toInt64 ((S.1 (0, 35) x4.toNatClampNeg).toInt64) ((S.1 (0, 36) x4.toNatClampNeg).toInt64) S).bind (fun a_6 => if a_6 = 0 then jX8_weighsOf_59 (hX8_weighsOf_5 F S x1 x2 n) F x1 x2 x4 x3 S else gd (inb x4 (alen 0 S.2.2 (0, 37))) (jX8_weighsOf_60 (hX8_weighsOf_5 F S x1 x2 n) F x1 x2 x4 (S.1 (0, 37) x4.toNatClampNeg) x3 S)))))

def fX8_weighsOf (F : Nat) (x1 : Int32) (x2 : Int32) (S : vs) : Option Int32 := hX8_weighsOf_5 F S x1 x2 F 0 0
theorem tjX8_weighsOf_60 (l : Launch) (G : vg) (F : Nat) (x1 : Int32) (x2 : Int32) (x4 : Int32) (sk0 : Int32) (sk1 : Int32) (S : vs) (k5 : Int32 → Int32 → Option Int32) (H5 : ∀ (z3 : Int32), ∀ (z4 : Int32), V l G mX8_weighsOf none (phP S) (k5 z3 z4) 5 [(0, vR (0, 1)), (1, vI x1), (2, vI x2), (3, vI z3), (4, vI z4)] [] (enc S) 0 0) : V l G mX8_weighsOf none (phP S) (jX8_weighsOf_60 k5 F x1 x2 x4 sk0 sk1 S) 60 [(0, vR (0, 1)), (1, vI x1), (2, vI x2), (4, vI x4)] [vI sk0, vI sk1] (enc S) 0 0 := by
  unfold jX8_weighsOf_60
  refine V.iadd dX8_weighsOf_60 ?_
  refine V.lett fun x_2 => ?_
  refine V.istore_n (L' := [(0, vR (0, 1)), (1, vI x1), (2, vI x2), (4, vI x4), (3, vI x_2)]) dX8_weighsOf_61 (by decide) rfl rfl ?_
  refine V.lti (e := x4 + 1) (fun x_3 he => ?_)
  refine V.iinc (v := x_3) (L' := [(0, vR (0, 1)), (1, vI x1), (2, vI x2), (4, vI x_3), (3, vI x_2)]) dX8_weighsOf_62 3 rfl he.symm (by decide) rfl rfl ?_
  refine V.goto 5 dX8_weighsOf_65 (by decide) ?_
  exact V.lsub [0, 1, 2, 4, 3] rfl (H5 x_2 x_3)

theorem tjX8_weighsOf_59 (l : Launch) (G : vg) (F : Nat) (x1 : Int32) (x2 : Int32) (x4 : Int32) (sk0 : Int32) (S : vs) (k5 : Int32 → Int32 → Option Int32) (H5 : ∀ (z3 : Int32), ∀ (z4 : Int32), V l G mX8_weighsOf none (phP S) (k5 z3 z4) 5 [(0, vR (0, 1)), (1, vI x1), (2, vI x2), (3, vI z3), (4, vI z4)] [] (enc S) 0 0) : V l G mX8_weighsOf none (phP S) (jX8_weighsOf_59 k5 F x1 x2 x4 sk0 S) 59 [(0, vR (0, 1)), (1, vI x1), (2, vI x2), (4, vI x4)] [vI sk0] (enc S) 0 0 := by
  unfold jX8_weighsOf_59
  refine V.iconst (v := 0) dX8_weighsOf_59 (by decide) ?_
  exact (tjX8_weighsOf_60 l G F x1 x2 x4 0 sk0 S k5 H5)

theorem thX8_weighsOf_5 (l : Launch) (G : vg) (F : Nat) (S : vs) (x1 : Int32) (x2 : Int32) : ∀ (n : Nat) (x3 : Int32) (x4 : Int32), V l G mX8_weighsOf none (phP S) (hX8_weighsOf_5 F S x1 x2 n x3 x4) 5 [(0, vR (0, 1)), (1, vI x1), (2, vI x2), (3, vI x3), (4, vI x4)] [] (enc S) 0 0
  | 0, _, _ => V.nil
  | n + 1, x3, x4 => by
    have ih := thX8_weighsOf_5 l G F S x1 x2 n
    rw [hX8_weighsOf_5]
    refine V.iload dX8_weighsOf_5 4 rfl ?_
    refine V.aload_n dX8_weighsOf_7 0 rfl ?_
    refine V.sgI 8 14 dX8_weighsOf_8 gf_X8_164 sh0_1 rfl rfl ?_
    refine V.icmp_ge 68 dX8_weighsOf_11 (by decide) ?_ ?_
    · refine V.iload_n dX8_weighsOf_68 3 rfl ?_
      exact V.iret rfl dX8_weighsOf_69 rfl (by decide) (by decide)
    · refine V.iload_n dX8_weighsOf_14 3 rfl ?_
      refine V.aload_n dX8_weighsOf_15 0 rfl ?_
      refine V.iload dX8_weighsOf_16 4 rfl ?_
      refine V.iload_n dX8_weighsOf_18 1 rfl ?_
      refine V.callV (M' := mX8_isOf) (As := [vI x4, vI x1]) (ψ := (phP S)) dX8_weighsOf_19 ml_X8_167 mfX8_isOf rfl ⟨by decide, by decide⟩ ⟨by decide, by decide⟩ (enc_at rfl sh0_1) rfl (Nat.le_of_ble_eq_true rfl) rfl (kX8_isOf l G F x4 x1 S) (fun a_1 => ?_)
      show V l G mX8_weighsOf none (phP S) _ 22 [(0, vR (0, 1)), (1, vI x1), (2, vI x2), (3, vI x3), (4, vI x4)] [vI a_1, vI x3] (enc S) 0 0
      refine V.if_eq 59 dX8_weighsOf_22 (by decide) ?_ ?_
      · exact V.lsub [0, 1, 2, 4] rfl (tjX8_weighsOf_59 l G F x1 x2 x4 x3 S (hX8_weighsOf_5 F S x1 x2 n) ih)
      · refine V.iload_n dX8_weighsOf_25 2 rfl ?_
        refine V.i2l dX8_weighsOf_26 ?_
        refine V.aload_n dX8_weighsOf_27 0 rfl ?_
        refine V.sgR 8 16 dX8_weighsOf_28 gf_X8_46 sh0_1 rfl rfl ?_
        refine V.iload dX8_weighsOf_31 4 rfl ?_
        refine V.chk fun h_4 => ?_
        refine V.sia dX8_weighsOf_33 h_4 ?_
        refine V.i2l dX8_weighsOf_34 ?_
        refine V.aload_n dX8_weighsOf_35 0 rfl ?_
        refine V.sgR 8 17 dX8_weighsOf_36 gf_X8_49 sh0_1 rfl rfl ?_
        refine V.iload dX8_weighsOf_39 4 rfl ?_
        refine V.chk fun h_5 => ?_
        refine V.sia dX8_weighsOf_41 h_5 ?_
        refine V.i2l dX8_weighsOf_42 ?_
        refine V.callS (M' := mX8_in) (As := [vJ x2.toInt64, vJ ((S.1 (0, 35) x4.toNatClampNeg).toInt64), vJ ((S.1 (0, 36) x4.toNatClampNeg).toInt64)]) (ψ := (phP S)) dX8_weighsOf_43 ml_X8_102 mfX8_in rfl ⟨by decide, by decide⟩ ⟨by decide, by decide⟩ (Nat.le_of_ble_eq_true rfl) rfl (kX8_in l G F x2.toInt64 ((S.1 (0, 35) x4.toNatClampNeg).toInt64) ((S.1 (0, 36) x4.toNatClampNeg).toInt64) S) (fun a_6 => ?_)
        show V l G mX8_weighsOf none (phP S) _ 46 [(0, vR (0, 1)), (1, vI x1), (2, vI x2), (3, vI x3), (4, vI x4)] [vI a_6, vI x3] (enc S) 0 0
        refine V.if_eq 59 dX8_weighsOf_46 (by decide) ?_ ?_
        · exact V.lsub [0, 1, 2, 4] rfl (tjX8_weighsOf_59 l G F x1 x2 x4 x3 S (hX8_weighsOf_5 F S x1 x2 n) ih)
        · refine V.aload_n dX8_weighsOf_49 0 rfl ?_
          refine V.sgR 8 18 dX8_weighsOf_50 gf_X8_52 sh0_1 rfl rfl ?_
          refine V.iload dX8_weighsOf_53 4 rfl ?_
          refine V.chk fun h_7 => ?_
          refine V.sia dX8_weighsOf_55 h_7 ?_
          refine V.goto 60 dX8_weighsOf_56 (by decide) ?_
          exact V.lsub [0, 1, 2, 4] rfl (tjX8_weighsOf_60 l G F x1 x2 x4 (S.1 (0, 37) x4.toNatClampNeg) x3 S (hX8_weighsOf_5 F S x1 x2 n) ih)

theorem kX8_weighsOf (l : Launch) (G : vg) (F : Nat) (x1 : Int32) (x2 : Int32) (S : vs) : Rt l G mX8_weighsOf none (phP S) [vR (0, 1), vI x1, vI x2] (enc S) (fX8_weighsOf F x1 x2 S) := Rt.of rfl (Nat.le_of_ble_eq_true rfl) (by
  show V l G mX8_weighsOf none (phP S) _ 0 [(0, vR (0, 1)), (1, vI x1), (2, vI x2)] [] (enc S) 0 0
  unfold fX8_weighsOf
  refine V.iconst (v := 0) dX8_weighsOf_0 (by decide) ?_
  refine V.istore_n (L' := [(0, vR (0, 1)), (1, vI x1), (2, vI x2), (3, vI 0)]) dX8_weighsOf_1 (by decide) rfl rfl ?_
  refine V.iconst (v := 0) dX8_weighsOf_2 (by decide) ?_
  refine V.istore (L' := [(0, vR (0, 1)), (1, vI x1), (2, vI x2), (3, vI 0), (4, vI 0)]) dX8_weighsOf_3 (by decide) rfl rfl ?_
  exact (thX8_weighsOf_5 l G F S x1 x2 F 0 0))

abbrev mX8_speedOf : vmt := (yX8_speedOf, cX8_speedOf, 6, (some .int), { frames := 2, cells := 0, slots := 0, locals := 49 })
theorem mfX8_speedOf : mfV mX8_speedOf 1 := ⟨im_X8_speedOf, se_X8_speedOf, ini_X8, co_X8_speedOf, by decide, by decide, by decide +kernel⟩
def jX8_speedOf_88 (k5 : Int32 → Int32 → Option Int32) (F : Nat) (x1 : Int32) (x2 : Int32) (x3 : Int32) (S : vs) : Option Int32 := ltt (x3 + 1) (fun x_2 => k5 x2 x_2)

def jX8_speedOf_87 (k5 : Int32 → Int32 → Option Int32) (F : Nat) (x1 : Int32) (x3 : Int32) (sk0 : Int32) (S : vs) : Option Int32 := jX8_speedOf_88 k5 F x1 sk0 x3 S

def jX8_speedOf_77 (k5 : Int32 → Int32 → Option Int32) (F : Nat) (x1 : Int32) (x3 : Int32) (S : vs) : Option Int32 := gd (inb x3 (alen 0 S.2.2 (0, 35))) (jX8_speedOf_87 k5 F x1 x3 (S.1 (0, 35) x3.toNatClampNeg) S)

def jX8_speedOf_86 (k5 : Int32 → Int32 → Option Int32) (F : Nat) (x1 : Int32) (x2 : Int32) (x3 : Int32) (S : vs) : Option Int32 := jX8_speedOf_87 k5 F x1 x3 x2 S

def jX8_speedOf_51 (k5 : Int32 → Int32 → Option Int32) (F : Nat) (x1 : Int32) (x2 : Int32) (x3 : Int32) (x4 : Int32) (sk0 : Int32) (S : vs) : Option Int32 := if sk0 < x4 then jX8_speedOf_77 k5 F x1 x3 S else if x4 = sk0 then gd (inb x3 (alen 0 S.2.2 (0, 35))) (if x2 ≤ (S.1 (0, 35) x3.toNatClampNeg) then jX8_speedOf_86 k5 F x1 x2 x3 S else jX8_speedOf_77 k5 F x1 x3 S) else jX8_speedOf_86 k5 F x1 x2 x3 S

def hX8_speedOf_5 (F : Nat) (S : vs) (x1 : Int32) : Nat → Int32 → Int32 → Option Int32
  | 0, _, _ => none
  | n + 1, x2, x3 => if (S.1 (0, 1) 14) ≤ x3 then some x2 else (fX8_isOf F x3 x1 S).bind (fun a_1 => if a_1 = 0 then jX8_speedOf_88 (hX8_speedOf_5 F S x1 n) F x1 x2 x3 S else gd (inb x3 (alen 0 S.2.2 (0, 35))) ((fX8_weighsOf F x1 (S.1 (0, 35) x3.toNatClampNeg) S).bind (fun a_4 => if x2 = (-9) then jX8_speedOf_51 (hX8_speedOf_5 F S x1 n) F x1 x2 x3 a_4 0 S else (fX8_weighsOf F x1 x2 S).bind (fun a_5 => jX8_speedOf_51 (hX8_speedOf_5 F S x1 n) F x1 x2 x3 a_4 a_5 S))))

def fX8_speedOf (F : Nat) (x1 : Int32) (S : vs) : Option Int32 := hX8_speedOf_5 F S x1 F (-9) 0
theorem tjX8_speedOf_88 (l : Launch) (G : vg) (F : Nat) (x1 : Int32) (x2 : Int32) (x3 : Int32) (S : vs) (k5 : Int32 → Int32 → Option Int32) (H5 : ∀ (z2 : Int32), ∀ (z3 : Int32), V l G mX8_speedOf none (phP S) (k5 z2 z3) 5 [(0, vR (0, 1)), (1, vI x1), (2, vI z2), (3, vI z3)] [] (enc S) 0 0) : V l G mX8_speedOf none (phP S) (jX8_speedOf_88 k5 F x1 x2 x3 S) 88 [(0, vR (0, 1)), (1, vI x1), (2, vI x2), (3, vI x3)] [] (enc S) 0 0 := by
  unfold jX8_speedOf_88
  refine V.lti (e := x3 + 1) (fun x_2 he => ?_)
  refine V.iinc (v := x_2) (L' := [(0, vR (0, 1)), (1, vI x1), (2, vI x2), (3, vI x_2)]) dX8_speedOf_88 3 rfl he.symm (by decide) rfl rfl ?_
  refine V.goto 5 dX8_speedOf_91 (by decide) ?_
  exact (H5 x2 x_2)

theorem tjX8_speedOf_87 (l : Launch) (G : vg) (F : Nat) (x1 : Int32) (x3 : Int32) (sk0 : Int32) (S : vs) (k5 : Int32 → Int32 → Option Int32) (H5 : ∀ (z2 : Int32), ∀ (z3 : Int32), V l G mX8_speedOf none (phP S) (k5 z2 z3) 5 [(0, vR (0, 1)), (1, vI x1), (2, vI z2), (3, vI z3)] [] (enc S) 0 0) : V l G mX8_speedOf none (phP S) (jX8_speedOf_87 k5 F x1 x3 sk0 S) 87 [(0, vR (0, 1)), (1, vI x1), (3, vI x3)] [vI sk0] (enc S) 0 0 := by
  unfold jX8_speedOf_87
  refine V.istore_n (L' := [(0, vR (0, 1)), (1, vI x1), (3, vI x3), (2, vI sk0)]) dX8_speedOf_87 (by decide) rfl rfl ?_
  exact V.lsub [0, 1, 3, 2] rfl (tjX8_speedOf_88 l G F x1 sk0 x3 S k5 H5)

theorem tjX8_speedOf_77 (l : Launch) (G : vg) (F : Nat) (x1 : Int32) (x3 : Int32) (S : vs) (k5 : Int32 → Int32 → Option Int32) (H5 : ∀ (z2 : Int32), ∀ (z3 : Int32), V l G mX8_speedOf none (phP S) (k5 z2 z3) 5 [(0, vR (0, 1)), (1, vI x1), (2, vI z2), (3, vI z3)] [] (enc S) 0 0) : V l G mX8_speedOf none (phP S) (jX8_speedOf_77 k5 F x1 x3 S) 77 [(0, vR (0, 1)), (1, vI x1), (3, vI x3)] [] (enc S) 0 0 := by
  unfold jX8_speedOf_77
  refine V.aload_n dX8_speedOf_77 0 rfl ?_
  refine V.sgR 8 16 dX8_speedOf_78 gf_X8_46 sh0_1 rfl rfl ?_
  refine V.iload_n dX8_speedOf_81 2 rfl ?_
  refine V.chk fun h_6 => ?_
  refine V.sia dX8_speedOf_82 h_6 ?_
  refine V.goto 87 dX8_speedOf_83 (by decide) ?_
  exact (tjX8_speedOf_87 l G F x1 x3 (S.1 (0, 35) x3.toNatClampNeg) S k5 H5)

theorem tjX8_speedOf_86 (l : Launch) (G : vg) (F : Nat) (x1 : Int32) (x2 : Int32) (x3 : Int32) (S : vs) (k5 : Int32 → Int32 → Option Int32) (H5 : ∀ (z2 : Int32), ∀ (z3 : Int32), V l G mX8_speedOf none (phP S) (k5 z2 z3) 5 [(0, vR (0, 1)), (1, vI x1), (2, vI z2), (3, vI z3)] [] (enc S) 0 0) : V l G mX8_speedOf none (phP S) (jX8_speedOf_86 k5 F x1 x2 x3 S) 86 [(0, vR (0, 1)), (1, vI x1), (2, vI x2), (3, vI x3)] [] (enc S) 0 0 := by
  unfold jX8_speedOf_86
  refine V.iload_n dX8_speedOf_86 2 rfl ?_
  exact V.lsub [0, 1, 3] rfl (tjX8_speedOf_87 l G F x1 x3 x2 S k5 H5)

theorem tjX8_speedOf_51 (l : Launch) (G : vg) (F : Nat) (x1 : Int32) (x2 : Int32) (x3 : Int32) (x4 : Int32) (sk0 : Int32) (S : vs) (k5 : Int32 → Int32 → Option Int32) (H5 : ∀ (z2 : Int32), ∀ (z3 : Int32), V l G mX8_speedOf none (phP S) (k5 z2 z3) 5 [(0, vR (0, 1)), (1, vI x1), (2, vI z2), (3, vI z3)] [] (enc S) 0 0) : V l G mX8_speedOf none (phP S) (jX8_speedOf_51 k5 F x1 x2 x3 x4 sk0 S) 51 [(0, vR (0, 1)), (1, vI x1), (2, vI x2), (3, vI x3), (4, vI x4)] [vI sk0] (enc S) 0 0 := by
  unfold jX8_speedOf_51
  refine V.istore (L' := [(0, vR (0, 1)), (1, vI x1), (2, vI x2), (3, vI x3), (4, vI x4), (5, vI sk0)]) dX8_speedOf_51 (by decide) rfl rfl ?_
  refine V.iload dX8_speedOf_53 4 rfl ?_
  refine V.iload dX8_speedOf_55 5 rfl ?_
  refine V.icmp_gt 77 dX8_speedOf_57 (by decide) ?_ ?_
  · exact V.lsub [0, 1, 3] rfl (tjX8_speedOf_77 l G F x1 x3 S k5 H5)
  · refine V.iload dX8_speedOf_60 4 rfl ?_
    refine V.iload dX8_speedOf_62 5 rfl ?_
    refine V.icmp_ne 86 dX8_speedOf_64 (by decide) ?_ ?_
    · exact V.lsub [0, 1, 2, 3] rfl (tjX8_speedOf_86 l G F x1 x2 x3 S k5 H5)
    · refine V.aload_n dX8_speedOf_67 0 rfl ?_
      refine V.sgR 8 16 dX8_speedOf_68 gf_X8_46 sh0_1 rfl rfl ?_
      refine V.iload_n dX8_speedOf_71 3 rfl ?_
      refine V.chk fun h_7 => ?_
      refine V.sia dX8_speedOf_72 h_7 ?_
      refine V.iload_n dX8_speedOf_73 2 rfl ?_
      refine V.icmp_ge 86 dX8_speedOf_74 (by decide) ?_ ?_
      · exact V.lsub [0, 1, 2, 3] rfl (tjX8_speedOf_86 l G F x1 x2 x3 S k5 H5)
      · exact V.lsub [0, 1, 3] rfl (tjX8_speedOf_77 l G F x1 x3 S k5 H5)

theorem thX8_speedOf_5 (l : Launch) (G : vg) (F : Nat) (S : vs) (x1 : Int32) : ∀ (n : Nat) (x2 : Int32) (x3 : Int32), V l G mX8_speedOf none (phP S) (hX8_speedOf_5 F S x1 n x2 x3) 5 [(0, vR (0, 1)), (1, vI x1), (2, vI x2), (3, vI x3)] [] (enc S) 0 0
  | 0, _, _ => V.nil
  | n + 1, x2, x3 => by
    have ih := thX8_speedOf_5 l G F S x1 n
    rw [hX8_speedOf_5]
    refine V.iload_n dX8_speedOf_5 3 rfl ?_
    refine V.aload_n dX8_speedOf_6 0 rfl ?_
    refine V.sgI 8 14 dX8_speedOf_7 gf_X8_164 sh0_1 rfl rfl ?_
    refine V.icmp_ge 94 dX8_speedOf_10 (by decide) ?_ ?_
    · refine V.iload_n dX8_speedOf_94 2 rfl ?_
      exact V.iret rfl dX8_speedOf_95 rfl (by decide) (by decide)
    · refine V.aload_n dX8_speedOf_13 0 rfl ?_
      refine V.iload_n dX8_speedOf_14 3 rfl ?_
      refine V.iload_n dX8_speedOf_15 1 rfl ?_
      refine V.callV (M' := mX8_isOf) (As := [vI x3, vI x1]) (ψ := (phP S)) dX8_speedOf_16 ml_X8_167 mfX8_isOf rfl ⟨by decide, by decide⟩ ⟨by decide, by decide⟩ (enc_at rfl sh0_1) rfl (Nat.le_of_ble_eq_true rfl) rfl (kX8_isOf l G F x3 x1 S) (fun a_1 => ?_)
      show V l G mX8_speedOf none (phP S) _ 19 [(0, vR (0, 1)), (1, vI x1), (2, vI x2), (3, vI x3)] [vI a_1] (enc S) 0 0
      refine V.if_eq 88 dX8_speedOf_19 (by decide) ?_ ?_
      · exact (tjX8_speedOf_88 l G F x1 x2 x3 S (hX8_speedOf_5 F S x1 n) ih)
      · refine V.aload_n dX8_speedOf_22 0 rfl ?_
        refine V.iload_n dX8_speedOf_23 1 rfl ?_
        refine V.aload_n dX8_speedOf_24 0 rfl ?_
        refine V.sgR 8 16 dX8_speedOf_25 gf_X8_46 sh0_1 rfl rfl ?_
        refine V.iload_n dX8_speedOf_28 3 rfl ?_
        refine V.chk fun h_3 => ?_
        refine V.sia dX8_speedOf_29 h_3 ?_
        refine V.callV (M' := mX8_weighsOf) (As := [vI x1, vI (S.1 (0, 35) x3.toNatClampNeg)]) (ψ := (phP S)) dX8_speedOf_30 ml_X8_171 mfX8_weighsOf rfl ⟨by decide, by decide⟩ ⟨by decide, by decide⟩ (enc_at rfl sh0_1) rfl (Nat.le_of_ble_eq_true rfl) rfl (kX8_weighsOf l G F x1 (S.1 (0, 35) x3.toNatClampNeg) S) (fun a_4 => ?_)
        show V l G mX8_speedOf none (phP S) _ 33 [(0, vR (0, 1)), (1, vI x1), (2, vI x2), (3, vI x3)] [vI a_4] (enc S) 0 0
        refine V.istore (L' := [(0, vR (0, 1)), (1, vI x1), (2, vI x2), (3, vI x3), (4, vI a_4)]) dX8_speedOf_33 (by decide) rfl rfl ?_
        refine V.iload_n dX8_speedOf_35 2 rfl ?_
        refine V.bipush (v := (-9)) dX8_speedOf_36 (by decide) ?_
        refine V.icmp_ne 45 dX8_speedOf_38 (by decide) ?_ ?_
        · refine V.aload_n dX8_speedOf_45 0 rfl ?_
          refine V.iload_n dX8_speedOf_46 1 rfl ?_
          refine V.iload_n dX8_speedOf_47 2 rfl ?_
          refine V.callV (M' := mX8_weighsOf) (As := [vI x1, vI x2]) (ψ := (phP S)) dX8_speedOf_48 ml_X8_171 mfX8_weighsOf rfl ⟨by decide, by decide⟩ ⟨by decide, by decide⟩ (enc_at rfl sh0_1) rfl (Nat.le_of_ble_eq_true rfl) rfl (kX8_weighsOf l G F x1 x2 S) (fun a_5 => ?_)
          show V l G mX8_speedOf none (phP S) _ 51 [(0, vR (0, 1)), (1, vI x1), (2, vI x2), (3, vI x3), (4, vI a_4)] [vI a_5] (enc S) 0 0
          exact (tjX8_speedOf_51 l G F x1 x2 x3 a_4 a_5 S (hX8_speedOf_5 F S x1 n) ih)
        · refine V.iconst (v := 0) dX8_speedOf_41 (by decide) ?_
          refine V.goto 51 dX8_speedOf_42 (by decide) ?_
          exact (tjX8_speedOf_51 l G F x1 x2 x3 a_4 0 S (hX8_speedOf_5 F S x1 n) ih)

theorem kX8_speedOf (l : Launch) (G : vg) (F : Nat) (x1 : Int32) (S : vs) : Rt l G mX8_speedOf none (phP S) [vR (0, 1), vI x1] (enc S) (fX8_speedOf F x1 S) := Rt.of rfl (Nat.le_of_ble_eq_true rfl) (by
  show V l G mX8_speedOf none (phP S) _ 0 [(0, vR (0, 1)), (1, vI x1)] [] (enc S) 0 0
  unfold fX8_speedOf
  refine V.bipush (v := (-9)) dX8_speedOf_0 (by decide) ?_
  refine V.istore_n (L' := [(0, vR (0, 1)), (1, vI x1), (2, vI (-9))]) dX8_speedOf_2 (by decide) rfl rfl ?_
  refine V.iconst (v := 0) dX8_speedOf_3 (by decide) ?_
  refine V.istore_n (L' := [(0, vR (0, 1)), (1, vI x1), (2, vI (-9)), (3, vI 0)]) dX8_speedOf_4 (by decide) rfl rfl ?_
  exact (thX8_speedOf_5 l G F S x1 F (-9) 0))

abbrev mX8_speed : vmt := (yX8_speed, cX8_speed, 2, (some .int), { frames := 3, cells := 0, slots := 0, locals := 74 })
theorem mfX8_speed : mfV mX8_speed 1 := ⟨im_X8_speed, se_X8_speed, ini_X8, co_X8_speed, by decide, by decide, by decide +kernel⟩
def fX8_speed (F : Nat) (x1 : Int32) (S : vs) : Option (Int32 × vs) := stp (s2 S (0, 1) 0 0) (fun S_1 => (fX8_noSide F x1 S_1).bind (fun a_2 => if a_2 = 0 then (fX8_speedOf F x1 S_1).bind (fun a_3 => some (a_3, S_1)) else some ((-1), S_1)))
theorem kX8_speed (l : Launch) (G : vg) (F : Nat) (x1 : Int32) (S : vs) : Rt l G mX8_speed none phI [vR (0, 1), vI x1] (enc S) (fX8_speed F x1 S) := Rt.of rfl (Nat.le_of_ble_eq_true rfl) (by
  show V l G mX8_speed none phI _ 0 [(0, vR (0, 1)), (1, vI x1)] [] (enc S) 0 0
  unfold fX8_speed
  refine V.aload_n dX8_speed_0 0 rfl ?_
  refine V.iconst (v := 0) dX8_speed_1 (by decide) ?_
  refine V.spI 8 0 dX8_speed_2 pf_X8_95 sh0_1 rfl rfl ?_
  refine V.sst fun S_1 => ?_
  refine V.aload_n dX8_speed_5 0 rfl ?_
  refine V.iload_n dX8_speed_6 1 rfl ?_
  refine V.callV (M' := mX8_noSide) (As := [vI x1]) (ψ := (phP S_1)) dX8_speed_7 ml_X8_110 mfX8_noSide rfl ⟨by decide, by decide⟩ ⟨by decide, by decide⟩ (enc_at rfl sh0_1) rfl (Nat.le_of_ble_eq_true rfl) rfl (kX8_noSide l G F x1 S_1) (fun a_2 => ?_)
  show V l G mX8_speed none phI _ 10 [(0, vR (0, 1)), (1, vI x1)] [vI a_2] (enc S_1) 0 0
  refine V.if_eq 17 dX8_speed_10 (by decide) ?_ ?_
  · refine V.aload_n dX8_speed_17 0 rfl ?_
    refine V.iload_n dX8_speed_18 1 rfl ?_
    refine V.callV (M' := mX8_speedOf) (As := [vI x1]) (ψ := (phP S_1)) dX8_speed_19 ml_X8_175 mfX8_speedOf rfl ⟨by decide, by decide⟩ ⟨by decide, by decide⟩ (enc_at rfl sh0_1) rfl (Nat.le_of_ble_eq_true rfl) rfl (kX8_speedOf l G F x1 S_1) (fun a_3 => ?_)
    show V l G mX8_speed none phI _ 22 [(0, vR (0, 1)), (1, vI x1)] [vI a_3] (enc S_1) 0 0
    exact V.iret rfl dX8_speed_22 rfl (by decide) (by decide)
  · refine V.iconst (v := (-1)) dX8_speed_13 (by decide) ?_
    refine V.goto 22 dX8_speed_14 (by decide) ?_
    exact V.iret rfl dX8_speed_22 rfl (by decide) (by decide))

