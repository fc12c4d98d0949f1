abbrev mX0_leastHours : vmt := (yX0_leastHours, cX0_leastHours, 5, (some .int), { frames := 4, cells := 0, slots := 0, locals := 91 })
theorem mfX0_leastHours : mfV mX0_leastHours 1 := ⟨im_X0_leastHours, se_X0_leastHours, ini_X0, co_X0_leastHours, by decide, by decide, by decide +kernel⟩
def jX0_leastHours_36 (k6 : Int32 → Int32 → vs → Option (Int32 × vs)) (F : Nat) (x1 : Int32) (x2 : Int32) (x3 : Int32) (S : vs) : Option (Int32 × vs) := ltt (x3 / 2) (fun x_2 => k6 x2 x_2 S)

def hX0_leastHours_6 (F : Nat) (x1 : Int32) : Nat → Int32 → Int32 → vs → Option (Int32 × vs)
  | 0, _, _, _ => none
  | n + 1, x2, x3, S => if x3 ≤ 0 then if 3000 ≤ x2 then some ((-9), S) else some (x2 + 1, S) else ltt (x2 + x3) (fun x_1 => if 3000 < x_1 then jX0_leastHours_36 (hX0_leastHours_6 F x1 n) F x1 x2 x3 S else (fX0_mostWith F x_1 S).bind (fun a_3 => if x1 ≤ a_3.1 then jX0_leastHours_36 (hX0_leastHours_6 F x1 n) F x1 x2 x3 a_3.2 else jX0_leastHours_36 (hX0_leastHours_6 F x1 n) F x1 x_1 x3 a_3.2))

def fX0_leastHours (F : Nat) (x1 : Int32) (S : vs) : Option (Int32 × vs) := hX0_leastHours_6 F x1 F (-1) 2048 S
theorem tjX0_leastHours_36 (l : Launch) (G : vg) (F : Nat) (x1 : Int32) (x2 : Int32) (x3 : Int32) (S : vs) (k6 : Int32 → Int32 → vs → Option (Int32 × vs)) (H6 : ∀ (z2 : Int32), ∀ (z3 : Int32), ∀ (Sz : vs), V l G mX0_leastHours none phI (k6 z2 z3 Sz) 6 [(0, vR (0, 2)), (1, vI x1), (2, vI z2), (3, vI z3)] [] (enc Sz) 0 0) : V l G mX0_leastHours none phI (jX0_leastHours_36 k6 F x1 x2 x3 S) 36 [(0, vR (0, 2)), (1, vI x1), (2, vI x2), (3, vI x3)] [] (enc S) 0 0 := by
  unfold jX0_leastHours_36
  refine V.iload_n dX0_leastHours_36 3 rfl ?_
  refine V.iconst (v := 2) dX0_leastHours_37 (by decide) ?_
  refine V.idiv dX0_leastHours_38 (by decide) ?_
  refine V.lett fun x_2 => ?_
  refine V.istore_n (L' := [(0, vR (0, 2)), (1, vI x1), (2, vI x2), (3, vI x_2)]) dX0_leastHours_39 (by decide) rfl rfl ?_
  refine V.goto 6 dX0_leastHours_40 (by decide) ?_
  exact (H6 x2 x_2 S)

theorem thX0_leastHours_6 (l : Launch) (G : vg) (F : Nat) (x1 : Int32) : ∀ (n : Nat) (x2 : Int32) (x3 : Int32) (S : vs), V l G mX0_leastHours none phI (hX0_leastHours_6 F x1 n x2 x3 S) 6 [(0, vR (0, 2)), (1, vI x1), (2, vI x2), (3, vI x3)] [] (enc S) 0 0
  | 0, _, _, _ => V.nil
  | n + 1, x2, x3, S => by
    have ih := thX0_leastHours_6 l G F x1 n
    rw [hX0_leastHours_6]
    refine V.iload_n dX0_leastHours_6 3 rfl ?_
    refine V.if_le 43 dX0_leastHours_7 (by decide) ?_ ?_
    · refine V.iload_n dX0_leastHours_43 2 rfl ?_
      refine V.sipush (v := 3000) dX0_leastHours_44 (by decide) ?_
      refine V.icmp_ge 56 dX0_leastHours_47 (by decide) ?_ ?_
      · refine V.bipush (v := (-9)) dX0_leastHours_56 (by decide) ?_
        exact V.iret rfl dX0_leastHours_58 rfl (by decide) (by decide)
      · refine V.iload_n dX0_leastHours_50 2 rfl ?_
        refine V.iconst (v := 1) dX0_leastHours_51 (by decide) ?_
        refine V.iadd dX0_leastHours_52 ?_
        refine V.goto 58 dX0_leastHours_53 (by decide) ?_
        exact V.iret rfl dX0_leastHours_58 rfl (by decide) (by decide)
    · refine V.iload_n dX0_leastHours_10 2 rfl ?_
      refine V.iload_n dX0_leastHours_11 3 rfl ?_
      refine V.iadd dX0_leastHours_12 ?_
      refine V.lett fun x_1 => ?_
      refine V.istore (L' := [(0, vR (0, 2)), (1, vI x1), (2, vI x2), (3, vI x3), (4, vI x_1)]) dX0_leastHours_13 (by decide) rfl rfl ?_
      refine V.iload dX0_leastHours_15 4 rfl ?_
      refine V.sipush (v := 3000) dX0_leastHours_17 (by decide) ?_
      refine V.icmp_gt 36 dX0_leastHours_20 (by decide) ?_ ?_
      · exact V.lsub [0, 1, 2, 3] rfl (tjX0_leastHours_36 l G F x1 x2 x3 S (hX0_leastHours_6 F x1 n) ih)
      · refine V.aload_n dX0_leastHours_23 0 rfl ?_
        refine V.iload dX0_leastHours_24 4 rfl ?_
        refine V.callV (M' := mX0_mostWith) (As := [vI x_1]) (ψ := phI) dX0_leastHours_26 ml_X0_77 mfX0_mostWith rfl ⟨by decide, by decide⟩ ⟨by decide, by decide⟩ (enc_at rfl sh0_2) rfl (Nat.le_of_ble_eq_true rfl) rfl (kX0_mostWith l G F x_1 S) (fun a_3 => ?_)
        show V l G mX0_leastHours none phI _ 29 [(0, vR (0, 2)), (1, vI x1), (2, vI x2), (3, vI x3), (4, vI x_1)] [vI a_3.1] (enc a_3.2) 0 0
        refine V.iload_n dX0_leastHours_29 1 rfl ?_
        refine V.icmp_ge 36 dX0_leastHours_30 (by decide) ?_ ?_
        · exact V.lsub [0, 1, 2, 3] rfl (tjX0_leastHours_36 l G F x1 x2 x3 a_3.2 (hX0_leastHours_6 F x1 n) ih)
        · refine V.iload dX0_leastHours_33 4 rfl ?_
          refine V.istore_n (L' := [(0, vR (0, 2)), (1, vI x1), (2, vI x_1), (3, vI x3), (4, vI x_1)]) dX0_leastHours_35 (by decide) rfl rfl ?_
          exact V.lsub [0, 1, 2, 3] rfl (tjX0_leastHours_36 l G F x1 x_1 x3 a_3.2 (hX0_leastHours_6 F x1 n) ih)

theorem kX0_leastHours (l : Launch) (G : vg) (F : Nat) (x1 : Int32) (S : vs) : Rt l G mX0_leastHours none phI [vR (0, 2), vI x1] (enc S) (fX0_leastHours F x1 S) := Rt.of rfl (Nat.le_of_ble_eq_true rfl) (by
  show V l G mX0_leastHours none phI _ 0 [(0, vR (0, 2)), (1, vI x1)] [] (enc S) 0 0
  unfold fX0_leastHours
  refine V.iconst (v := (-1)) dX0_leastHours_0 (by decide) ?_
  refine V.istore_n (L' := [(0, vR (0, 2)), (1, vI x1), (2, vI (-1))]) dX0_leastHours_1 (by decide) rfl rfl ?_
  refine V.sipush (v := 2048) dX0_leastHours_2 (by decide) ?_
  refine V.istore_n (L' := [(0, vR (0, 2)), (1, vI x1), (2, vI (-1)), (3, vI 2048)]) dX0_leastHours_5 (by decide) rfl rfl ?_
  exact (thX0_leastHours_6 l G F x1 F (-1) 2048 S))

abbrev mX0_hoursFor : vmt := (yX0_hoursFor, cX0_hoursFor, 3, (some .int), { frames := 0, cells := 0, slots := 0, locals := 0 })
theorem mfX0_hoursFor : mfV mX0_hoursFor 2 := ⟨im_X0_hoursFor, se_X0_hoursFor, ini_X0, co_X0_hoursFor, by decide, by decide, by decide +kernel⟩
def fX0_hoursFor (F : Nat) (x1 : Int32) (x2 : Int32) (S : vs) : Option Int32 := if (x1 - x1 / 2 * 2) = 0 then gd (inb x2 (alen 0 S.2.2 (0, 7))) (some (S.1 (0, 7) x2.toNatClampNeg)) else gd (inb x2 (alen 0 S.2.2 (0, 8))) (some (S.1 (0, 8) x2.toNatClampNeg))
theorem kX0_hoursFor (l : Launch) (G : vg) (F : Nat) (x1 : Int32) (x2 : Int32) (S : vs) : Rt l G mX0_hoursFor none (phP S) [vR (0, 2), vI x1, vI x2] (enc S) (fX0_hoursFor F x1 x2 S) := Rt.of rfl (Nat.le_of_ble_eq_true rfl) (by
  show V l G mX0_hoursFor none (phP S) _ 0 [(0, vR (0, 2)), (1, vI x1), (2, vI x2)] [] (enc S) 0 0
  unfold fX0_hoursFor
  refine V.iload_n dX0_hoursFor_0 1 rfl ?_
  refine V.iconst (v := 2) dX0_hoursFor_1 (by decide) ?_
  refine V.irem dX0_hoursFor_2 (by decide) ?_
  refine V.if_ne 15 dX0_hoursFor_3 (by decide) ?_ ?_
  · refine V.aload_n dX0_hoursFor_15 0 rfl ?_
    refine V.sgR 0 3 dX0_hoursFor_16 gf_X0_22 sh0_2 rfl rfl ?_
    refine V.iload_n dX0_hoursFor_19 2 rfl ?_
    refine V.chk fun h_1 => ?_
    refine V.sia dX0_hoursFor_20 h_1 ?_
    exact V.iret rfl dX0_hoursFor_21 rfl (by decide) (by decide)
  · refine V.aload_n dX0_hoursFor_6 0 rfl ?_
    refine V.sgR 0 2 dX0_hoursFor_7 gf_X0_18 sh0_2 rfl rfl ?_
    refine V.iload_n dX0_hoursFor_10 2 rfl ?_
    refine V.chk fun h_2 => ?_
    refine V.sia dX0_hoursFor_11 h_2 ?_
    refine V.goto 21 dX0_hoursFor_12 (by decide) ?_
    exact V.iret rfl dX0_hoursFor_21 rfl (by decide) (by decide))

abbrev mX0_firstOption : vmt := (yX0_firstOption, cX0_firstOption, 7, (some .int), { frames := 3, cells := 0, slots := 0, locals := 70 })
theorem mfX0_firstOption : mfV mX0_firstOption 2 := ⟨im_X0_firstOption, se_X0_firstOption, ini_X0, co_X0_firstOption, by decide, by decide, by decide +kernel⟩
def jX0_firstOption_90 (k2 : Int32 → vs → Option (Int32 × vs)) (F : Nat) (x1 : Int32) (x2 : Int32) (x3 : Int32) (S : vs) : Option (Int32 × vs) := ltt (x3 + 1) (fun x_12 => k2 x_12 S)

def hX0_firstOption_2 (F : Nat) (x1 : Int32) (x2 : Int32) : Nat → Int32 → vs → Option (Int32 × vs)
  | 0, _, _ => none
  | n + 1, x3, S => if (2 * (S.1 (0, 2) 1)) ≤ x3 then some ((-9), S) else (fX0_hoursFor F x3 x1 S).bind (fun a_1 => ltt (x3 / 2) (fun x_2 => gd (inb x_2 (alen 0 S.2.2 (0, 10))) (if a_1 ≤ (S.1 (0, 10) x_2.toNatClampNeg) then stp (s2 S (0, 10) x_2.toNatClampNeg ((S.1 (0, 10) x_2.toNatClampNeg) - a_1)) (fun S_4 => (rget 5 S_4 (0, 9) x3).bind (fun q_5 => gd (inb x1 (alen 0 S_4.2.2 (4, q_5))) ((fX0_mostFrom F (x1 + 1) S_4).bind (fun a_8 => ltt ((S_4.1 (4, q_5) x1.toNatClampNeg) + a_8.1) (fun x_9 => gd (inb x_2 (alen 0 a_8.2.2.2 (0, 10))) (stp (s2 a_8.2 (0, 10) x_2.toNatClampNeg ((a_8.2.1 (0, 10) x_2.toNatClampNeg) + a_1)) (fun S_11 => if x_9 = x2 then some (x3, S_11) else jX0_firstOption_90 (hX0_firstOption_2 F x1 x2 n) F x1 x2 x3 S_11))))))) else jX0_firstOption_90 (hX0_firstOption_2 F x1 x2 n) F x1 x2 x3 S)))

def fX0_firstOption (F : Nat) (x1 : Int32) (x2 : Int32) (S : vs) : Option (Int32 × vs) := hX0_firstOption_2 F x1 x2 F 0 S
theorem tjX0_firstOption_90 (l : Launch) (G : vg) (F : Nat) (x1 : Int32) (x2 : Int32) (x3 : Int32) (S : vs) (k2 : Int32 → vs → Option (Int32 × vs)) (H2 : ∀ (z3 : Int32), ∀ (Sz : vs), V l G mX0_firstOption none phI (k2 z3 Sz) 2 [(0, vR (0, 2)), (1, vI x1), (2, vI x2), (3, vI z3)] [] (enc Sz) 0 0) : V l G mX0_firstOption none phI (jX0_firstOption_90 k2 F x1 x2 x3 S) 90 [(0, vR (0, 2)), (1, vI x1), (2, vI x2), (3, vI x3)] [] (enc S) 0 0 := by
  unfold jX0_firstOption_90
  refine V.lti (e := x3 + 1) (fun x_12 he => ?_)
  refine V.iinc (v := x_12) (L' := [(0, vR (0, 2)), (1, vI x1), (2, vI x2), (3, vI x_12)]) dX0_firstOption_90 3 rfl he.symm (by decide) rfl rfl ?_
  refine V.goto 2 dX0_firstOption_93 (by decide) ?_
  exact (H2 x_12 S)

theorem thX0_firstOption_2 (l : Launch) (G : vg) (F : Nat) (x1 : Int32) (x2 : Int32) : ∀ (n : Nat) (x3 : Int32) (S : vs), V l G mX0_firstOption none phI (hX0_firstOption_2 F x1 x2 n x3 S) 2 [(0, vR (0, 2)), (1, vI x1), (2, vI x2), (3, vI x3)] [] (enc S) 0 0
  | 0, _, _ => V.nil
  | n + 1, x3, S => by
    have ih := thX0_firstOption_2 l G F x1 x2 n
    rw [hX0_firstOption_2]
    refine V.iload_n dX0_firstOption_2 3 rfl ?_
    refine V.iconst (v := 2) dX0_firstOption_3 (by decide) ?_
    refine V.aload_n dX0_firstOption_4 0 rfl ?_
    refine V.sgI 0 1 dX0_firstOption_5 gf_X0_15 sh0_2 rfl rfl ?_
    refine V.imul dX0_firstOption_8 ?_
    refine V.icmp_ge 96 dX0_firstOption_9 (by decide) ?_ ?_
    · refine V.bipush (v := (-9)) dX0_firstOption_96 (by decide) ?_
      exact V.iret rfl dX0_firstOption_98 rfl (by decide) (by decide)
    · refine V.aload_n dX0_firstOption_12 0 rfl ?_
      refine V.iload_n dX0_firstOption_13 3 rfl ?_
      refine V.iload_n dX0_firstOption_14 1 rfl ?_
      refine V.callV (M' := mX0_hoursFor) (As := [vI x3, vI x1]) (ψ := (phP S)) dX0_firstOption_15 ml_X0_83 mfX0_hoursFor rfl ⟨by decide, by decide⟩ ⟨by decide, by decide⟩ (enc_at rfl sh0_2) rfl (Nat.le_of_ble_eq_true rfl) rfl (kX0_hoursFor l G F x3 x1 S) (fun a_1 => ?_)
      show V l G mX0_firstOption none phI _ 18 [(0, vR (0, 2)), (1, vI x1), (2, vI x2), (3, vI x3)] [vI a_1] (enc S) 0 0
      refine V.istore (L' := [(0, vR (0, 2)), (1, vI x1), (2, vI x2), (3, vI x3), (4, vI a_1)]) dX0_firstOption_18 (by decide) rfl rfl ?_
      refine V.iload_n dX0_firstOption_20 3 rfl ?_
      refine V.iconst (v := 2) dX0_firstOption_21 (by decide) ?_
      refine V.idiv dX0_firstOption_22 (by decide) ?_
      refine V.lett fun x_2 => ?_
      refine V.istore (L' := [(0, vR (0, 2)), (1, vI x1), (2, vI x2), (3, vI x3), (4, vI a_1), (5, vI x_2)]) dX0_firstOption_23 (by decide) rfl rfl ?_
      refine V.iload dX0_firstOption_25 4 rfl ?_
      refine V.aload_n dX0_firstOption_27 0 rfl ?_
      refine V.sgR 0 5 dX0_firstOption_28 gf_X0_30 sh0_2 rfl rfl ?_
      refine V.iload dX0_firstOption_31 5 rfl ?_
      refine V.chk fun h_3 => ?_
      refine V.sia dX0_firstOption_33 h_3 ?_
      refine V.icmp_le 40 dX0_firstOption_34 (by decide) ?_ ?_
      · refine V.aload_n dX0_firstOption_40 0 rfl ?_
        refine V.sgR 0 5 dX0_firstOption_41 gf_X0_30 sh0_2 rfl rfl ?_
        refine V.iload dX0_firstOption_44 5 rfl ?_
        refine V.dup2 dX0_firstOption_46 rfl rfl ?_
        refine V.sia dX0_firstOption_47 h_3 ?_
        refine V.iload dX0_firstOption_48 4 rfl ?_
        refine V.isub dX0_firstOption_50 ?_
        refine V.sis dX0_firstOption_51 h_3 ?_
        refine V.sst fun S_4 => ?_
        refine V.aload_n dX0_firstOption_52 0 rfl ?_
        refine V.sgR 0 4 dX0_firstOption_53 gf_X0_27 sh0_2 rfl rfl ?_
        refine V.iload_n dX0_firstOption_56 3 rfl ?_
        refine V.sbind fun q_5 h_6 => ?_
        refine V.saa (t := 5) dX0_firstOption_57 rfl rfl h_6 ?_
        refine V.iload_n dX0_firstOption_58 1 rfl ?_
        refine V.chk fun h_7 => ?_
        refine V.sia dX0_firstOption_59 h_7 ?_
        refine V.aload_n dX0_firstOption_60 0 rfl ?_
        refine V.iload_n dX0_firstOption_61 1 rfl ?_
        refine V.iconst (v := 1) dX0_firstOption_62 (by decide) ?_
        refine V.iadd dX0_firstOption_63 ?_
        refine V.callV (M' := mX0_mostFrom) (As := [vI (x1 + 1)]) (ψ := phI) dX0_firstOption_64 ml_X0_73 mfX0_mostFrom rfl ⟨by decide, by decide⟩ ⟨by decide, by decide⟩ (enc_at rfl sh0_2) rfl (Nat.le_of_ble_eq_true rfl) rfl (kX0_mostFrom l G F (x1 + 1) S_4) (fun a_8 => ?_)
        show V l G mX0_firstOption none phI _ 67 [(0, vR (0, 2)), (1, vI x1), (2, vI x2), (3, vI x3), (4, vI a_1), (5, vI x_2)] [vI a_8.1, vI (S_4.1 (4, q_5) x1.toNatClampNeg)] (enc a_8.2) 0 0
        refine V.iadd dX0_firstOption_67 ?_
        refine V.lett fun x_9 => ?_
        refine V.istore (L' := [(0, vR (0, 2)), (1, vI x1), (2, vI x2), (3, vI x3), (4, vI a_1), (5, vI x_2), (6, vI x_9)]) dX0_firstOption_68 (by decide) rfl rfl ?_
        refine V.aload_n dX0_firstOption_70 0 rfl ?_
        refine V.sgR 0 5 dX0_firstOption_71 gf_X0_30 sh0_2 rfl rfl ?_
        refine V.iload dX0_firstOption_74 5 rfl ?_
        refine V.dup2 dX0_firstOption_76 rfl rfl ?_
        refine V.chk fun h_10 => ?_
        refine V.sia dX0_firstOption_77 h_10 ?_
        refine V.iload dX0_firstOption_78 4 rfl ?_
        refine V.iadd dX0_firstOption_80 ?_
        refine V.sis dX0_firstOption_81 h_10 ?_
        refine V.sst fun S_11 => ?_
        refine V.iload dX0_firstOption_82 6 rfl ?_
        refine V.iload_n dX0_firstOption_84 2 rfl ?_
        refine V.icmp_ne 90 dX0_firstOption_85 (by decide) ?_ ?_
        · exact V.lsub [0, 1, 2, 3] rfl (tjX0_firstOption_90 l G F x1 x2 x3 S_11 (hX0_firstOption_2 F x1 x2 n) ih)
        · refine V.iload_n dX0_firstOption_88 3 rfl ?_
          exact V.iret rfl dX0_firstOption_89 rfl (by decide) (by decide)
      · refine V.goto 90 dX0_firstOption_37 (by decide) ?_
        exact V.lsub [0, 1, 2, 3] rfl (tjX0_firstOption_90 l G F x1 x2 x3 S (hX0_firstOption_2 F x1 x2 n) ih)

theorem kX0_firstOption (l : Launch) (G : vg) (F : Nat) (x1 : Int32) (x2 : Int32) (S : vs) : Rt l G mX0_firstOption none phI [vR (0, 2), vI x1, vI x2] (enc S) (fX0_firstOption F x1 x2 S) := Rt.of rfl (Nat.le_of_ble_eq_true rfl) (by
  show V l G mX0_firstOption none phI _ 0 [(0, vR (0, 2)), (1, vI x1), (2, vI x2)] [] (enc S) 0 0
  unfold fX0_firstOption
  refine V.iconst (v := 0) dX0_firstOption_0 (by decide) ?_
  refine V.istore_n (L' := [(0, vR (0, 2)), (1, vI x1), (2, vI x2), (3, vI 0)]) dX0_firstOption_1 (by decide) rfl rfl ?_
  exact (thX0_firstOption_2 l G F x1 x2 F 0 S))

abbrev mX0_optionAt : vmt := (yX0_optionAt, cX0_optionAt, 6, (some .int), { frames := 4, cells := 0, slots := 0, locals := 96 })
theorem mfX0_optionAt : mfV mX0_optionAt 2 := ⟨im_X0_optionAt, se_X0_optionAt, ini_X0, co_X0_optionAt, by decide, by decide, by decide +kernel⟩
def jX0_optionAt_77 (k13 : Int32 → Int32 → Int32 → vs → Option (Int32 × vs)) (F : Nat) (x1 : Int32) (x3 : Int32) (x4 : Int32) (x5 : Int32) (S : vs) : Option (Int32 × vs) := ltt (x5 + 1) (fun x_3 => k13 x3 x4 x_3 S)

def hX0_optionAt_13 (F : Nat) (x1 : Int32) : Nat → Int32 → Int32 → Int32 → vs → Option (Int32 × vs)
  | 0, _, _, _, _ => none
  | n + 1, x3, x4, x5, S => if x1 < x5 then some (x4, S) else if (S.1 (0, 2) 0) ≤ x5 then some (x4, S) else (fX0_firstOption F x5 x3 S).bind (fun a_2 => if a_2.1 = (-9) then jX0_optionAt_77 (hX0_optionAt_13 F x1 n) F x1 x3 a_2.1 x5 a_2.2 else gd (inb (a_2.1 / 2) (alen 0 a_2.2.2.2 (0, 10))) ((fX0_hoursFor F a_2.1 x5 a_2.2).bind (fun a_5 => stp (s2 a_2.2 (0, 10) (a_2.1 / 2).toNatClampNeg ((a_2.2.1 (0, 10) (a_2.1 / 2).toNatClampNeg) - a_5)) (fun S_6 => (rget 5 S_6 (0, 9) a_2.1).bind (fun q_7 => gd (inb x5 (alen 0 S_6.2.2 (4, q_7))) (ltt (x3 - (S_6.1 (4, q_7) x5.toNatClampNeg)) (fun x_10 => jX0_optionAt_77 (hX0_optionAt_13 F x1 n) F x1 x_10 a_2.1 x5 S_6)))))))

def fX0_optionAt (F : Nat) (x1 : Int32) (x2 : Int32) (S : vs) : Option (Int32 × vs) := (fX0_mostWith F x2 S).bind (fun a_1 => hX0_optionAt_13 F x1 F a_1.1 (-9) 0 a_1.2)
theorem tjX0_optionAt_77 (l : Launch) (G : vg) (F : Nat) (x1 : Int32) (x3 : Int32) (x4 : Int32) (x5 : Int32) (S : vs) (k13 : Int32 → Int32 → Int32 → vs → Option (Int32 × vs)) (H13 : ∀ (z3 : Int32), ∀ (z4 : Int32), ∀ (z5 : Int32), ∀ (Sz : vs), V l G mX0_optionAt none phI (k13 z3 z4 z5 Sz) 13 [(0, vR (0, 2)), (1, vI x1), (3, vI z3), (4, vI z4), (5, vI z5)] [] (enc Sz) 0 0) : V l G mX0_optionAt none phI (jX0_optionAt_77 k13 F x1 x3 x4 x5 S) 77 [(0, vR (0, 2)), (1, vI x1), (3, vI x3), (4, vI x4), (5, vI x5)] [] (enc S) 0 0 := by
  unfold jX0_optionAt_77
  refine V.lti (e := x5 + 1) (fun x_3 he => ?_)
  refine V.iinc (v := x_3) (L' := [(0, vR (0, 2)), (1, vI x1), (3, vI x3), (4, vI x4), (5, vI x_3)]) dX0_optionAt_77 4 rfl he.symm (by decide) rfl rfl ?_
  refine V.goto 13 dX0_optionAt_80 (by decide) ?_
  exact (H13 x3 x4 x_3 S)

theorem thX0_optionAt_13 (l : Launch) (G : vg) (F : Nat) (x1 : Int32) : ∀ (n : Nat) (x3 : Int32) (x4 : Int32) (x5 : Int32) (S : vs), V l G mX0_optionAt none phI (hX0_optionAt_13 F x1 n x3 x4 x5 S) 13 [(0, vR (0, 2)), (1, vI x1), (3, vI x3), (4, vI x4), (5, vI x5)] [] (enc S) 0 0
  | 0, _, _, _, _ => V.nil
  | n + 1, x3, x4, x5, S => by
    have ih := thX0_optionAt_13 l G F x1 n
    rw [hX0_optionAt_13]
    refine V.iload dX0_optionAt_13 4 rfl ?_
    refine V.iload_n dX0_optionAt_15 1 rfl ?_
    refine V.icmp_gt 83 dX0_optionAt_16 (by decide) ?_ ?_
    · refine V.iload dX0_optionAt_83 3 rfl ?_
      exact V.iret rfl dX0_optionAt_85 rfl (by decide) (by decide)
    · refine V.iload dX0_optionAt_19 4 rfl ?_
      refine V.aload_n dX0_optionAt_21 0 rfl ?_
      refine V.sgI 0 0 dX0_optionAt_22 gf_X0_11 sh0_2 rfl rfl ?_
      refine V.icmp_ge 83 dX0_optionAt_25 (by decide) ?_ ?_
      · refine V.iload dX0_optionAt_83 3 rfl ?_
        exact V.iret rfl dX0_optionAt_85 rfl (by decide) (by decide)
      · refine V.aload_n dX0_optionAt_28 0 rfl ?_
        refine V.iload dX0_optionAt_29 4 rfl ?_
        refine V.iload_n dX0_optionAt_31 2 rfl ?_
        refine V.callV (M' := mX0_firstOption) (As := [vI x5, vI x3]) (ψ := phI) dX0_optionAt_32 ml_X0_80 mfX0_firstOption rfl ⟨by decide, by decide⟩ ⟨by decide, by decide⟩ (enc_at rfl sh0_2) rfl (Nat.le_of_ble_eq_true rfl) rfl (kX0_firstOption l G F x5 x3 S) (fun a_2 => ?_)
        show V l G mX0_optionAt none phI _ 35 [(0, vR (0, 2)), (1, vI x1), (3, vI x3), (4, vI x4), (5, vI x5)] [vI a_2.1] (enc a_2.2) 0 0
        refine V.istore (L' := [(0, vR (0, 2)), (1, vI x1), (3, vI x3), (4, vI a_2.1), (5, vI x5)]) dX0_optionAt_35 (by decide) rfl rfl ?_
        refine V.iload dX0_optionAt_37 3 rfl ?_
        refine V.bipush (v := (-9)) dX0_optionAt_39 (by decide) ?_
        refine V.icmp_eq 77 dX0_optionAt_41 (by decide) ?_ ?_
        · exact (tjX0_optionAt_77 l G F x1 x3 a_2.1 x5 a_2.2 (hX0_optionAt_13 F x1 n) ih)
        · refine V.aload_n dX0_optionAt_44 0 rfl ?_
          refine V.sgR 0 5 dX0_optionAt_45 gf_X0_30 sh0_2 rfl rfl ?_
          refine V.iload dX0_optionAt_48 3 rfl ?_
          refine V.iconst (v := 2) dX0_optionAt_50 (by decide) ?_
          refine V.idiv dX0_optionAt_51 (by decide) ?_
          refine V.dup2 dX0_optionAt_52 rfl rfl ?_
          refine V.chk fun h_4 => ?_
          refine V.sia dX0_optionAt_53 h_4 ?_
          refine V.aload_n dX0_optionAt_54 0 rfl ?_
          refine V.iload dX0_optionAt_55 3 rfl ?_
          refine V.iload dX0_optionAt_57 4 rfl ?_
          refine V.callV (M' := mX0_hoursFor) (As := [vI a_2.1, vI x5]) (ψ := (phP a_2.2)) dX0_optionAt_59 ml_X0_83 mfX0_hoursFor rfl ⟨by decide, by decide⟩ ⟨by decide, by decide⟩ (enc_at rfl sh0_2) rfl (Nat.le_of_ble_eq_true rfl) rfl (kX0_hoursFor l G F a_2.1 x5 a_2.2) (fun a_5 => ?_)
          show V l G mX0_optionAt none phI _ 62 [(0, vR (0, 2)), (1, vI x1), (3, vI x3), (4, vI a_2.1), (5, vI x5)] [vI a_5, vI (a_2.2.1 (0, 10) (a_2.1 / 2).toNatClampNeg), vI (a_2.1 / 2), vR (0, 10)] (enc a_2.2) 0 0
          refine V.isub dX0_optionAt_62 ?_
          refine V.sis dX0_optionAt_63 h_4 ?_
          refine V.sst fun S_6 => ?_
          refine V.iload_n dX0_optionAt_64 2 rfl ?_
          refine V.aload_n dX0_optionAt_65 0 rfl ?_
          refine V.sgR 0 4 dX0_optionAt_66 gf_X0_27 sh0_2 rfl rfl ?_
          refine V.iload dX0_optionAt_69 3 rfl ?_
          refine V.sbind fun q_7 h_8 => ?_
          refine V.saa (t := 5) dX0_optionAt_71 rfl rfl h_8 ?_
          refine V.iload dX0_optionAt_72 4 rfl ?_
          refine V.chk fun h_9 => ?_
          refine V.sia dX0_optionAt_74 h_9 ?_
          refine V.isub dX0_optionAt_75 ?_
          refine V.lett fun x_10 => ?_
          refine V.istore_n (L' := [(0, vR (0, 2)), (1, vI x1), (3, vI x_10), (4, vI a_2.1), (5, vI x5)]) dX0_optionAt_76 (by decide) rfl rfl ?_
          exact (tjX0_optionAt_77 l G F x1 x_10 a_2.1 x5 S_6 (hX0_optionAt_13 F x1 n) ih)

theorem kX0_optionAt (l : Launch) (G : vg) (F : Nat) (x1 : Int32) (x2 : Int32) (S : vs) : Rt l G mX0_optionAt none phI [vR (0, 2), vI x1, vI x2] (enc S) (fX0_optionAt F x1 x2 S) := Rt.of rfl (Nat.le_of_ble_eq_true rfl) (by
  show V l G mX0_optionAt none phI _ 0 [(0, vR (0, 2)), (1, vI x1), (2, vI x2)] [] (enc S) 0 0
  unfold fX0_optionAt
  refine V.aload_n dX0_optionAt_0 0 rfl ?_
  refine V.iload_n dX0_optionAt_1 2 rfl ?_
  refine V.callV (M' := mX0_mostWith) (As := [vI x2]) (ψ := phI) dX0_optionAt_2 ml_X0_77 mfX0_mostWith rfl ⟨by decide, by decide⟩ ⟨by decide, by decide⟩ (enc_at rfl sh0_2) rfl (Nat.le_of_ble_eq_true rfl) rfl (kX0_mostWith l G F x2 S) (fun a_1 => ?_)
  show V l G mX0_optionAt none phI _ 5 [(0, vR (0, 2)), (1, vI x1), (2, vI x2)] [vI a_1.1] (enc a_1.2) 0 0
  refine V.istore_n (L' := [(0, vR (0, 2)), (1, vI x1), (2, vI x2), (3, vI a_1.1)]) dX0_optionAt_5 (by decide) rfl rfl ?_
  refine V.bipush (v := (-9)) dX0_optionAt_6 (by decide) ?_
  refine V.istore (L' := [(0, vR (0, 2)), (1, vI x1), (2, vI x2), (3, vI a_1.1), (4, vI (-9))]) dX0_optionAt_8 (by decide) rfl rfl ?_
  refine V.iconst (v := 0) dX0_optionAt_10 (by decide) ?_
  refine V.istore (L' := [(0, vR (0, 2)), (1, vI x1), (2, vI x2), (3, vI a_1.1), (4, vI (-9)), (5, vI 0)]) dX0_optionAt_11 (by decide) rfl rfl ?_
  exact V.lsub [0, 1, 3, 4, 5] rfl (thX0_optionAt_13 l G F x1 F a_1.1 (-9) 0 a_1.2))

abbrev mX1_isFull : vmt := (yX1_isFull, cX1_isFull, 1, (some .boolean), { frames := 0, cells := 0, slots := 0, locals := 0 })
theorem mfX1_isFull : mfV mX1_isFull 0 := ⟨im_X1_isFull, se_X1_isFull, ini_X1, co_X1_isFull, by decide, by decide, by decide +kernel⟩
def fX1_isFull (F : Nat) (S : vs) : Option Int32 := if (S.1 (0, 4) 1) < 7 then some 0 else some 1
theorem kX1_isFull (l : Launch) (G : vg) (F : Nat) (S : vs) : Rt l G mX1_isFull none (phP S) [vR (0, 4)] (enc S) (fX1_isFull F S) := Rt.of rfl (Nat.le_of_ble_eq_true rfl) (by
  show V l G mX1_isFull none (phP S) _ 0 [(0, vR (0, 4))] [] (enc S) 0 0
  unfold fX1_isFull
  refine V.aload_n dX1_isFull_0 0 rfl ?_
  refine V.sgI 1 1 dX1_isFull_1 gf_X1_15 sh0_4 rfl rfl ?_
  refine V.bipush (v := 7) dX1_isFull_4 (by decide) ?_
  refine V.icmp_lt 13 dX1_isFull_6 (by decide) ?_ ?_
  · refine V.iconst (v := 0) dX1_isFull_13 (by decide) ?_
    exact V.zret rfl dX1_isFull_14 rfl (zb_n rfl) (by decide) (by decide)
  · refine V.iconst (v := 1) dX1_isFull_9 (by decide) ?_
    refine V.goto 14 dX1_isFull_10 (by decide) ?_
    exact V.zret rfl dX1_isFull_14 rfl (zb_n rfl) (by decide) (by decide))

abbrev mX1_add : vmt := (yX1_add, cX1_add, 3, (some .int), { frames := 0, cells := 0, slots := 0, locals := 0 })
theorem mfX1_add : mfV mX1_add 2 := ⟨im_X1_add, se_X1_add, ini_X1, co_X1_add, by decide, by decide, by decide +kernel⟩
def fX1_add (F : Nat) (x1 : Int32) (x2 : Int32) (S : vs) : Option (Int32 × vs) := gd (inb (S.1 (0, 4) 1) (alen 0 S.2.2 (0, 18))) (stp (s2 S (0, 18) (S.1 (0, 4) 1).toNatClampNeg x1) (fun S_2 => gd (inb (S_2.1 (0, 4) 1) (alen 0 S_2.2.2 (0, 19))) (stp (s2 S_2 (0, 19) (S_2.1 (0, 4) 1).toNatClampNeg x2) (fun S_4 => stp (s2 S_4 (0, 4) 1 ((S_4.1 (0, 4) 1) + 1)) (fun S_5 => some ((S_5.1 (0, 4) 1) - 1, S_5))))))
theorem kX1_add (l : Launch) (G : vg) (F : Nat) (x1 : Int32) (x2 : Int32) (S : vs) : Rt l G mX1_add none phI [vR (0, 4), vI x1, vI x2] (enc S) (fX1_add F x1 x2 S) := Rt.of rfl (Nat.le_of_ble_eq_true rfl) (by
  show V l G mX1_add none phI _ 0 [(0, vR (0, 4)), (1, vI x1), (2, vI x2)] [] (enc S) 0 0
  unfold fX1_add
  refine V.aload_n dX1_add_0 0 rfl ?_
  refine V.sgR 1 2 dX1_add_1 gf_X1_18 sh0_4 rfl rfl ?_
  refine V.aload_n dX1_add_4 0 rfl ?_
  refine V.sgI 1 1 dX1_add_5 gf_X1_15 sh0_4 rfl rfl ?_
  refine V.iload_n dX1_add_8 1 rfl ?_
  refine V.chk fun h_1 => ?_
  refine V.sis dX1_add_9 h_1 ?_
  refine V.sst fun S_2 => ?_
  refine V.aload_n dX1_add_10 0 rfl ?_
  refine V.sgR 1 3 dX1_add_11 gf_X1_22 sh0_4 rfl rfl ?_
  refine V.aload_n dX1_add_14 0 rfl ?_
  refine V.sgI 1 1 dX1_add_15 gf_X1_15 sh0_4 rfl rfl ?_
  refine V.iload_n dX1_add_18 2 rfl ?_
  refine V.chk fun h_3 => ?_
  refine V.sis dX1_add_19 h_3 ?_
  refine V.sst fun S_4 => ?_
  refine V.aload_n dX1_add_20 0 rfl ?_
  refine V.dup dX1_add_21 rfl ?_
  refine V.sgI 1 1 dX1_add_22 gf_X1_15 sh0_4 rfl rfl ?_
  refine V.iconst (v := 1) dX1_add_25 (by decide) ?_
  refine V.iadd dX1_add_26 ?_
  refine V.spI 1 1 dX1_add_27 pf_X1_15 sh0_4 rfl rfl ?_
  refine V.sst fun S_5 => ?_
  refine V.aload_n dX1_add_30 0 rfl ?_
  refine V.sgI 1 1 dX1_add_31 gf_X1_15 sh0_4 rfl rfl ?_
  refine V.iconst (v := 1) dX1_add_34 (by decide) ?_
  refine V.isub dX1_add_35 ?_
  exact V.iret rfl dX1_add_36 rfl (by decide) (by decide))

abbrev mX1_clear : vmt := (yX1_clear, cX1_clear, 2, (some .int), { frames := 0, cells := 0, slots := 0, locals := 0 })
theorem mfX1_clear : mfV mX1_clear 0 := ⟨im_X1_clear, se_X1_clear, ini_X1, co_X1_clear, by decide, by decide, by decide +kernel⟩
def fX1_clear (F : Nat) (S : vs) : Option (Int32 × vs) := ltt (S.1 (0, 4) 1) (fun x_1 => stp (s2 S (0, 4) 1 0) (fun S_2 => some (x_1, S_2)))
theorem kX1_clear (l : Launch) (G : vg) (F : Nat) (S : vs) : Rt l G mX1_clear none phI [vR (0, 4)] (enc S) (fX1_clear F S) := Rt.of rfl (Nat.le_of_ble_eq_true rfl) (by
  show V l G mX1_clear none phI _ 0 [(0, vR (0, 4))] [] (enc S) 0 0
  unfold fX1_clear
  refine V.aload_n dX1_clear_0 0 rfl ?_
  refine V.sgI 1 1 dX1_clear_1 gf_X1_15 sh0_4 rfl rfl ?_
  refine V.lett fun x_1 => ?_
  refine V.istore_n (L' := [(0, vR (0, 4)), (1, vI x_1)]) dX1_clear_4 (by decide) rfl rfl ?_
  refine V.aload_n dX1_clear_5 0 rfl ?_
  refine V.iconst (v := 0) dX1_clear_6 (by decide) ?_
  refine V.spI 1 1 dX1_clear_7 pf_X1_15 sh0_4 rfl rfl ?_
  refine V.sst fun S_2 => ?_
  refine V.iload_n dX1_clear_10 1 rfl ?_
  exact V.iret rfl dX1_clear_11 rfl (by decide) (by decide))

abbrev mX7_holds : vmt := (yX7_holds, cX7_holds, 2, (some .boolean), { frames := 0, cells := 0, slots := 0, locals := 0 })
theorem mfX7_holds : mfS mX7_holds 2 := ⟨sm_X7_holds, ini_X7, co_X7_holds, by decide, by decide, by decide +kernel⟩
def fX7_holds (F : Nat) (x0 : Int32) (x1 : Int32) (S : vs) : Option Int32 := if (x0 &&& ((1 : Int32) <<< (x1 &&& 31))) = 0 then some 0 else some 1
theorem kX7_holds (l : Launch) (G : vg) (F : Nat) (x0 : Int32) (x1 : Int32) (S : vs) : Rt l G mX7_holds none (phP S) [vI x0, vI x1] (enc S) (fX7_holds F x0 x1 S) := Rt.of rfl (Nat.le_of_ble_eq_true rfl) (by
  show V l G mX7_holds none (phP S) _ 0 [(0, vI x0), (1, vI x1)] [] (enc S) 0 0
  unfold fX7_holds
  refine V.iload_n dX7_holds_0 0 rfl ?_
  refine V.iconst (v := 1) dX7_holds_1 (by decide) ?_
  refine V.iload_n dX7_holds_2 1 rfl ?_
  refine V.ishl dX7_holds_3 ?_
  refine V.iand dX7_holds_4 ?_
  refine V.if_eq 12 dX7_holds_5 (by decide) ?_ ?_
  · refine V.iconst (v := 0) dX7_holds_12 (by decide) ?_
    exact V.zret rfl dX7_holds_13 rfl (zb_n rfl) (by decide) (by decide)
  · refine V.iconst (v := 1) dX7_holds_8 (by decide) ?_
    refine V.goto 13 dX7_holds_9 (by decide) ?_
    exact V.zret rfl dX7_holds_13 rfl (zb_n rfl) (by decide) (by decide))

abbrev mX1_gap : vmt := (yX1_gap, cX1_gap, 3, (some .int), { frames := 1, cells := 0, slots := 0, locals := 21 })
theorem mfX1_gap : mfV mX1_gap 2 := ⟨im_X1_gap, se_X1_gap, ini_X1, co_X1_gap, by decide, by decide, by decide +kernel⟩
def fX1_gap (F : Nat) (x1 : Int32) (x2 : Int32) (S : vs) : Option Int32 := gd (inb x1 (alen 0 S.2.2 (0, 19))) (gd (inb x2 (alen 0 S.2.2 (0, 18))) (some (if 0 ≤ ((S.1 (0, 19) x1.toNatClampNeg) - (S.1 (0, 18) x2.toNatClampNeg)) then ((S.1 (0, 19) x1.toNatClampNeg) - (S.1 (0, 18) x2.toNatClampNeg)) else 0 - ((S.1 (0, 19) x1.toNatClampNeg) - (S.1 (0, 18) x2.toNatClampNeg)))))
theorem kX1_gap (l : Launch) (G : vg) (F : Nat) (x1 : Int32) (x2 : Int32) (S : vs) : Rt l G mX1_gap none (phP S) [vR (0, 4), vI x1, vI x2] (enc S) (fX1_gap F x1 x2 S) := Rt.of rfl (Nat.le_of_ble_eq_true rfl) (by
  show V l G mX1_gap none (phP S) _ 0 [(0, vR (0, 4)), (1, vI x1), (2, vI x2)] [] (enc S) 0 0
  unfold fX1_gap
  refine V.aload_n dX1_gap_0 0 rfl ?_
  refine V.sgR 1 3 dX1_gap_1 gf_X1_22 sh0_4 rfl rfl ?_
  refine V.iload_n dX1_gap_4 1 rfl ?_
  refine V.chk fun h_1 => ?_
  refine V.sia dX1_gap_5 h_1 ?_
  refine V.aload_n dX1_gap_6 0 rfl ?_
  refine V.sgR 1 2 dX1_gap_7 gf_X1_18 sh0_4 rfl rfl ?_
  refine V.iload_n dX1_gap_10 2 rfl ?_
  refine V.chk fun h_2 => ?_
  refine V.sia dX1_gap_11 h_2 ?_
  refine V.isub dX1_gap_12 ?_
  refine V.mabs dX1_gap_13 ml_X1_60 (by decide) (Nat.le_of_ble_eq_true rfl) (by decide) (by decide) ?_
  exact V.iret rfl dX1_gap_16 rfl (by decide) (by decide))

abbrev mX1_canFollow : vmt := (yX1_canFollow, cX1_canFollow, 4, (some .boolean), { frames := 2, cells := 0, slots := 0, locals := 43 })
theorem mfX1_canFollow : mfV mX1_canFollow 3 := ⟨im_X1_canFollow, se_X1_canFollow, ini_X1, co_X1_canFollow, by decide, by decide, by decide +kernel⟩
def fX1_canFollow (F : Nat) (x1 : Int32) (x2 : Int32) (x3 : Int32) (S : vs) : Option Int32 := (fX7_holds F x1 x3 S).bind (fun a_1 => if a_1 = 0 then (fX1_gap F x2 x3 S).bind (fun a_2 => if (S.1 (0, 4) 0) < a_2 then some 0 else some 1) else some 0)
theorem kX1_canFollow (l : Launch) (G : vg) (F : Nat) (x1 : Int32) (x2 : Int32) (x3 : Int32) (S : vs) : Rt l G mX1_canFollow none (phP S) [vR (0, 4), vI x1, vI x2, vI x3] (enc S) (fX1_canFollow F x1 x2 x3 S) := Rt.of rfl (Nat.le_of_ble_eq_true rfl) (by
  show V l G mX1_canFollow none (phP S) _ 0 [(0, vR (0, 4)), (1, vI x1), (2, vI x2), (3, vI x3)] [] (enc S) 0 0
  unfold fX1_canFollow
  refine V.iload_n dX1_canFollow_0 1 rfl ?_
  refine V.iload_n dX1_canFollow_1 3 rfl ?_
  refine V.callN (M' := mX7_holds) (As := [vI x1, vI x3]) (ψ := (phP S)) rfl rfl dX1_canFollow_2 mfX7_holds rfl ⟨by decide, by decide⟩ ⟨by decide, by decide⟩ (Nat.le_of_ble_eq_true rfl) rfl (kX7_holds l G F x1 x3 S) (fun a_1 => ?_)
  show V l G mX1_canFollow none (phP S) _ 5 [(0, vR (0, 4)), (1, vI x1), (2, vI x2), (3, vI x3)] [vI a_1] (enc S) 0 0
  refine V.if_ne 25 dX1_canFollow_5 (by decide) ?_ ?_
  · refine V.iconst (v := 0) dX1_canFollow_25 (by decide) ?_
    exact V.zret rfl dX1_canFollow_26 rfl (zb_n rfl) (by decide) (by decide)
  · refine V.aload_n dX1_canFollow_8 0 rfl ?_
    refine V.iload_n dX1_canFollow_9 2 rfl ?_
    refine V.iload_n dX1_canFollow_10 3 rfl ?_
    refine V.callV (M' := mX1_gap) (As := [vI x2, vI x3]) (ψ := (phP S)) dX1_canFollow_11 ml_X1_49 mfX1_gap rfl ⟨by decide, by decide⟩ ⟨by decide, by decide⟩ (enc_at rfl sh0_4) rfl (Nat.le_of_ble_eq_true rfl) rfl (kX1_gap l G F x2 x3 S) (fun a_2 => ?_)
    show V l G mX1_canFollow none (phP S) _ 14 [(0, vR (0, 4)), (1, vI x1), (2, vI x2), (3, vI x3)] [vI a_2] (enc S) 0 0
    refine V.aload_n dX1_canFollow_14 0 rfl ?_
    refine V.sgI 1 0 dX1_canFollow_15 gf_X1_11 sh0_4 rfl rfl ?_
    refine V.icmp_gt 25 dX1_canFollow_18 (by decide) ?_ ?_
    · refine V.iconst (v := 0) dX1_canFollow_25 (by decide) ?_
      exact V.zret rfl dX1_canFollow_26 rfl (zb_n rfl) (by decide) (by decide)
    · refine V.iconst (v := 1) dX1_canFollow_21 (by decide) ?_
      refine V.goto 26 dX1_canFollow_22 (by decide) ?_
      exact V.zret rfl dX1_canFollow_26 rfl (zb_n rfl) (by decide) (by decide))

abbrev mX1_cell : vmt := (yX1_cell, cX1_cell, 2, (some .int), { frames := 0, cells := 0, slots := 0, locals := 0 })
theorem mfX1_cell : mfS mX1_cell 2 := ⟨sm_X1_cell, ini_X1, co_X1_cell, by decide, by decide, by decide +kernel⟩
def fX1_cell (F : Nat) (x0 : Int32) (x1 : Int32) (S : vs) : Option Int32 := some ((x0 * 7) + x1)
theorem kX1_cell (l : Launch) (G : vg) (F : Nat) (x0 : Int32) (x1 : Int32) (S : vs) : Rt l G mX1_cell none (phP S) [vI x0, vI x1] (enc S) (fX1_cell F x0 x1 S) := Rt.of rfl (Nat.le_of_ble_eq_true rfl) (by
  show V l G mX1_cell none (phP S) _ 0 [(0, vI x0), (1, vI x1)] [] (enc S) 0 0
  unfold fX1_cell
  refine V.iload_n dX1_cell_0 0 rfl ?_
  refine V.bipush (v := 7) dX1_cell_1 (by decide) ?_
  refine V.imul dX1_cell_3 ?_
  refine V.iload_n dX1_cell_4 1 rfl ?_
  refine V.iadd dX1_cell_5 ?_
  exact V.iret rfl dX1_cell_6 rfl (by decide) (by decide))

