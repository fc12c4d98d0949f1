abbrev mX2_init : vmt := (yX2_init, cX2_init, 5, none, { frames := 1, cells := 0, slots := 0, locals := 20 })
theorem mfX2_init : mfI mX2_init 4 := ⟨im_X2_init, rfl, rfl, ini_X2, co_X2_init, by decide, by decide, by decide +kernel⟩
def fX2_init (F : Nat) (n0 : Nat) (x1 : Int32) (x2 : Int32) (x3 : Int32) (x4 : Int32) (S : vs) : Option vs := gd (alv S.2.2 (1, n0)) (stp (s2 S (1, n0) 0 x1) (fun S_2 => gd (alv S_2.2.2 (1, n0)) (stp (s2 S_2 (1, n0) 3 x2) (fun S_4 => gd (alv S_4.2.2 (1, n0)) (stp (s2 S_4 (1, n0) 1 x3) (fun S_6 => gd (alv S_6.2.2 (1, n0)) (stp (s2 S_6 (1, n0) 2 x4) (fun S_8 => gd (alv S_8.2.2 (1, n0)) (stp (s2 S_8 (1, n0) 4 10) (fun S_10 => gd (alv S_10.2.2 (1, n0)) (stp (s2 S_10 (1, n0) 5 5) (fun S_12 => gd (alv S_12.2.2 (1, n0)) (stp (s2 S_12 (1, n0) 6 0) (fun S_14 => gd (alv S_14.2.2 (1, n0)) (stp (s2 S_14 (1, n0) 7 (-9)) (fun S_16 => gd (alv S_16.2.2 (1, n0)) (stp (s2 S_16 (1, n0) 8 (-9)) (fun S_18 => gd (alv S_18.2.2 (1, n0)) (stp (s2 S_18 (1, n0) 9 0) (fun S_20 => gd (alv S_20.2.2 (1, n0)) (stp (s2 S_20 (1, n0) 10 0) (fun S_22 => some S_22))))))))))))))))))))))
theorem kX2_init (l : Launch) (G : vg) (F : Nat) (n0 : Nat) (x1 : Int32) (x2 : Int32) (x3 : Int32) (x4 : Int32) (S : vs) : Rt l G mX2_init none phV [vR (1, n0), vI x1, vI x2, vI x3, vI x4] (enc S) (fX2_init F n0 x1 x2 x3 x4 S) := Rt.of rfl (Nat.le_of_ble_eq_true rfl) (by
  show V l G mX2_init none phV _ 0 [(0, vR (1, n0)), (1, vI x1), (2, vI x2), (3, vI x3), (4, vI x4)] [] (enc S) 0 0
  unfold fX2_init
  refine V.aload_n dX2_init_0 0 rfl ?_
  refine V.oinit dX2_init_1 ml_X2_3 (by decide) (Nat.le_of_ble_eq_true rfl) ?_
  refine V.aload_n dX2_init_4 0 rfl ?_
  refine V.iload_n dX2_init_5 1 rfl ?_
  refine V.chk fun h_1 => ?_
  refine V.spX 2 0 dX2_init_6 pf_X2_9 (fun _ => ⟨rfl, _, _, rfl⟩) rfl rfl h_1 rfl rfl ?_
  refine V.sst fun S_2 => ?_
  refine V.aload_n dX2_init_9 0 rfl ?_
  refine V.iload_n dX2_init_10 2 rfl ?_
  refine V.chk fun h_3 => ?_
  refine V.spI 2 3 dX2_init_11 pf_X2_15 rfl rfl h_3 ?_
  refine V.sst fun S_4 => ?_
  refine V.aload_n dX2_init_14 0 rfl ?_
  refine V.iload_n dX2_init_15 3 rfl ?_
  refine V.chk fun h_5 => ?_
  refine V.spX 2 1 dX2_init_16 pf_X2_18 (fun _ => ⟨rfl, _, _, rfl⟩) rfl rfl h_5 rfl rfl ?_
  refine V.sst fun S_6 => ?_
  refine V.aload_n dX2_init_19 0 rfl ?_
  refine V.iload dX2_init_20 4 rfl ?_
  refine V.chk fun h_7 => ?_
  refine V.spX 2 2 dX2_init_22 pf_X2_21 (fun _ => ⟨rfl, _, _, rfl⟩) rfl rfl h_7 rfl rfl ?_
  refine V.sst fun S_8 => ?_
  refine V.aload_n dX2_init_25 0 rfl ?_
  refine V.bipush (v := 10) dX2_init_26 (by decide) ?_
  refine V.chk fun h_9 => ?_
  refine V.spI 2 4 dX2_init_28 pf_X2_24 rfl rfl h_9 ?_
  refine V.sst fun S_10 => ?_
  refine V.aload_n dX2_init_31 0 rfl ?_
  refine V.iconst (v := 5) dX2_init_32 (by decide) ?_
  refine V.chk fun h_11 => ?_
  refine V.spI 2 5 dX2_init_33 pf_X2_27 rfl rfl h_11 ?_
  refine V.sst fun S_12 => ?_
  refine V.aload_n dX2_init_36 0 rfl ?_
  refine V.iconst (v := 0) dX2_init_37 (by decide) ?_
  refine V.chk fun h_13 => ?_
  refine V.spI 2 6 dX2_init_38 pf_X2_30 rfl rfl h_13 ?_
  refine V.sst fun S_14 => ?_
  refine V.aload_n dX2_init_41 0 rfl ?_
  refine V.bipush (v := (-9)) dX2_init_42 (by decide) ?_
  refine V.chk fun h_15 => ?_
  refine V.spI 2 7 dX2_init_44 pf_X2_33 rfl rfl h_15 ?_
  refine V.sst fun S_16 => ?_
  refine V.aload_n dX2_init_47 0 rfl ?_
  refine V.bipush (v := (-9)) dX2_init_48 (by decide) ?_
  refine V.chk fun h_17 => ?_
  refine V.spI 2 8 dX2_init_50 pf_X2_36 rfl rfl h_17 ?_
  refine V.sst fun S_18 => ?_
  refine V.aload_n dX2_init_53 0 rfl ?_
  refine V.iconst (v := 0) dX2_init_54 (by decide) ?_
  refine V.chk fun h_19 => ?_
  refine V.spI 2 9 dX2_init_55 pf_X2_39 rfl rfl h_19 ?_
  refine V.sst fun S_20 => ?_
  refine V.aload_n dX2_init_58 0 rfl ?_
  refine V.iconst (v := 0) dX2_init_59 (by decide) ?_
  refine V.chk fun h_21 => ?_
  refine V.spI 2 10 dX2_init_60 pf_X2_42 rfl rfl h_21 ?_
  refine V.sst fun S_22 => ?_
  exact V.vret rfl dX2_init_63 rfl (by decide) (by decide))

abbrev mX3_init : vmt := (yX3_init, cX3_init, 5, none, { frames := 1, cells := 0, slots := 0, locals := 20 })
theorem mfX3_init : mfI mX3_init 4 := ⟨im_X3_init, rfl, rfl, ini_X3, co_X3_init, by decide, by decide, by decide +kernel⟩
def fX3_init (F : Nat) (n0 : Nat) (x1 : Int32) (x2 : Int32) (x3 : Int32) (x4 : Int32) (S : vs) : Option vs := gd (alv S.2.2 (2, n0)) (stp (s2 S (2, n0) 0 x1) (fun S_2 => gd (alv S_2.2.2 (2, n0)) (stp (s2 S_2 (2, n0) 1 x2) (fun S_4 => gd (alv S_4.2.2 (2, n0)) (stp (s2 S_4 (2, n0) 2 x3) (fun S_6 => gd (alv S_6.2.2 (2, n0)) (stp (s2 S_6 (2, n0) 3 x4) (fun S_8 => gd (alv S_8.2.2 (2, n0)) (stp (s2 S_8 (2, n0) 4 1) (fun S_10 => some S_10))))))))))
theorem kX3_init (l : Launch) (G : vg) (F : Nat) (n0 : Nat) (x1 : Int32) (x2 : Int32) (x3 : Int32) (x4 : Int32) (S : vs) : Rt l G mX3_init none phV [vR (2, n0), vI x1, vI x2, vI x3, vI x4] (enc S) (fX3_init F n0 x1 x2 x3 x4 S) := Rt.of rfl (Nat.le_of_ble_eq_true rfl) (by
  show V l G mX3_init none phV _ 0 [(0, vR (2, n0)), (1, vI x1), (2, vI x2), (3, vI x3), (4, vI x4)] [] (enc S) 0 0
  unfold fX3_init
  refine V.aload_n dX3_init_0 0 rfl ?_
  refine V.oinit dX3_init_1 ml_X3_1 (by decide) (Nat.le_of_ble_eq_true rfl) ?_
  refine V.aload_n dX3_init_4 0 rfl ?_
  refine V.iload_n dX3_init_5 1 rfl ?_
  refine V.chk fun h_1 => ?_
  refine V.spX 3 0 dX3_init_6 pf_X3_7 (fun _ => ⟨rfl, _, _, rfl⟩) rfl rfl h_1 rfl rfl ?_
  refine V.sst fun S_2 => ?_
  refine V.aload_n dX3_init_9 0 rfl ?_
  refine V.iload_n dX3_init_10 2 rfl ?_
  refine V.chk fun h_3 => ?_
  refine V.spX 3 1 dX3_init_11 pf_X3_13 (fun _ => ⟨rfl, _, _, rfl⟩) rfl rfl h_3 rfl rfl ?_
  refine V.sst fun S_4 => ?_
  refine V.aload_n dX3_init_14 0 rfl ?_
  refine V.iload_n dX3_init_15 3 rfl ?_
  refine V.chk fun h_5 => ?_
  refine V.spX 3 2 dX3_init_16 pf_X3_16 (fun _ => ⟨rfl, _, _, rfl⟩) rfl rfl h_5 rfl rfl ?_
  refine V.sst fun S_6 => ?_
  refine V.aload_n dX3_init_19 0 rfl ?_
  refine V.iload dX3_init_20 4 rfl ?_
  refine V.chk fun h_7 => ?_
  refine V.spX 3 3 dX3_init_22 pf_X3_19 (fun _ => ⟨rfl, _, _, rfl⟩) rfl rfl h_7 rfl rfl ?_
  refine V.sst fun S_8 => ?_
  refine V.aload_n dX3_init_25 0 rfl ?_
  refine V.iconst (v := 1) dX3_init_26 (by decide) ?_
  refine V.chk fun h_9 => ?_
  refine V.spZ 3 4 dX3_init_27 pf_X3_22 rfl rfl h_9 rfl ?_
  refine V.sst fun S_10 => ?_
  exact V.vret rfl dX3_init_30 rfl (by decide) (by decide))

abbrev mX5_init : vmt := (yX5_init, cX5_init, 6, none, { frames := 1, cells := 0, slots := 0, locals := 20 })
theorem mfX5_init : mfI mX5_init 5 := ⟨im_X5_init, rfl, rfl, ini_X5, co_X5_init, by decide, by decide, by decide +kernel⟩
def fX5_init (F : Nat) (n0 : Nat) (x1 : Int32) (x2 : Int32) (x3 : Int32) (x4 : Int32) (x5 : Int32) (S : vs) : Option vs := gd (alv S.2.2 (3, n0)) (stp (s2 S (3, n0) 0 x1) (fun S_2 => gd (alv S_2.2.2 (3, n0)) (stp (s2 S_2 (3, n0) 1 x2) (fun S_4 => gd (alv S_4.2.2 (3, n0)) (stp (s2 S_4 (3, n0) 2 x3) (fun S_6 => gd (alv S_6.2.2 (3, n0)) (stp (s2 S_6 (3, n0) 3 x4) (fun S_8 => gd (alv S_8.2.2 (3, n0)) (gd (zb x5) (stp (s2 S_8 (3, n0) 4 x5) (fun S_11 => some S_11)))))))))))
theorem kX5_init (l : Launch) (G : vg) (F : Nat) (n0 : Nat) (x1 : Int32) (x2 : Int32) (x3 : Int32) (x4 : Int32) (x5 : Int32) (S : vs) : Rt l G mX5_init none phV [vR (3, n0), vI x1, vI x2, vI x3, vI x4, vI x5] (enc S) (fX5_init F n0 x1 x2 x3 x4 x5 S) := Rt.of rfl (Nat.le_of_ble_eq_true rfl) (by
  show V l G mX5_init none phV _ 0 [(0, vR (3, n0)), (1, vI x1), (2, vI x2), (3, vI x3), (4, vI x4), (5, vI x5)] [] (enc S) 0 0
  unfold fX5_init
  refine V.aload_n dX5_init_0 0 rfl ?_
  refine V.oinit dX5_init_1 ml_X5_3 (by decide) (Nat.le_of_ble_eq_true rfl) ?_
  refine V.aload_n dX5_init_4 0 rfl ?_
  refine V.iload_n dX5_init_5 1 rfl ?_
  refine V.chk fun h_1 => ?_
  refine V.spX 5 0 dX5_init_6 pf_X5_9 (fun _ => ⟨rfl, _, _, rfl⟩) rfl rfl h_1 rfl rfl ?_
  refine V.sst fun S_2 => ?_
  refine V.aload_n dX5_init_9 0 rfl ?_
  refine V.iload_n dX5_init_10 2 rfl ?_
  refine V.chk fun h_3 => ?_
  refine V.spX 5 1 dX5_init_11 pf_X5_15 (fun _ => ⟨rfl, _, _, rfl⟩) rfl rfl h_3 rfl rfl ?_
  refine V.sst fun S_4 => ?_
  refine V.aload_n dX5_init_14 0 rfl ?_
  refine V.iload_n dX5_init_15 3 rfl ?_
  refine V.chk fun h_5 => ?_
  refine V.spX 5 2 dX5_init_16 pf_X5_18 (fun _ => ⟨rfl, _, _, rfl⟩) rfl rfl h_5 rfl rfl ?_
  refine V.sst fun S_6 => ?_
  refine V.aload_n dX5_init_19 0 rfl ?_
  refine V.iload dX5_init_20 4 rfl ?_
  refine V.chk fun h_7 => ?_
  refine V.spX 5 3 dX5_init_22 pf_X5_21 (fun _ => ⟨rfl, _, _, rfl⟩) rfl rfl h_7 rfl rfl ?_
  refine V.sst fun S_8 => ?_
  refine V.aload_n dX5_init_25 0 rfl ?_
  refine V.iload dX5_init_26 5 rfl ?_
  refine V.chk fun h_9 => ?_
  refine V.chk fun h_10 => ?_
  refine V.spX 5 4 dX5_init_28 pf_X5_24 (fun _ => ⟨rfl, _, _, rfl⟩) rfl rfl h_9 (zb_n h_10) (zb_f h_10) ?_
  refine V.sst fun S_11 => ?_
  exact V.vret rfl dX5_init_31 rfl (by decide) (by decide))

abbrev mX4_add : vmt := (yX4_add, cX4_add, 2, (some .int), { frames := 0, cells := 0, slots := 0, locals := 0 })
theorem mfX4_add : mfV mX4_add 1 := ⟨im_X4_add, se_X4_add, ini_X4, co_X4_add, by decide, by decide, by decide +kernel⟩
def fX4_add (F : Nat) (n1 : Nat) (S : vs) : Option (Int32 × vs) := gd (inb (S.1 (0, 3) 1) 60) (gd (alv S.2.2 (2, n1)) (stp (r2 S (0, 17) (S.1 (0, 3) 1).toNatClampNeg n1) (fun S_3 => stp (s2 S_3 (0, 3) 1 ((S_3.1 (0, 3) 1) + 1)) (fun S_4 => some ((S_4.1 (0, 3) 1) - 1, S_4)))))
theorem kX4_add (l : Launch) (G : vg) (F : Nat) (n1 : Nat) (S : vs) : Rt l G mX4_add none phI [vR (0, 3), vR (2, n1)] (enc S) (fX4_add F n1 S) := Rt.of rfl (Nat.le_of_ble_eq_true rfl) (by
  show V l G mX4_add none phI _ 0 [(0, vR (0, 3)), (1, vR (2, n1))] [] (enc S) 0 0
  unfold fX4_add
  refine V.aload_n dX4_add_0 0 rfl ?_
  refine V.sgR 4 0 dX4_add_1 gf_X4_13 sh0_3 rfl rfl ?_
  refine V.aload_n dX4_add_4 0 rfl ?_
  refine V.sgI 4 1 dX4_add_5 gf_X4_17 sh0_3 rfl rfl ?_
  refine V.aload_n dX4_add_8 1 rfl ?_
  refine V.chk fun h_1 => ?_
  refine V.chk fun h_2 => ?_
  refine V.sas (t := 3) (q := n1) dX4_add_9 rfl rfl rfl sh0_17 h_1 h_2 rfl ?_
  refine V.sst fun S_3 => ?_
  refine V.aload_n dX4_add_10 0 rfl ?_
  refine V.dup dX4_add_11 rfl ?_
  refine V.sgI 4 1 dX4_add_12 gf_X4_17 sh0_3 rfl rfl ?_
  refine V.iconst (v := 1) dX4_add_15 (by decide) ?_
  refine V.iadd dX4_add_16 ?_
  refine V.spI 4 1 dX4_add_17 pf_X4_17 sh0_3 rfl rfl ?_
  refine V.sst fun S_4 => ?_
  refine V.aload_n dX4_add_20 0 rfl ?_
  refine V.sgI 4 1 dX4_add_21 gf_X4_17 sh0_3 rfl rfl ?_
  refine V.iconst (v := 1) dX4_add_24 (by decide) ?_
  refine V.isub dX4_add_25 ?_
  exact V.iret rfl dX4_add_26 rfl (by decide) (by decide))

abbrev mX6_add : vmt := (yX6_add, cX6_add, 6, (some .int), { frames := 2, cells := 1, slots := 5, locals := 45 })
theorem mfX6_add : mfV mX6_add 4 := ⟨im_X6_add, se_X6_add, ini_X6, co_X6_add, by decide, by decide, by decide +kernel⟩
def jX6_add_49 (F : Nat) (x1 : Int32) (x2 : Int32) (x3 : Int32) (x4 : Int32) (x5 : Int32) (S : vs) : Option (Int32 × vs) := stp (sn3 S) (fun S_2 => (fX5_init F S.2.2.2.2 (S_2.1 (0, 5) 1) x1 x2 x3 x4 S_2).bind (fun a_3 => gd (inb x5 60) (gd (alv a_3.2.2 (3, S.2.2.2.2)) (stp (r2 a_3 (0, 22) x5.toNatClampNeg S.2.2.2.2) (fun S_6 => stp (s2 S_6 (0, 5) 1 ((S_6.1 (0, 5) 1) + 1)) (fun S_7 => some ((S_7.1 (0, 5) 1) - 1, S_7)))))))

def hX6_add_6 (F : Nat) (x1 : Int32) (x2 : Int32) (x3 : Int32) (x4 : Int32) : Nat → Int32 → vs → Option (Int32 × vs)
  | 0, _, _ => none
  | n + 1, x5, S => if x5 ≤ 0 then jX6_add_49 F x1 x2 x3 x4 x5 S else (rget 4 S (0, 22) (x5 - 1)).bind (fun q_8 => gd (alv S.2.2 (3, q_8)) (if (S.1 (3, q_8) 3) ≤ x3 then jX6_add_49 F x1 x2 x3 x4 x5 S else gd (inb x5 60) (stp (r2 S (0, 22) x5.toNatClampNeg q_8) (fun S_12 => ltt (x5 + (-1)) (fun x_13 => hX6_add_6 F x1 x2 x3 x4 n x_13 S_12)))))

def fX6_add (F : Nat) (x1 : Int32) (x2 : Int32) (x3 : Int32) (x4 : Int32) (S : vs) : Option (Int32 × vs) := ltt (S.1 (0, 5) 1) (fun x_1 => hX6_add_6 F x1 x2 x3 x4 F x_1 S)
theorem tjX6_add_49 (l : Launch) (G : vg) (F : Nat) (x1 : Int32) (x2 : Int32) (x3 : Int32) (x4 : Int32) (x5 : Int32) (S : vs) : V l G mX6_add oF phI (jX6_add_49 F x1 x2 x3 x4 x5 S) 49 [(0, vR (0, 5)), (1, vI x1), (2, vI x2), (3, vI x3), (4, vI x4), (5, vI x5)] [] (enc S) 0 0 := by
  unfold jX6_add_49
  refine V.aload_n dX6_add_49 0 rfl ?_
  refine V.sgR 6 0 dX6_add_50 gf_X6_13 sh0_5 rfl rfl ?_
  refine V.iload dX6_add_53 5 rfl ?_
  refine V.snew3 dX6_add_55 cl_X6_11 rfl rfl (by decide) (by decide) ?_
  refine V.sst fun S_2 => ?_
  refine V.dup dX6_add_58 rfl ?_
  refine V.aload_n dX6_add_59 0 rfl ?_
  refine V.sgI 6 1 dX6_add_60 gf_X6_17 sh0_5 rfl rfl ?_
  refine V.iload_n dX6_add_63 1 rfl ?_
  refine V.iload_n dX6_add_64 2 rfl ?_
  refine V.iload_n dX6_add_65 3 rfl ?_
  refine V.iload dX6_add_66 4 rfl ?_
  refine V.callI (M' := mX5_init) (As := [vI (S_2.1 (0, 5) 1), vI x1, vI x2, vI x3, vI x4]) (ψ := phV) dX6_add_68 ml_X6_24 mfX5_init rfl ⟨by decide, by decide⟩ ⟨by decide, by decide⟩ (Nat.le_of_ble_eq_true rfl) rfl (kX5_init l G F S.2.2.2.2 (S_2.1 (0, 5) 1) x1 x2 x3 x4 S_2) (fun a_3 => ?_)
  show V l G mX6_add oF phI _ 71 [(0, vR (0, 5)), (1, vI x1), (2, vI x2), (3, vI x3), (4, vI x4), (5, vI x5)] [vR (3, S.2.2.2.2), vI x5, vR (0, 22)] (enc a_3) 1 5
  refine V.chk fun h_4 => ?_
  refine V.chk fun h_5 => ?_
  refine V.sas (t := 4) (q := S.2.2.2.2) dX6_add_71 rfl rfl rfl sh0_22 h_4 h_5 rfl ?_
  refine V.sst fun S_6 => ?_
  refine V.aload_n dX6_add_72 0 rfl ?_
  refine V.dup dX6_add_73 rfl ?_
  refine V.sgI 6 1 dX6_add_74 gf_X6_17 sh0_5 rfl rfl ?_
  refine V.iconst (v := 1) dX6_add_77 (by decide) ?_
  refine V.iadd dX6_add_78 ?_
  refine V.spI 6 1 dX6_add_79 pf_X6_17 sh0_5 rfl rfl ?_
  refine V.sst fun S_7 => ?_
  refine V.aload_n dX6_add_82 0 rfl ?_
  refine V.sgI 6 1 dX6_add_83 gf_X6_17 sh0_5 rfl rfl ?_
  refine V.iconst (v := 1) dX6_add_86 (by decide) ?_
  refine V.isub dX6_add_87 ?_
  exact V.iret rfl dX6_add_88 rfl (by decide) (by decide)

theorem thX6_add_6 (l : Launch) (G : vg) (F : Nat) (x1 : Int32) (x2 : Int32) (x3 : Int32) (x4 : Int32) : ∀ (n : Nat) (x5 : Int32) (S : vs), V l G mX6_add oF phI (hX6_add_6 F x1 x2 x3 x4 n x5 S) 6 [(0, vR (0, 5)), (1, vI x1), (2, vI x2), (3, vI x3), (4, vI x4), (5, vI x5)] [] (enc S) 0 0
  | 0, _, _ => V.nil
  | n + 1, x5, S => by
    have ih := thX6_add_6 l G F x1 x2 x3 x4 n
    rw [hX6_add_6]
    refine V.iload dX6_add_6 5 rfl ?_
    refine V.if_le 49 dX6_add_8 (by decide) ?_ ?_
    · exact (tjX6_add_49 l G F x1 x2 x3 x4 x5 S)
    · refine V.aload_n dX6_add_11 0 rfl ?_
      refine V.sgR 6 0 dX6_add_12 gf_X6_13 sh0_5 rfl rfl ?_
      refine V.iload dX6_add_15 5 rfl ?_
      refine V.iconst (v := 1) dX6_add_17 (by decide) ?_
      refine V.isub dX6_add_18 ?_
      refine V.sbind fun q_8 h_9 => ?_
      refine V.saa (t := 4) dX6_add_19 rfl rfl h_9 ?_
      refine V.chk fun h_10 => ?_
      refine V.sgI 5 3 dX6_add_20 gf_X6_21 rfl rfl h_10 ?_
      refine V.iload_n dX6_add_23 3 rfl ?_
      refine V.icmp_le 49 dX6_add_24 (by decide) ?_ ?_
      · exact (tjX6_add_49 l G F x1 x2 x3 x4 x5 S)
      · refine V.aload_n dX6_add_27 0 rfl ?_
        refine V.sgR 6 0 dX6_add_28 gf_X6_13 sh0_5 rfl rfl ?_
        refine V.iload dX6_add_31 5 rfl ?_
        refine V.aload_n dX6_add_33 0 rfl ?_
        refine V.sgR 6 0 dX6_add_34 gf_X6_13 sh0_5 rfl rfl ?_
        refine V.iload dX6_add_37 5 rfl ?_
        refine V.iconst (v := 1) dX6_add_39 (by decide) ?_
        refine V.isub dX6_add_40 ?_
        refine V.saa (t := 4) dX6_add_41 rfl rfl h_9 ?_
        refine V.chk fun h_11 => ?_
        refine V.sas (t := 4) (q := q_8) dX6_add_42 rfl rfl rfl sh0_22 h_11 h_10 rfl ?_
        refine V.sst fun S_12 => ?_
        refine V.lti (e := x5 + (-1)) (fun x_13 he => ?_)
        refine V.iinc (v := x_13) (L' := [(0, vR (0, 5)), (1, vI x1), (2, vI x2), (3, vI x3), (4, vI x4), (5, vI x_13)]) dX6_add_43 5 rfl he.symm (by decide) rfl rfl ?_
        refine V.goto 6 dX6_add_46 (by decide) ?_
        exact (ih x_13 S_12)

theorem kX6_add (l : Launch) (G : vg) (F : Nat) (x1 : Int32) (x2 : Int32) (x3 : Int32) (x4 : Int32) (S : vs) : Rt l G mX6_add oF phI [vR (0, 5), vI x1, vI x2, vI x3, vI x4] (enc S) (fX6_add F x1 x2 x3 x4 S) := Rt.of rfl (Nat.le_of_ble_eq_true rfl) (by
  show V l G mX6_add oF phI _ 0 [(0, vR (0, 5)), (1, vI x1), (2, vI x2), (3, vI x3), (4, vI x4)] [] (enc S) 0 0
  unfold fX6_add
  refine V.aload_n dX6_add_0 0 rfl ?_
  refine V.sgI 6 1 dX6_add_1 gf_X6_17 sh0_5 rfl rfl ?_
  refine V.lett fun x_1 => ?_
  refine V.istore (L' := [(0, vR (0, 5)), (1, vI x1), (2, vI x2), (3, vI x3), (4, vI x4), (5, vI x_1)]) dX6_add_4 (by decide) rfl rfl ?_
  exact (thX6_add_6 l G F x1 x2 x3 x4 F x_1 S))

abbrev mX7_side : vmt := (yX7_side, cX7_side, 6, (some .int), { frames := 2, cells := 1, slots := 11, locals := 44 })
theorem mfX7_side : mfV mX7_side 4 := ⟨im_X7_side, se_X7_side, ini_X7, co_X7_side, by decide, by decide, by decide +kernel⟩
def jX7_side_47 (F : Nat) (x1 : Int32) (x2 : Int32) (x3 : Int32) (x4 : Int32) (sk0 : Int32) (S : vs) : Option (Int32 × vs) := if sk0 = 0 then some ((-2), S) else if (S.1 (0, 0) 1) < 16 then stp (sn1 S) (fun S_2 => (fX2_init F S.2.2.1 x1 x2 x3 x4 S_2).bind (fun a_3 => gd (inb (S.1 (0, 0) 1) 16) (gd (alv a_3.2.2 (1, S.2.2.1)) (stp (r2 a_3 (0, 6) (S.1 (0, 0) 1).toNatClampNeg S.2.2.1) (fun S_6 => stp (s2 S_6 (0, 0) 1 ((S_6.1 (0, 0) 1) + 1)) (fun S_7 => some ((S_7.1 (0, 0) 1) - 1, S_7))))))) else some ((-4), S)

def jX7_side_46 (F : Nat) (x1 : Int32) (x2 : Int32) (x3 : Int32) (x4 : Int32) (S : vs) : Option (Int32 × vs) := jX7_side_47 F x1 x2 x3 x4 0 S

def fX7_side (F : Nat) (x1 : Int32) (x2 : Int32) (x3 : Int32) (x4 : Int32) (S : vs) : Option (Int32 × vs) := (fX7_within F x1 0 1000 S).bind (fun a_1 => if a_1 = 0 then jX7_side_46 F x1 x2 x3 x4 S else (fX7_within F x2 0 100 S).bind (fun a_8 => if a_8 = 0 then jX7_side_46 F x1 x2 x3 x4 S else (fX7_within F x3 0 100 S).bind (fun a_9 => if a_9 = 0 then jX7_side_46 F x1 x2 x3 x4 S else (fX7_within F x4 0 100 S).bind (fun a_10 => if a_10 = 0 then jX7_side_46 F x1 x2 x3 x4 S else jX7_side_47 F x1 x2 x3 x4 1 S))))
theorem tjX7_side_47 (l : Launch) (G : vg) (F : Nat) (x1 : Int32) (x2 : Int32) (x3 : Int32) (x4 : Int32) (sk0 : Int32) (S : vs) : V l G mX7_side oF phI (jX7_side_47 F x1 x2 x3 x4 sk0 S) 47 [(0, vR (0, 0)), (1, vI x1), (2, vI x2), (3, vI x3), (4, vI x4)] [vI sk0] (enc S) 0 0 := by
  unfold jX7_side_47
  refine V.istore (L' := [(0, vR (0, 0)), (1, vI x1), (2, vI x2), (3, vI x3), (4, vI x4), (5, vI sk0)]) dX7_side_47 (by decide) rfl rfl ?_
  refine V.iload dX7_side_49 5 rfl ?_
  refine V.if_ne 57 dX7_side_51 (by decide) ?_ ?_
  · refine V.aload_n dX7_side_57 0 rfl ?_
    refine V.sgI 7 1 dX7_side_58 gf_X7_15 sh0_0 rfl rfl ?_
    refine V.bipush (v := 16) dX7_side_61 (by decide) ?_
    refine V.icmp_lt 69 dX7_side_63 (by decide) ?_ ?_
    · refine V.aload_n dX7_side_69 0 rfl ?_
      refine V.sgR 7 0 dX7_side_70 gf_X7_11 sh0_0 rfl rfl ?_
      refine V.aload_n dX7_side_73 0 rfl ?_
      refine V.sgI 7 1 dX7_side_74 gf_X7_15 sh0_0 rfl rfl ?_
      refine V.snew1 dX7_side_77 cl_X7_9 rfl rfl (by decide) (by decide) ?_
      refine V.sst fun S_2 => ?_
      refine V.dup dX7_side_80 rfl ?_
      refine V.iload_n dX7_side_81 1 rfl ?_
      refine V.iload_n dX7_side_82 2 rfl ?_
      refine V.iload_n dX7_side_83 3 rfl ?_
      refine V.iload dX7_side_84 4 rfl ?_
      refine V.callI (M' := mX2_init) (As := [vI x1, vI x2, vI x3, vI x4]) (ψ := phV) dX7_side_86 ml_X7_54 mfX2_init rfl ⟨by decide, by decide⟩ ⟨by decide, by decide⟩ (Nat.le_of_ble_eq_true rfl) rfl (kX2_init l G F S.2.2.1 x1 x2 x3 x4 S_2) (fun a_3 => ?_)
      show V l G mX7_side oF phI _ 89 [(0, vR (0, 0)), (1, vI x1), (2, vI x2), (3, vI x3), (4, vI x4), (5, vI sk0)] [vR (1, S.2.2.1), vI (S.1 (0, 0) 1), vR (0, 6)] (enc a_3) 1 11
      refine V.chk fun h_4 => ?_
      refine V.chk fun h_5 => ?_
      refine V.sas (t := 2) (q := S.2.2.1) dX7_side_89 rfl rfl rfl sh0_6 h_4 h_5 rfl ?_
      refine V.sst fun S_6 => ?_
      refine V.aload_n dX7_side_90 0 rfl ?_
      refine V.dup dX7_side_91 rfl ?_
      refine V.sgI 7 1 dX7_side_92 gf_X7_15 sh0_0 rfl rfl ?_
      refine V.iconst (v := 1) dX7_side_95 (by decide) ?_
      refine V.iadd dX7_side_96 ?_
      refine V.spI 7 1 dX7_side_97 pf_X7_15 sh0_0 rfl rfl ?_
      refine V.sst fun S_7 => ?_
      refine V.aload_n dX7_side_100 0 rfl ?_
      refine V.sgI 7 1 dX7_side_101 gf_X7_15 sh0_0 rfl rfl ?_
      refine V.iconst (v := 1) dX7_side_104 (by decide) ?_
      refine V.isub dX7_side_105 ?_
      exact V.iret rfl dX7_side_106 rfl (by decide) (by decide)
    · refine V.bipush (v := (-4)) dX7_side_66 (by decide) ?_
      exact V.iret rfl dX7_side_68 rfl (by decide) (by decide)
  · refine V.bipush (v := (-2)) dX7_side_54 (by decide) ?_
    exact V.iret rfl dX7_side_56 rfl (by decide) (by decide)

theorem tjX7_side_46 (l : Launch) (G : vg) (F : Nat) (x1 : Int32) (x2 : Int32) (x3 : Int32) (x4 : Int32) (S : vs) : V l G mX7_side oF phI (jX7_side_46 F x1 x2 x3 x4 S) 46 [(0, vR (0, 0)), (1, vI x1), (2, vI x2), (3, vI x3), (4, vI x4)] [] (enc S) 0 0 := by
  unfold jX7_side_46
  refine V.iconst (v := 0) dX7_side_46 (by decide) ?_
  exact (tjX7_side_47 l G F x1 x2 x3 x4 0 S)

theorem kX7_side (l : Launch) (G : vg) (F : Nat) (x1 : Int32) (x2 : Int32) (x3 : Int32) (x4 : Int32) (S : vs) : Rt l G mX7_side oF phI [vR (0, 0), vI x1, vI x2, vI x3, vI x4] (enc S) (fX7_side F x1 x2 x3 x4 S) := Rt.of rfl (Nat.le_of_ble_eq_true rfl) (by
  show V l G mX7_side oF phI _ 0 [(0, vR (0, 0)), (1, vI x1), (2, vI x2), (3, vI x3), (4, vI x4)] [] (enc S) 0 0
  unfold fX7_side
  refine V.iload_n dX7_side_0 1 rfl ?_
  refine V.iconst (v := 0) dX7_side_1 (by decide) ?_
  refine V.sipush (v := 1000) dX7_side_2 (by decide) ?_
  refine V.callS (M' := mX7_within) (As := [vI x1, vI 0, vI 1000]) (ψ := (phP S)) dX7_side_5 ml_X7_50 mfX7_within rfl ⟨by decide, by decide⟩ ⟨by decide, by decide⟩ (Nat.le_of_ble_eq_true rfl) rfl (kX7_within l G F x1 0 1000 S) (fun a_1 => ?_)
  show V l G mX7_side oF phI _ 8 [(0, vR (0, 0)), (1, vI x1), (2, vI x2), (3, vI x3), (4, vI x4)] [vI a_1] (enc S) 0 0
  refine V.if_eq 46 dX7_side_8 (by decide) ?_ ?_
  · exact (tjX7_side_46 l G F x1 x2 x3 x4 S)
  · refine V.iload_n dX7_side_11 2 rfl ?_
    refine V.iconst (v := 0) dX7_side_12 (by decide) ?_
    refine V.bipush (v := 100) dX7_side_13 (by decide) ?_
    refine V.callS (M' := mX7_within) (As := [vI x2, vI 0, vI 100]) (ψ := (phP S)) dX7_side_15 ml_X7_50 mfX7_within rfl ⟨by decide, by decide⟩ ⟨by decide, by decide⟩ (Nat.le_of_ble_eq_true rfl) rfl (kX7_within l G F x2 0 100 S) (fun a_8 => ?_)
    show V l G mX7_side oF phI _ 18 [(0, vR (0, 0)), (1, vI x1), (2, vI x2), (3, vI x3), (4, vI x4)] [vI a_8] (enc S) 0 0
    refine V.if_eq 46 dX7_side_18 (by decide) ?_ ?_
    · exact (tjX7_side_46 l G F x1 x2 x3 x4 S)
    · refine V.iload_n dX7_side_21 3 rfl ?_
      refine V.iconst (v := 0) dX7_side_22 (by decide) ?_
      refine V.bipush (v := 100) dX7_side_23 (by decide) ?_
      refine V.callS (M' := mX7_within) (As := [vI x3, vI 0, vI 100]) (ψ := (phP S)) dX7_side_25 ml_X7_50 mfX7_within rfl ⟨by decide, by decide⟩ ⟨by decide, by decide⟩ (Nat.le_of_ble_eq_true rfl) rfl (kX7_within l G F x3 0 100 S) (fun a_9 => ?_)
      show V l G mX7_side oF phI _ 28 [(0, vR (0, 0)), (1, vI x1), (2, vI x2), (3, vI x3), (4, vI x4)] [vI a_9] (enc S) 0 0
      refine V.if_eq 46 dX7_side_28 (by decide) ?_ ?_
      · exact (tjX7_side_46 l G F x1 x2 x3 x4 S)
      · refine V.iload dX7_side_31 4 rfl ?_
        refine V.iconst (v := 0) dX7_side_33 (by decide) ?_
        refine V.bipush (v := 100) dX7_side_34 (by decide) ?_
        refine V.callS (M' := mX7_within) (As := [vI x4, vI 0, vI 100]) (ψ := (phP S)) dX7_side_36 ml_X7_50 mfX7_within rfl ⟨by decide, by decide⟩ ⟨by decide, by decide⟩ (Nat.le_of_ble_eq_true rfl) rfl (kX7_within l G F x4 0 100 S) (fun a_10 => ?_)
        show V l G mX7_side oF phI _ 39 [(0, vR (0, 0)), (1, vI x1), (2, vI x2), (3, vI x3), (4, vI x4)] [vI a_10] (enc S) 0 0
        refine V.if_eq 46 dX7_side_39 (by decide) ?_ ?_
        · exact (tjX7_side_46 l G F x1 x2 x3 x4 S)
        · refine V.iconst (v := 1) dX7_side_42 (by decide) ?_
          refine V.goto 47 dX7_side_43 (by decide) ?_
          exact (tjX7_side_47 l G F x1 x2 x3 x4 1 S))

abbrev mX7_sign : vmt := (yX7_sign, cX7_sign, 6, (some .int), { frames := 2, cells := 1, slots := 5, locals := 44 })
theorem mfX7_sign : mfV mX7_sign 4 := ⟨im_X7_sign, se_X7_sign, ini_X7, co_X7_sign, by decide, by decide, by decide +kernel⟩
def jX7_sign_46 (F : Nat) (x1 : Int32) (x2 : Int32) (x3 : Int32) (x4 : Int32) (sk0 : Int32) (S : vs) : Option (Int32 × vs) := if sk0 = 0 then some ((-2), S) else (fX4_isFull F S).bind (fun a_3 => if a_3 = 0 then stp (sn2 S) (fun S_4 => (fX3_init F S.2.2.2.1 x1 x2 x3 x4 S_4).bind (fun a_5 => (fX4_add F S.2.2.2.1 a_5).bind (fun a_6 => some (a_6.1, a_6.2)))) else some ((-4), S))

def jX7_sign_45 (F : Nat) (x1 : Int32) (x2 : Int32) (x3 : Int32) (x4 : Int32) (S : vs) : Option (Int32 × vs) := jX7_sign_46 F x1 x2 x3 x4 0 S

def fX7_sign (F : Nat) (x1 : Int32) (x2 : Int32) (x3 : Int32) (x4 : Int32) (S : vs) : Option (Int32 × vs) := (fX7_isSide F x1 S).bind (fun a_1 => if a_1 = 0 then some ((-1), S) else (fX7_within F x3 1 30000 S).bind (fun a_2 => if a_2 = 0 then jX7_sign_45 F x1 x2 x3 x4 S else (fX7_within F x2 1 x3 S).bind (fun a_7 => if a_7 = 0 then jX7_sign_45 F x1 x2 x3 x4 S else (fX7_within F x4 1 9 S).bind (fun a_8 => if a_8 = 0 then jX7_sign_45 F x1 x2 x3 x4 S else jX7_sign_46 F x1 x2 x3 x4 1 S))))
theorem tjX7_sign_46 (l : Launch) (G : vg) (F : Nat) (x1 : Int32) (x2 : Int32) (x3 : Int32) (x4 : Int32) (sk0 : Int32) (S : vs) : V l G mX7_sign oF phI (jX7_sign_46 F x1 x2 x3 x4 sk0 S) 46 [(0, vR (0, 0)), (1, vI x1), (2, vI x2), (3, vI x3), (4, vI x4)] [vI sk0] (enc S) 0 0 := by
  unfold jX7_sign_46
  refine V.istore (L' := [(0, vR (0, 0)), (1, vI x1), (2, vI x2), (3, vI x3), (4, vI x4), (5, vI sk0)]) dX7_sign_46 (by decide) rfl rfl ?_
  refine V.iload dX7_sign_48 5 rfl ?_
  refine V.if_ne 56 dX7_sign_50 (by decide) ?_ ?_
  · refine V.aload_n dX7_sign_56 0 rfl ?_
    refine V.sgR 7 4 dX7_sign_57 gf_X7_32 sh0_0 rfl rfl ?_
    refine V.callV (M' := mX4_isFull) (As := []) (ψ := (phP S)) dX7_sign_60 ml_X7_131 mfX4_isFull rfl ⟨by decide, by decide⟩ ⟨by decide, by decide⟩ (enc_at rfl sh0_3) rfl (Nat.le_of_ble_eq_true rfl) rfl (kX4_isFull l G F S) (fun a_3 => ?_)
    show V l G mX7_sign oF phI _ 63 [(0, vR (0, 0)), (1, vI x1), (2, vI x2), (3, vI x3), (4, vI x4), (5, vI sk0)] [vI a_3] (enc S) 0 0
    refine V.if_eq 69 dX7_sign_63 (by decide) ?_ ?_
    · refine V.aload_n dX7_sign_69 0 rfl ?_
      refine V.sgR 7 4 dX7_sign_70 gf_X7_32 sh0_0 rfl rfl ?_
      refine V.snew2 dX7_sign_73 cl_X7_135 rfl rfl (by decide) (by decide) ?_
      refine V.sst fun S_4 => ?_
      refine V.dup dX7_sign_76 rfl ?_
      refine V.iload_n dX7_sign_77 1 rfl ?_
      refine V.iload_n dX7_sign_78 2 rfl ?_
      refine V.iload_n dX7_sign_79 3 rfl ?_
      refine V.iload dX7_sign_80 4 rfl ?_
      refine V.callI (M' := mX3_init) (As := [vI x1, vI x2, vI x3, vI x4]) (ψ := phV) dX7_sign_82 ml_X7_137 mfX3_init rfl ⟨by decide, by decide⟩ ⟨by decide, by decide⟩ (Nat.le_of_ble_eq_true rfl) rfl (kX3_init l G F S.2.2.2.1 x1 x2 x3 x4 S_4) (fun a_5 => ?_)
      show V l G mX7_sign oF phI _ 85 [(0, vR (0, 0)), (1, vI x1), (2, vI x2), (3, vI x3), (4, vI x4), (5, vI sk0)] [vR (2, S.2.2.2.1), vR (0, 3)] (enc a_5) 1 5
      refine V.callV (M' := mX4_add) (As := [vR (2, S.2.2.2.1)]) (ψ := phI) dX7_sign_85 ml_X7_138 mfX4_add rfl ⟨by decide, by decide⟩ ⟨by decide, by decide⟩ (enc_at rfl sh0_3) rfl (Nat.le_of_ble_eq_true rfl) rfl (kX4_add l G F S.2.2.2.1 a_5) (fun a_6 => ?_)
      show V l G mX7_sign oF phI _ 88 [(0, vR (0, 0)), (1, vI x1), (2, vI x2), (3, vI x3), (4, vI x4), (5, vI sk0)] [vI a_6.1] (enc a_6.2) 1 5
      exact V.iret rfl dX7_sign_88 rfl (by decide) (by decide)
    · refine V.bipush (v := (-4)) dX7_sign_66 (by decide) ?_
      exact V.iret rfl dX7_sign_68 rfl (by decide) (by decide)
  · refine V.bipush (v := (-2)) dX7_sign_53 (by decide) ?_
    exact V.iret rfl dX7_sign_55 rfl (by decide) (by decide)

theorem tjX7_sign_45 (l : Launch) (G : vg) (F : Nat) (x1 : Int32) (x2 : Int32) (x3 : Int32) (x4 : Int32) (S : vs) : V l G mX7_sign oF phI (jX7_sign_45 F x1 x2 x3 x4 S) 45 [(0, vR (0, 0)), (1, vI x1), (2, vI x2), (3, vI x3), (4, vI x4)] [] (enc S) 0 0 := by
  unfold jX7_sign_45
  refine V.iconst (v := 0) dX7_sign_45 (by decide) ?_
  exact (tjX7_sign_46 l G F x1 x2 x3 x4 0 S)

theorem kX7_sign (l : Launch) (G : vg) (F : Nat) (x1 : Int32) (x2 : Int32) (x3 : Int32) (x4 : Int32) (S : vs) : Rt l G mX7_sign oF phI [vR (0, 0), vI x1, vI x2, vI x3, vI x4] (enc S) (fX7_sign F x1 x2 x3 x4 S) := Rt.of rfl (Nat.le_of_ble_eq_true rfl) (by
  show V l G mX7_sign oF phI _ 0 [(0, vR (0, 0)), (1, vI x1), (2, vI x2), (3, vI x3), (4, vI x4)] [] (enc S) 0 0
  unfold fX7_sign
  refine V.aload_n dX7_sign_0 0 rfl ?_
  refine V.iload_n dX7_sign_1 1 rfl ?_
  refine V.callV (M' := mX7_isSide) (As := [vI x1]) (ψ := (phP S)) dX7_sign_2 ml_X7_57 mfX7_isSide rfl ⟨by decide, by decide⟩ ⟨by decide, by decide⟩ (enc_at rfl sh0_0) rfl (Nat.le_of_ble_eq_true rfl) rfl (kX7_isSide l G F x1 S) (fun a_1 => ?_)
  show V l G mX7_sign oF phI _ 5 [(0, vR (0, 0)), (1, vI x1), (2, vI x2), (3, vI x3), (4, vI x4)] [vI a_1] (enc S) 0 0
  refine V.if_ne 10 dX7_sign_5 (by decide) ?_ ?_
  · refine V.iload_n dX7_sign_10 3 rfl ?_
    refine V.iconst (v := 1) dX7_sign_11 (by decide) ?_
    refine V.sipush (v := 30000) dX7_sign_12 (by decide) ?_
    refine V.callS (M' := mX7_within) (As := [vI x3, vI 1, vI 30000]) (ψ := (phP S)) dX7_sign_15 ml_X7_50 mfX7_within rfl ⟨by decide, by decide⟩ ⟨by decide, by decide⟩ (Nat.le_of_ble_eq_true rfl) rfl (kX7_within l G F x3 1 30000 S) (fun a_2 => ?_)
    show V l G mX7_sign oF phI _ 18 [(0, vR (0, 0)), (1, vI x1), (2, vI x2), (3, vI x3), (4, vI x4)] [vI a_2] (enc S) 0 0
    refine V.if_eq 45 dX7_sign_18 (by decide) ?_ ?_
    · exact (tjX7_sign_45 l G F x1 x2 x3 x4 S)
    · refine V.iload_n dX7_sign_21 2 rfl ?_
      refine V.iconst (v := 1) dX7_sign_22 (by decide) ?_
      refine V.iload_n dX7_sign_23 3 rfl ?_
      refine V.callS (M' := mX7_within) (As := [vI x2, vI 1, vI x3]) (ψ := (phP S)) dX7_sign_24 ml_X7_50 mfX7_within rfl ⟨by decide, by decide⟩ ⟨by decide, by decide⟩ (Nat.le_of_ble_eq_true rfl) rfl (kX7_within l G F x2 1 x3 S) (fun a_7 => ?_)
      show V l G mX7_sign oF phI _ 27 [(0, vR (0, 0)), (1, vI x1), (2, vI x2), (3, vI x3), (4, vI x4)] [vI a_7] (enc S) 0 0
      refine V.if_eq 45 dX7_sign_27 (by decide) ?_ ?_
      · exact (tjX7_sign_45 l G F x1 x2 x3 x4 S)
      · refine V.iload dX7_sign_30 4 rfl ?_
        refine V.iconst (v := 1) dX7_sign_32 (by decide) ?_
        refine V.bipush (v := 9) dX7_sign_33 (by decide) ?_
        refine V.callS (M' := mX7_within) (As := [vI x4, vI 1, vI 9]) (ψ := (phP S)) dX7_sign_35 ml_X7_50 mfX7_within rfl ⟨by decide, by decide⟩ ⟨by decide, by decide⟩ (Nat.le_of_ble_eq_true rfl) rfl (kX7_within l G F x4 1 9 S) (fun a_8 => ?_)
        show V l G mX7_sign oF phI _ 38 [(0, vR (0, 0)), (1, vI x1), (2, vI x2), (3, vI x3), (4, vI x4)] [vI a_8] (enc S) 0 0
        refine V.if_eq 45 dX7_sign_38 (by decide) ?_ ?_
        · exact (tjX7_sign_45 l G F x1 x2 x3 x4 S)
        · refine V.iconst (v := 1) dX7_sign_41 (by decide) ?_
          refine V.goto 46 dX7_sign_42 (by decide) ?_
          exact (tjX7_sign_46 l G F x1 x2 x3 x4 1 S)
  · refine V.iconst (v := (-1)) dX7_sign_8 (by decide) ?_
    exact V.iret rfl dX7_sign_9 rfl (by decide) (by decide))

abbrev mX7_text : vmt := (yX7_text, cX7_text, 8, (some .int), { frames := 3, cells := 1, slots := 5, locals := 70 })
theorem mfX7_text : mfV mX7_text 5 := ⟨im_X7_text, se_X7_text, ini_X7, co_X7_text, by decide, by decide, by decide +kernel⟩
def jX7_text_38 (F : Nat) (x1 : Int32) (x2 : Int32) (x3 : Int32) (x4 : Int32) (x5 : Int32) (x6 : Int32) (sk0 : Int32) (S : vs) : Option (Int32 × vs) := (fX7_isFamily F x1 S).bind (fun a_1 => if a_1 = 0 then some ((-1), S) else if x6 = 0 then some ((-1), S) else if sk0 = 0 then some ((-1), S) else (fX7_isDay F x4 S).bind (fun a_2 => if a_2 = 0 then some ((-2), S) else (fX6_isFull F S).bind (fun a_3 => if a_3 = 0 then (fX7_askedBy F x1 x2 S).bind (fun a_4 => (fX6_add F a_4 x3 x4 x5 S).bind (fun a_5 => some (a_5.1, a_5.2))) else some ((-4), S))))

def jX7_text_33 (F : Nat) (x1 : Int32) (x2 : Int32) (x3 : Int32) (x4 : Int32) (x5 : Int32) (x6 : Int32) (S : vs) : Option (Int32 × vs) := jX7_text_38 F x1 x2 x3 x4 x5 x6 1 S

def jX7_text_18 (F : Nat) (x1 : Int32) (x2 : Int32) (x3 : Int32) (x4 : Int32) (x5 : Int32) (sk0 : Int32) (S : vs) : Option (Int32 × vs) := if x3 = (-9) then jX7_text_33 F x1 x2 x3 x4 x5 sk0 S else (fX7_isHearer F x3 S).bind (fun a_6 => if a_6 = 0 then jX7_text_38 F x1 x2 x3 x4 x5 sk0 0 S else jX7_text_33 F x1 x2 x3 x4 x5 sk0 S)

def jX7_text_13 (F : Nat) (x1 : Int32) (x2 : Int32) (x3 : Int32) (x4 : Int32) (x5 : Int32) (S : vs) : Option (Int32 × vs) := jX7_text_18 F x1 x2 x3 x4 x5 1 S

def fX7_text (F : Nat) (x1 : Int32) (x2 : Int32) (x3 : Int32) (x4 : Int32) (x5 : Int32) (S : vs) : Option (Int32 × vs) := if x2 = (-9) then jX7_text_13 F x1 x2 x3 x4 x5 S else (fX7_isSong F x2 S).bind (fun a_7 => if a_7 = 0 then jX7_text_18 F x1 x2 x3 x4 x5 0 S else jX7_text_13 F x1 x2 x3 x4 x5 S)
theorem tjX7_text_38 (l : Launch) (G : vg) (F : Nat) (x1 : Int32) (x2 : Int32) (x3 : Int32) (x4 : Int32) (x5 : Int32) (x6 : Int32) (sk0 : Int32) (S : vs) : V l G mX7_text oF phI (jX7_text_38 F x1 x2 x3 x4 x5 x6 sk0 S) 38 [(0, vR (0, 0)), (1, vI x1), (2, vI x2), (3, vI x3), (4, vI x4), (5, vI x5), (6, vI x6)] [vI sk0] (enc S) 0 0 := by
  unfold jX7_text_38
  refine V.istore (L' := [(0, vR (0, 0)), (1, vI x1), (2, vI x2), (3, vI x3), (4, vI x4), (5, vI x5), (6, vI x6), (7, vI sk0)]) dX7_text_38 (by decide) rfl rfl ?_
  refine V.iload_n dX7_text_40 1 rfl ?_
  refine V.callS (M' := mX7_isFamily) (As := [vI x1]) (ψ := (phP S)) dX7_text_41 ml_X7_191 mfX7_isFamily rfl ⟨by decide, by decide⟩ ⟨by decide, by decide⟩ (Nat.le_of_ble_eq_true rfl) rfl (kX7_isFamily l G F x1 S) (fun a_1 => ?_)
  show V l G mX7_text oF phI _ 44 [(0, vR (0, 0)), (1, vI x1), (2, vI x2), (3, vI x3), (4, vI x4), (5, vI x5), (6, vI x6), (7, vI sk0)] [vI a_1] (enc S) 0 0
  refine V.if_eq 57 dX7_text_44 (by decide) ?_ ?_
  · refine V.iconst (v := (-1)) dX7_text_57 (by decide) ?_
    exact V.iret rfl dX7_text_58 rfl (by decide) (by decide)
  · refine V.iload dX7_text_47 6 rfl ?_
    refine V.if_eq 57 dX7_text_49 (by decide) ?_ ?_
    · refine V.iconst (v := (-1)) dX7_text_57 (by decide) ?_
      exact V.iret rfl dX7_text_58 rfl (by decide) (by decide)
    · refine V.iload dX7_text_52 7 rfl ?_
      refine V.if_ne 59 dX7_text_54 (by decide) ?_ ?_
      · refine V.iload dX7_text_59 4 rfl ?_
        refine V.callS (M' := mX7_isDay) (As := [vI x4]) (ψ := (phP S)) dX7_text_61 ml_X7_194 mfX7_isDay rfl ⟨by decide, by decide⟩ ⟨by decide, by decide⟩ (Nat.le_of_ble_eq_true rfl) rfl (kX7_isDay l G F x4 S) (fun a_2 => ?_)
        show V l G mX7_text oF phI _ 64 [(0, vR (0, 0)), (1, vI x1), (2, vI x2), (3, vI x3), (4, vI x4), (5, vI x5), (6, vI x6), (7, vI sk0)] [vI a_2] (enc S) 0 0
        refine V.if_ne 70 dX7_text_64 (by decide) ?_ ?_
        · refine V.aload_n dX7_text_70 0 rfl ?_
          refine V.sgR 7 6 dX7_text_71 gf_X7_46 sh0_0 rfl rfl ?_
          refine V.callV (M' := mX6_isFull) (As := []) (ψ := (phP S)) dX7_text_74 ml_X7_197 mfX6_isFull rfl ⟨by decide, by decide⟩ ⟨by decide, by decide⟩ (enc_at rfl sh0_5) rfl (Nat.le_of_ble_eq_true rfl) rfl (kX6_isFull l G F S) (fun a_3 => ?_)
          show V l G mX7_text oF phI _ 77 [(0, vR (0, 0)), (1, vI x1), (2, vI x2), (3, vI x3), (4, vI x4), (5, vI x5), (6, vI x6), (7, vI sk0)] [vI a_3] (enc S) 0 0
          refine V.if_eq 85 dX7_text_77 (by decide) ?_ ?_
          · refine V.aload_n dX7_text_85 0 rfl ?_
            refine V.sgR 7 6 dX7_text_86 gf_X7_46 sh0_0 rfl rfl ?_
            refine V.iload_n dX7_text_89 1 rfl ?_
            refine V.iload_n dX7_text_90 2 rfl ?_
            refine V.callS (M' := mX7_askedBy) (As := [vI x1, vI x2]) (ψ := (phP S)) dX7_text_91 ml_X7_198 mfX7_askedBy rfl ⟨by decide, by decide⟩ ⟨by decide, by decide⟩ (Nat.le_of_ble_eq_true rfl) rfl (kX7_askedBy l G F x1 x2 S) (fun a_4 => ?_)
            show V l G mX7_text oF phI _ 94 [(0, vR (0, 0)), (1, vI x1), (2, vI x2), (3, vI x3), (4, vI x4), (5, vI x5), (6, vI x6), (7, vI sk0)] [vI a_4, vR (0, 5)] (enc S) 0 0
            refine V.iload_n dX7_text_94 3 rfl ?_
            refine V.iload dX7_text_95 4 rfl ?_
            refine V.iload dX7_text_97 5 rfl ?_
            refine V.callVa (M' := mX6_add) (As := [vI a_4, vI x3, vI x4, vI x5]) (ψ := phI) dX7_text_99 ml_X7_201 mfX6_add rfl ⟨by decide, by decide⟩ ⟨by decide, by decide⟩ (enc_at rfl sh0_5) rfl (Nat.le_of_ble_eq_true rfl) rfl rfl rfl (kX6_add l G F a_4 x3 x4 x5 S) (fun a_ => ⟨a_.1, rfl⟩) (fun a_5 => ?_)
            show V l G mX7_text oF phI _ 102 [(0, vR (0, 0)), (1, vI x1), (2, vI x2), (3, vI x3), (4, vI x4), (5, vI x5), (6, vI x6), (7, vI sk0)] [vI a_5.1] (enc a_5.2) 1 5
            exact V.iret rfl dX7_text_102 rfl (by decide) (by decide)
          · refine V.bipush (v := (-4)) dX7_text_80 (by decide) ?_
            refine V.goto 102 dX7_text_82 (by decide) ?_
            exact V.iret rfl dX7_text_102 rfl (by decide) (by decide)
        · refine V.bipush (v := (-2)) dX7_text_67 (by decide) ?_
          exact V.iret rfl dX7_text_69 rfl (by decide) (by decide)
      · refine V.iconst (v := (-1)) dX7_text_57 (by decide) ?_
        exact V.iret rfl dX7_text_58 rfl (by decide) (by decide)

theorem tjX7_text_33 (l : Launch) (G : vg) (F : Nat) (x1 : Int32) (x2 : Int32) (x3 : Int32) (x4 : Int32) (x5 : Int32) (x6 : Int32) (S : vs) : V l G mX7_text oF phI (jX7_text_33 F x1 x2 x3 x4 x5 x6 S) 33 [(0, vR (0, 0)), (1, vI x1), (2, vI x2), (3, vI x3), (4, vI x4), (5, vI x5), (6, vI x6)] [] (enc S) 0 0 := by
  unfold jX7_text_33
  refine V.iconst (v := 1) dX7_text_33 (by decide) ?_
  refine V.goto 38 dX7_text_34 (by decide) ?_
  exact (tjX7_text_38 l G F x1 x2 x3 x4 x5 x6 1 S)

theorem tjX7_text_18 (l : Launch) (G : vg) (F : Nat) (x1 : Int32) (x2 : Int32) (x3 : Int32) (x4 : Int32) (x5 : Int32) (sk0 : Int32) (S : vs) : V l G mX7_text oF phI (jX7_text_18 F x1 x2 x3 x4 x5 sk0 S) 18 [(0, vR (0, 0)), (1, vI x1), (2, vI x2), (3, vI x3), (4, vI x4), (5, vI x5)] [vI sk0] (enc S) 0 0 := by
  unfold jX7_text_18
  refine V.istore (L' := [(0, vR (0, 0)), (1, vI x1), (2, vI x2), (3, vI x3), (4, vI x4), (5, vI x5), (6, vI sk0)]) dX7_text_18 (by decide) rfl rfl ?_
  refine V.iload_n dX7_text_20 3 rfl ?_
  refine V.bipush (v := (-9)) dX7_text_21 (by decide) ?_
  refine V.icmp_eq 33 dX7_text_23 (by decide) ?_ ?_
  · exact (tjX7_text_33 l G F x1 x2 x3 x4 x5 sk0 S)
  · refine V.iload_n dX7_text_26 3 rfl ?_
    refine V.callS (M' := mX7_isHearer) (As := [vI x3]) (ψ := (phP S)) dX7_text_27 ml_X7_188 mfX7_isHearer rfl ⟨by decide, by decide⟩ ⟨by decide, by decide⟩ (Nat.le_of_ble_eq_true rfl) rfl (kX7_isHearer l G F x3 S) (fun a_6 => ?_)
    show V l G mX7_text oF phI _ 30 [(0, vR (0, 0)), (1, vI x1), (2, vI x2), (3, vI x3), (4, vI x4), (5, vI x5), (6, vI sk0)] [vI a_6] (enc S) 0 0
    refine V.if_eq 37 dX7_text_30 (by decide) ?_ ?_
    · refine V.iconst (v := 0) dX7_text_37 (by decide) ?_
      exact (tjX7_text_38 l G F x1 x2 x3 x4 x5 sk0 0 S)
    · exact (tjX7_text_33 l G F x1 x2 x3 x4 x5 sk0 S)

theorem tjX7_text_13 (l : Launch) (G : vg) (F : Nat) (x1 : Int32) (x2 : Int32) (x3 : Int32) (x4 : Int32) (x5 : Int32) (S : vs) : V l G mX7_text oF phI (jX7_text_13 F x1 x2 x3 x4 x5 S) 13 [(0, vR (0, 0)), (1, vI x1), (2, vI x2), (3, vI x3), (4, vI x4), (5, vI x5)] [] (enc S) 0 0 := by
  unfold jX7_text_13
  refine V.iconst (v := 1) dX7_text_13 (by decide) ?_
  refine V.goto 18 dX7_text_14 (by decide) ?_
  exact (tjX7_text_18 l G F x1 x2 x3 x4 x5 1 S)

theorem kX7_text (l : Launch) (G : vg) (F : Nat) (x1 : Int32) (x2 : Int32) (x3 : Int32) (x4 : Int32) (x5 : Int32) (S : vs) : Rt l G mX7_text oF phI [vR (0, 0), vI x1, vI x2, vI x3, vI x4, vI x5] (enc S) (fX7_text F x1 x2 x3 x4 x5 S) := Rt.of rfl (Nat.le_of_ble_eq_true rfl) (by
  show V l G mX7_text oF phI _ 0 [(0, vR (0, 0)), (1, vI x1), (2, vI x2), (3, vI x3), (4, vI x4), (5, vI x5)] [] (enc S) 0 0
  unfold fX7_text
  refine V.iload_n dX7_text_0 2 rfl ?_
  refine V.bipush (v := (-9)) dX7_text_1 (by decide) ?_
  refine V.icmp_eq 13 dX7_text_3 (by decide) ?_ ?_
  · exact (tjX7_text_13 l G F x1 x2 x3 x4 x5 S)
  · refine V.iload_n dX7_text_6 2 rfl ?_
    refine V.callS (M' := mX7_isSong) (As := [vI x2]) (ψ := (phP S)) dX7_text_7 ml_X7_179 mfX7_isSong rfl ⟨by decide, by decide⟩ ⟨by decide, by decide⟩ (Nat.le_of_ble_eq_true rfl) rfl (kX7_isSong l G F x2 S) (fun a_7 => ?_)
    show V l G mX7_text oF phI _ 10 [(0, vR (0, 0)), (1, vI x1), (2, vI x2), (3, vI x3), (4, vI x4), (5, vI x5)] [vI a_7] (enc S) 0 0
    refine V.if_eq 17 dX7_text_10 (by decide) ?_ ?_
    · refine V.iconst (v := 0) dX7_text_17 (by decide) ?_
      exact (tjX7_text_18 l G F x1 x2 x3 x4 x5 0 S)
    · exact (tjX7_text_13 l G F x1 x2 x3 x4 x5 S))

