abbrev mX0_begin : vmt := (yX0_begin, cX0_begin, 2, none, { frames := 1, cells := 0, slots := 0, locals := 21 })
theorem mfX0_begin : mfV mX0_begin 1 := ⟨im_X0_begin, se_X0_begin, ini_X0, co_X0_begin, by decide, by decide, by decide +kernel⟩
def fX0_begin (F : Nat) (x1 : Int32) (S : vs) : Option vs := stp (s2 S (0, 2) 0 0) (fun S_1 => stp (s2 S_1 (0, 2) 1 (if 3 < x1 then 3 else x1)) (fun S_2 => some S_2))
theorem kX0_begin (l : Launch) (G : vg) (F : Nat) (x1 : Int32) (S : vs) : Rt l G mX0_begin none phV [vR (0, 2), vI x1] (enc S) (fX0_begin F x1 S) := Rt.of rfl (Nat.le_of_ble_eq_true rfl) (by
  show V l G mX0_begin none phV _ 0 [(0, vR (0, 2)), (1, vI x1)] [] (enc S) 0 0
  unfold fX0_begin
  refine V.aload_n dX0_begin_0 0 rfl ?_
  refine V.iconst (v := 0) dX0_begin_1 (by decide) ?_
  refine V.spI 0 0 dX0_begin_2 pf_X0_11 sh0_2 rfl rfl ?_
  refine V.sst fun S_1 => ?_
  refine V.aload_n dX0_begin_5 0 rfl ?_
  refine V.iload_n dX0_begin_6 1 rfl ?_
  refine V.iconst (v := 3) dX0_begin_7 (by decide) ?_
  refine V.mmin dX0_begin_8 ml_X0_51 (by decide) (Nat.le_of_ble_eq_true rfl) (by decide) (by decide) ?_
  refine V.spI 0 1 dX0_begin_11 pf_X0_15 sh0_2 rfl rfl ?_
  refine V.sst fun S_2 => ?_
  exact V.vret rfl dX0_begin_14 rfl (by decide) (by decide))

abbrev mX2_savedIn : vmt := (yX2_savedIn, cX2_savedIn, 4, (some .int), { frames := 1, cells := 0, slots := 0, locals := 21 })
theorem mfX2_savedIn : mfV mX2_savedIn 2 := ⟨im_X2_savedIn, se_X2_savedIn, ini_X2, co_X2_savedIn, by decide, by decide, by decide +kernel⟩
def jX2_savedIn_18 (F : Nat) (n0 : Nat) (sk0 : Int32) (sk1 : Int32) (S : vs) : Option Int32 := ltt (sk1 + sk0) (fun x_2 => gd (alv S.2.2 (1, n0)) (some ((S.1 (1, n0) 0) * (if 0 < ((S.1 (1, n0) 3) - x_2) then ((S.1 (1, n0) 3) - x_2) else 0))))

def fX2_savedIn (F : Nat) (n0 : Nat) (x1 : Int32) (x2 : Int32) (S : vs) : Option Int32 := gd (alv S.2.2 (1, n0)) (if x2 = 0 then jX2_savedIn_18 F n0 0 ((S.1 (1, n0) 2) * x1) S else jX2_savedIn_18 F n0 (S.1 (1, n0) 1) ((S.1 (1, n0) 2) * x1) S)
theorem tjX2_savedIn_18 (l : Launch) (G : vg) (F : Nat) (n0 : Nat) (sk0 : Int32) (sk1 : Int32) (S : vs) : V l G mX2_savedIn none (phP S) (jX2_savedIn_18 F n0 sk0 sk1 S) 18 [(0, vR (1, n0))] [vI sk0, vI sk1] (enc S) 0 0 := by
  unfold jX2_savedIn_18
  refine V.iadd dX2_savedIn_18 ?_
  refine V.lett fun x_2 => ?_
  refine V.istore_n (L' := [(0, vR (1, n0)), (3, vI x_2)]) dX2_savedIn_19 (by decide) rfl rfl ?_
  refine V.aload_n dX2_savedIn_20 0 rfl ?_
  refine V.chk fun h_3 => ?_
  refine V.sgI 2 0 dX2_savedIn_21 gf_X2_9 rfl rfl h_3 ?_
  refine V.iconst (v := 0) dX2_savedIn_24 (by decide) ?_
  refine V.aload_n dX2_savedIn_25 0 rfl ?_
  refine V.sgI 2 3 dX2_savedIn_26 gf_X2_15 rfl rfl h_3 ?_
  refine V.iload_n dX2_savedIn_29 1 rfl ?_
  refine V.isub dX2_savedIn_30 ?_
  refine V.mmax dX2_savedIn_31 ml_X2_45 (by decide) (Nat.le_of_ble_eq_true rfl) (by decide) (by decide) ?_
  refine V.imul dX2_savedIn_34 ?_
  exact V.iret rfl dX2_savedIn_35 rfl (by decide) (by decide)

theorem kX2_savedIn (l : Launch) (G : vg) (F : Nat) (n0 : Nat) (x1 : Int32) (x2 : Int32) (S : vs) : Rt l G mX2_savedIn none (phP S) [vR (1, n0), vI x1, vI x2] (enc S) (fX2_savedIn F n0 x1 x2 S) := Rt.of rfl (Nat.le_of_ble_eq_true rfl) (by
  show V l G mX2_savedIn none (phP S) _ 0 [(0, vR (1, n0)), (1, vI x1), (2, vI x2)] [] (enc S) 0 0
  unfold fX2_savedIn
  refine V.aload_n dX2_savedIn_0 0 rfl ?_
  refine V.chk fun h_1 => ?_
  refine V.sgI 2 2 dX2_savedIn_1 gf_X2_21 rfl rfl h_1 ?_
  refine V.iload_n dX2_savedIn_4 1 rfl ?_
  refine V.imul dX2_savedIn_5 ?_
  refine V.iload_n dX2_savedIn_6 2 rfl ?_
  refine V.if_eq 17 dX2_savedIn_7 (by decide) ?_ ?_
  · refine V.iconst (v := 0) dX2_savedIn_17 (by decide) ?_
    exact V.lsub [0] rfl (tjX2_savedIn_18 l G F n0 0 ((S.1 (1, n0) 2) * x1) S)
  · refine V.aload_n dX2_savedIn_10 0 rfl ?_
    refine V.sgI 2 1 dX2_savedIn_11 gf_X2_18 rfl rfl h_1 ?_
    refine V.goto 18 dX2_savedIn_14 (by decide) ?_
    exact V.lsub [0] rfl (tjX2_savedIn_18 l G F n0 (S.1 (1, n0) 1) ((S.1 (1, n0) 2) * x1) S))

abbrev mX0_take : vmt := (yX0_take, cX0_take, 3, none, { frames := 2, cells := 0, slots := 0, locals := 44 })
theorem mfX0_take : mfV mX0_take 1 := ⟨im_X0_take, se_X0_take, ini_X0, co_X0_take, by decide, by decide, by decide +kernel⟩
def hX0_take_38 (F : Nat) (n1 : Nat) : Nat → Int32 → vs → Option vs
  | 0, _, _ => none
  | n + 1, x2, S => if (S.1 (0, 2) 1) ≤ x2 then stp (s2 S (0, 2) 0 ((S.1 (0, 2) 0) + 1)) (fun S_7 => some S_7) else (rget 5 S (0, 9) (2 * x2)).bind (fun q_8 => gd (alv S.2.2 (1, n1)) ((fX2_savedIn F n1 x2 0 S).bind (fun a_11 => gd (inb (S.1 (0, 2) 0) (alen 0 S.2.2 (4, q_8))) (stp (s2 S (4, q_8) (S.1 (0, 2) 0).toNatClampNeg a_11) (fun S_13 => (rget 5 S_13 (0, 9) ((2 * x2) + 1)).bind (fun q_14 => gd (alv S_13.2.2 (1, n1)) ((fX2_savedIn F n1 x2 1 S_13).bind (fun a_17 => gd (inb (S_13.1 (0, 2) 0) (alen 0 S_13.2.2 (4, q_14))) (stp (s2 S_13 (4, q_14) (S_13.1 (0, 2) 0).toNatClampNeg a_17) (fun S_19 => ltt (x2 + 1) (fun x_20 => hX0_take_38 F n1 n x_20 S_19)))))))))))

def fX0_take (F : Nat) (n1 : Nat) (S : vs) : Option vs := if (S.1 (0, 2) 0) < 6 then gd (alv S.2.2 (1, n1)) (gd (inb (S.1 (0, 2) 0) (alen 0 S.2.2 (0, 7))) (stp (s2 S (0, 7) (S.1 (0, 2) 0).toNatClampNeg (S.1 (1, n1) 4)) (fun S_3 => gd (alv S_3.2.2 (1, n1)) (gd (inb (S_3.1 (0, 2) 0) (alen 0 S_3.2.2 (0, 8))) (stp (s2 S_3 (0, 8) (S_3.1 (0, 2) 0).toNatClampNeg (S_3.1 (1, n1) 5)) (fun S_6 => hX0_take_38 F n1 F 0 S_6)))))) else some S
theorem thX0_take_38 (l : Launch) (G : vg) (F : Nat) (n1 : Nat) : ∀ (n : Nat) (x2 : Int32) (S : vs), V l G mX0_take none phV (hX0_take_38 F n1 n x2 S) 38 [(0, vR (0, 2)), (1, vR (1, n1)), (2, vI x2)] [] (enc S) 0 0
  | 0, _, _ => V.nil
  | n + 1, x2, S => by
    have ih := thX0_take_38 l G F n1 n
    rw [hX0_take_38]
    refine V.iload_n dX0_take_38 2 rfl ?_
    refine V.aload_n dX0_take_39 0 rfl ?_
    refine V.sgI 0 1 dX0_take_40 gf_X0_15 sh0_2 rfl rfl ?_
    refine V.icmp_ge 92 dX0_take_43 (by decide) ?_ ?_
    · refine V.aload_n dX0_take_92 0 rfl ?_
      refine V.dup dX0_take_93 rfl ?_
      refine V.sgI 0 0 dX0_take_94 gf_X0_11 sh0_2 rfl rfl ?_
      refine V.iconst (v := 1) dX0_take_97 (by decide) ?_
      refine V.iadd dX0_take_98 ?_
      refine V.spI 0 0 dX0_take_99 pf_X0_11 sh0_2 rfl rfl ?_
      refine V.sst fun S_7 => ?_
      exact V.vret rfl dX0_take_102 rfl (by decide) (by decide)
    · refine V.aload_n dX0_take_46 0 rfl ?_
      refine V.sgR 0 4 dX0_take_47 gf_X0_27 sh0_2 rfl rfl ?_
      refine V.iconst (v := 2) dX0_take_50 (by decide) ?_
      refine V.iload_n dX0_take_51 2 rfl ?_
      refine V.imul dX0_take_52 ?_
      refine V.sbind fun q_8 h_9 => ?_
      refine V.saa (t := 5) dX0_take_53 rfl rfl h_9 ?_
      refine V.aload_n dX0_take_54 0 rfl ?_
      refine V.sgI 0 0 dX0_take_55 gf_X0_11 sh0_2 rfl rfl ?_
      refine V.aload_n dX0_take_58 1 rfl ?_
      refine V.iload_n dX0_take_59 2 rfl ?_
      refine V.iconst (v := 0) dX0_take_60 (by decide) ?_
      refine V.chk fun h_10 => ?_
      refine V.callV (M' := mX2_savedIn) (As := [vI x2, vI 0]) (ψ := (phP S)) dX0_take_61 ml_X0_63 mfX2_savedIn rfl ⟨by decide, by decide⟩ ⟨by decide, by decide⟩ (enc_at h_10 rfl) rfl (Nat.le_of_ble_eq_true rfl) rfl (kX2_savedIn l G F n1 x2 0 S) (fun a_11 => ?_)
      show V l G mX0_take none phV _ 64 [(0, vR (0, 2)), (1, vR (1, n1)), (2, vI x2)] [vI a_11, vI (S.1 (0, 2) 0), vR (4, q_8)] (enc S) 0 0
      refine V.chk fun h_12 => ?_
      refine V.sis dX0_take_64 h_12 ?_
      refine V.sst fun S_13 => ?_
      refine V.aload_n dX0_take_65 0 rfl ?_
      refine V.sgR 0 4 dX0_take_66 gf_X0_27 sh0_2 rfl rfl ?_
      refine V.iconst (v := 2) dX0_take_69 (by decide) ?_
      refine V.iload_n dX0_take_70 2 rfl ?_
      refine V.imul dX0_take_71 ?_
      refine V.iconst (v := 1) dX0_take_72 (by decide) ?_
      refine V.iadd dX0_take_73 ?_
      refine V.sbind fun q_14 h_15 => ?_
      refine V.saa (t := 5) dX0_take_74 rfl rfl h_15 ?_
      refine V.aload_n dX0_take_75 0 rfl ?_
      refine V.sgI 0 0 dX0_take_76 gf_X0_11 sh0_2 rfl rfl ?_
      refine V.aload_n dX0_take_79 1 rfl ?_
      refine V.iload_n dX0_take_80 2 rfl ?_
      refine V.iconst (v := 1) dX0_take_81 (by decide) ?_
      refine V.chk fun h_16 => ?_
      refine V.callV (M' := mX2_savedIn) (As := [vI x2, vI 1]) (ψ := (phP S_13)) dX0_take_82 ml_X0_63 mfX2_savedIn rfl ⟨by decide, by decide⟩ ⟨by decide, by decide⟩ (enc_at h_16 rfl) rfl (Nat.le_of_ble_eq_true rfl) rfl (kX2_savedIn l G F n1 x2 1 S_13) (fun a_17 => ?_)
      show V l G mX0_take none phV _ 85 [(0, vR (0, 2)), (1, vR (1, n1)), (2, vI x2)] [vI a_17, vI (S_13.1 (0, 2) 0), vR (4, q_14)] (enc S_13) 0 0
      refine V.chk fun h_18 => ?_
      refine V.sis dX0_take_85 h_18 ?_
      refine V.sst fun S_19 => ?_
      refine V.lti (e := x2 + 1) (fun x_20 he => ?_)
      refine V.iinc (v := x_20) (L' := [(0, vR (0, 2)), (1, vR (1, n1)), (2, vI x_20)]) dX0_take_86 2 rfl he.symm (by decide) rfl rfl ?_
      refine V.goto 38 dX0_take_89 (by decide) ?_
      exact (ih x_20 S_19)

theorem kX0_take (l : Launch) (G : vg) (F : Nat) (n1 : Nat) (S : vs) : Rt l G mX0_take none phV [vR (0, 2), vR (1, n1)] (enc S) (fX0_take F n1 S) := Rt.of rfl (Nat.le_of_ble_eq_true rfl) (by
  show V l G mX0_take none phV _ 0 [(0, vR (0, 2)), (1, vR (1, n1))] [] (enc S) 0 0
  unfold fX0_take
  refine V.aload_n dX0_take_0 0 rfl ?_
  refine V.sgI 0 0 dX0_take_1 gf_X0_11 sh0_2 rfl rfl ?_
  refine V.bipush (v := 6) dX0_take_4 (by decide) ?_
  refine V.icmp_lt 10 dX0_take_6 (by decide) ?_ ?_
  · refine V.aload_n dX0_take_10 0 rfl ?_
    refine V.sgR 0 2 dX0_take_11 gf_X0_18 sh0_2 rfl rfl ?_
    refine V.aload_n dX0_take_14 0 rfl ?_
    refine V.sgI 0 0 dX0_take_15 gf_X0_11 sh0_2 rfl rfl ?_
    refine V.aload_n dX0_take_18 1 rfl ?_
    refine V.chk fun h_1 => ?_
    refine V.sgI 2 4 dX0_take_19 gf_X0_57 rfl rfl h_1 ?_
    refine V.chk fun h_2 => ?_
    refine V.sis dX0_take_22 h_2 ?_
    refine V.sst fun S_3 => ?_
    refine V.aload_n dX0_take_23 0 rfl ?_
    refine V.sgR 0 3 dX0_take_24 gf_X0_22 sh0_2 rfl rfl ?_
    refine V.aload_n dX0_take_27 0 rfl ?_
    refine V.sgI 0 0 dX0_take_28 gf_X0_11 sh0_2 rfl rfl ?_
    refine V.aload_n dX0_take_31 1 rfl ?_
    refine V.chk fun h_4 => ?_
    refine V.sgI 2 5 dX0_take_32 gf_X0_61 rfl rfl h_4 ?_
    refine V.chk fun h_5 => ?_
    refine V.sis dX0_take_35 h_5 ?_
    refine V.sst fun S_6 => ?_
    refine V.iconst (v := 0) dX0_take_36 (by decide) ?_
    refine V.istore_n (L' := [(0, vR (0, 2)), (1, vR (1, n1)), (2, vI 0)]) dX0_take_37 (by decide) rfl rfl ?_
    exact (thX0_take_38 l G F n1 F 0 S_6)
  · exact V.vret rfl dX0_take_9 rfl (by decide) (by decide))

abbrev mX0_addUp : vmt := (yX0_addUp, cX0_addUp, 7, none, { frames := 0, cells := 0, slots := 0, locals := 0 })
theorem mfX0_addUp : mfV mX0_addUp 3 := ⟨im_X0_addUp, se_X0_addUp, ini_X0, co_X0_addUp, by decide, by decide, by decide +kernel⟩
def hX0_addUp_27 (k7 : Int32 → vs → Option vs) (F : Nat) (a1 : vk) (x2 : Int32) (a3 : vk) (x4 : Int32) (x5 : Int32) : Nat → Int32 → vs → Option vs
  | 0, _, _ => none
  | n + 1, x6, S => if x5 ≤ x6 then ltt (x4 + 1) (fun x_4 => k7 x_4 S) else gd (inb x6 (alen 0 S.2.2 a3)) (gd (inb x4 (alen 0 S.2.2 a1)) (gd (inb (x6 + x5) (alen 0 S.2.2 a3)) (stp (s2 S a3 (x6 + x5).toNatClampNeg ((S.1 a3 x6.toNatClampNeg) + (S.1 a1 x4.toNatClampNeg))) (fun S_8 => ltt (x6 + 1) (fun x_9 => hX0_addUp_27 k7 F a1 x2 a3 x4 x5 n x_9 S_8)))))

def hX0_addUp_7 (F : Nat) (a1 : vk) (x2 : Int32) (a3 : vk) : Nat → Int32 → vs → Option vs
  | 0, _, _ => none
  | n + 1, x4, S => if (S.1 (0, 2) 0) ≤ x4 then some S else ltt ((1 : Int32) <<< ((x4 - x2) &&& 31)) (fun x_3 => hX0_addUp_27 (hX0_addUp_7 F a1 x2 a3 n) F a1 x2 a3 x4 x_3 F 0 S)

def fX0_addUp (F : Nat) (a1 : vk) (x2 : Int32) (a3 : vk) (S : vs) : Option vs := gd (inb 0 (alen 0 S.2.2 a3)) (stp (s2 S a3 (Int32.toNatClampNeg 0) 0) (fun S_2 => hX0_addUp_7 F a1 x2 a3 F x2 S_2))
theorem thX0_addUp_27 (l : Launch) (G : vg) (F : Nat) (a1 : vk) (x2 : Int32) (a3 : vk) (x4 : Int32) (x5 : Int32) (k7 : Int32 → vs → Option vs) (H7 : ∀ (z4 : Int32), ∀ (Sz : vs), V l G mX0_addUp none phV (k7 z4 Sz) 7 [(0, vR (0, 2)), (1, vR a1), (2, vI x2), (3, vR a3), (4, vI z4)] [] (enc Sz) 0 0) : ∀ (n : Nat) (x6 : Int32) (S : vs), V l G mX0_addUp none phV (hX0_addUp_27 k7 F a1 x2 a3 x4 x5 n x6 S) 27 [(0, vR (0, 2)), (1, vR a1), (2, vI x2), (3, vR a3), (4, vI x4), (5, vI x5), (6, vI x6)] [] (enc S) 0 0
  | 0, _, _ => V.nil
  | n + 1, x6, S => by
    have ih := thX0_addUp_27 l G F a1 x2 a3 x4 x5 k7 H7 n
    rw [hX0_addUp_27]
    refine V.iload dX0_addUp_27 6 rfl ?_
    refine V.iload dX0_addUp_29 5 rfl ?_
    refine V.icmp_ge 56 dX0_addUp_31 (by decide) ?_ ?_
    · refine V.lti (e := x4 + 1) (fun x_4 he => ?_)
      refine V.iinc (v := x_4) (L' := [(0, vR (0, 2)), (1, vR a1), (2, vI x2), (3, vR a3), (4, vI x_4), (5, vI x5), (6, vI x6)]) dX0_addUp_56 4 rfl he.symm (by decide) rfl rfl ?_
      refine V.goto 7 dX0_addUp_59 (by decide) ?_
      exact V.lsub [0, 1, 2, 3, 4] rfl (H7 x_4 S)
    · refine V.aload_n dX0_addUp_34 3 rfl ?_
      refine V.iload dX0_addUp_35 6 rfl ?_
      refine V.iload dX0_addUp_37 5 rfl ?_
      refine V.iadd dX0_addUp_39 ?_
      refine V.aload_n dX0_addUp_40 3 rfl ?_
      refine V.iload dX0_addUp_41 6 rfl ?_
      refine V.chk fun h_5 => ?_
      refine V.sia dX0_addUp_43 h_5 ?_
      refine V.aload_n dX0_addUp_44 1 rfl ?_
      refine V.iload dX0_addUp_45 4 rfl ?_
      refine V.chk fun h_6 => ?_
      refine V.sia dX0_addUp_47 h_6 ?_
      refine V.iadd dX0_addUp_48 ?_
      refine V.chk fun h_7 => ?_
      refine V.sis dX0_addUp_49 h_7 ?_
      refine V.sst fun S_8 => ?_
      refine V.lti (e := x6 + 1) (fun x_9 he => ?_)
      refine V.iinc (v := x_9) (L' := [(0, vR (0, 2)), (1, vR a1), (2, vI x2), (3, vR a3), (4, vI x4), (5, vI x5), (6, vI x_9)]) dX0_addUp_50 6 rfl he.symm (by decide) rfl rfl ?_
      refine V.goto 27 dX0_addUp_53 (by decide) ?_
      exact (ih x_9 S_8)

theorem thX0_addUp_7 (l : Launch) (G : vg) (F : Nat) (a1 : vk) (x2 : Int32) (a3 : vk) : ∀ (n : Nat) (x4 : Int32) (S : vs), V l G mX0_addUp none phV (hX0_addUp_7 F a1 x2 a3 n x4 S) 7 [(0, vR (0, 2)), (1, vR a1), (2, vI x2), (3, vR a3), (4, vI x4)] [] (enc S) 0 0
  | 0, _, _ => V.nil
  | n + 1, x4, S => by
    have ih := thX0_addUp_7 l G F a1 x2 a3 n
    rw [hX0_addUp_7]
    refine V.iload dX0_addUp_7 4 rfl ?_
    refine V.aload_n dX0_addUp_9 0 rfl ?_
    refine V.sgI 0 0 dX0_addUp_10 gf_X0_11 sh0_2 rfl rfl ?_
    refine V.icmp_ge 62 dX0_addUp_13 (by decide) ?_ ?_
    · exact V.vret rfl dX0_addUp_62 rfl (by decide) (by decide)
    · refine V.iconst (v := 1) dX0_addUp_16 (by decide) ?_
      refine V.iload dX0_addUp_17 4 rfl ?_
      refine V.iload_n dX0_addUp_19 2 rfl ?_
      refine V.isub dX0_addUp_20 ?_
      refine V.ishl dX0_addUp_21 ?_
      refine V.lett fun x_3 => ?_
      refine V.istore (L' := [(0, vR (0, 2)), (1, vR a1), (2, vI x2), (3, vR a3), (4, vI x4), (5, vI x_3)]) dX0_addUp_22 (by decide) rfl rfl ?_
      refine V.iconst (v := 0) dX0_addUp_24 (by decide) ?_
      refine V.istore (L' := [(0, vR (0, 2)), (1, vR a1), (2, vI x2), (3, vR a3), (4, vI x4), (5, vI x_3), (6, vI 0)]) dX0_addUp_25 (by decide) rfl rfl ?_
      exact (thX0_addUp_27 l G F a1 x2 a3 x4 x_3 (hX0_addUp_7 F a1 x2 a3 n) ih F 0 S)

theorem kX0_addUp (l : Launch) (G : vg) (F : Nat) (a1 : vk) (x2 : Int32) (a3 : vk) (S : vs) : Rt l G mX0_addUp none phV [vR (0, 2), vR a1, vI x2, vR a3] (enc S) (fX0_addUp F a1 x2 a3 S) := Rt.of rfl (Nat.le_of_ble_eq_true rfl) (by
  show V l G mX0_addUp none phV _ 0 [(0, vR (0, 2)), (1, vR a1), (2, vI x2), (3, vR a3)] [] (enc S) 0 0
  unfold fX0_addUp
  refine V.aload_n dX0_addUp_0 3 rfl ?_
  refine V.iconst (v := 0) dX0_addUp_1 (by decide) ?_
  refine V.iconst (v := 0) dX0_addUp_2 (by decide) ?_
  refine V.chk fun h_1 => ?_
  refine V.sis dX0_addUp_3 h_1 ?_
  refine V.sst fun S_2 => ?_
  refine V.iload_n dX0_addUp_4 2 rfl ?_
  refine V.istore (L' := [(0, vR (0, 2)), (1, vR a1), (2, vI x2), (3, vR a3), (4, vI x2)]) dX0_addUp_5 (by decide) rfl rfl ?_
  exact (thX0_addUp_7 l G F a1 x2 a3 F x2 S_2))

abbrev mX0_savedTogether : vmt := (yX0_savedTogether, cX0_savedTogether, 6, (some .int), { frames := 1, cells := 0, slots := 0, locals := 21 })
theorem mfX0_savedTogether : mfV mX0_savedTogether 2 := ⟨im_X0_savedTogether, se_X0_savedTogether, ini_X0, co_X0_savedTogether, by decide, by decide, by decide +kernel⟩
def jX0_savedTogether_74 (k24 : Int32 → Int32 → Option Int32) (F : Nat) (x1 : Int32) (x2 : Int32) (x3 : Int32) (x4 : Int32) (S : vs) : Option Int32 := ltt ((x4 - 1) &&& x1) (fun x_5 => k24 x3 x_5)

def hX0_savedTogether_24 (F : Nat) (S : vs) (x1 : Int32) (x2 : Int32) : Nat → Int32 → Int32 → Option Int32
  | 0, _, _ => none
  | n + 1, x3, x4 => if x4 ≤ 0 then some x3 else ltt (x1 ^^^ x4) (fun x_2 => gd (inb x4 (alen 0 S.2.2 (0, 12))) (gd (inb x_2 (alen 0 S.2.2 (0, 11))) (if x2 < ((S.1 (0, 12) x4.toNatClampNeg) + (S.1 (0, 11) x_2.toNatClampNeg)) then jX0_savedTogether_74 (hX0_savedTogether_24 F S x1 x2 n) F x1 x2 x3 x4 S else gd (inb x4 (alen 0 S.2.2 (0, 14))) (gd (inb x_2 (alen 0 S.2.2 (0, 13))) (ltt ((if x3 < ((S.1 (0, 14) x4.toNatClampNeg) + (S.1 (0, 13) x_2.toNatClampNeg)) then ((S.1 (0, 14) x4.toNatClampNeg) + (S.1 (0, 13) x_2.toNatClampNeg)) else x3)) (fun x_8 => jX0_savedTogether_74 (hX0_savedTogether_24 F S x1 x2 n) F x1 x2 x_8 x4 S))))))

def jX0_savedTogether_20 (F : Nat) (x1 : Int32) (x2 : Int32) (sk0 : Int32) (S : vs) : Option Int32 := hX0_savedTogether_24 F S x1 x2 F sk0 x1

def fX0_savedTogether (F : Nat) (x1 : Int32) (x2 : Int32) (S : vs) : Option Int32 := gd (inb x1 (alen 0 S.2.2 (0, 11))) (if x2 < (S.1 (0, 11) x1.toNatClampNeg) then jX0_savedTogether_20 F x1 x2 (-1) S else gd (inb x1 (alen 0 S.2.2 (0, 13))) (jX0_savedTogether_20 F x1 x2 (S.1 (0, 13) x1.toNatClampNeg) S))
theorem tjX0_savedTogether_74 (l : Launch) (G : vg) (F : Nat) (x1 : Int32) (x2 : Int32) (x3 : Int32) (x4 : Int32) (S : vs) (k24 : Int32 → Int32 → Option Int32) (H24 : ∀ (z3 : Int32), ∀ (z4 : Int32), V l G mX0_savedTogether none (phP S) (k24 z3 z4) 24 [(0, vR (0, 2)), (1, vI x1), (2, vI x2), (3, vI z3), (4, vI z4)] [] (enc S) 0 0) : V l G mX0_savedTogether none (phP S) (jX0_savedTogether_74 k24 F x1 x2 x3 x4 S) 74 [(0, vR (0, 2)), (1, vI x1), (2, vI x2), (3, vI x3), (4, vI x4)] [] (enc S) 0 0 := by
  unfold jX0_savedTogether_74
  refine V.iload dX0_savedTogether_74 4 rfl ?_
  refine V.iconst (v := 1) dX0_savedTogether_76 (by decide) ?_
  refine V.isub dX0_savedTogether_77 ?_
  refine V.iload_n dX0_savedTogether_78 1 rfl ?_
  refine V.iand dX0_savedTogether_79 ?_
  refine V.lett fun x_5 => ?_
  refine V.istore (L' := [(0, vR (0, 2)), (1, vI x1), (2, vI x2), (3, vI x3), (4, vI x_5)]) dX0_savedTogether_80 (by decide) rfl rfl ?_
  refine V.goto 24 dX0_savedTogether_82 (by decide) ?_
  exact (H24 x3 x_5)

theorem thX0_savedTogether_24 (l : Launch) (G : vg) (F : Nat) (S : vs) (x1 : Int32) (x2 : Int32) : ∀ (n : Nat) (x3 : Int32) (x4 : Int32), V l G mX0_savedTogether none (phP S) (hX0_savedTogether_24 F S x1 x2 n x3 x4) 24 [(0, vR (0, 2)), (1, vI x1), (2, vI x2), (3, vI x3), (4, vI x4)] [] (enc S) 0 0
  | 0, _, _ => V.nil
  | n + 1, x3, x4 => by
    have ih := thX0_savedTogether_24 l G F S x1 x2 n
    rw [hX0_savedTogether_24]
    refine V.iload dX0_savedTogether_24 4 rfl ?_
    refine V.if_le 85 dX0_savedTogether_26 (by decide) ?_ ?_
    · refine V.iload_n dX0_savedTogether_85 3 rfl ?_
      exact V.iret rfl dX0_savedTogether_86 rfl (by decide) (by decide)
    · refine V.iload_n dX0_savedTogether_29 1 rfl ?_
      refine V.iload dX0_savedTogether_30 4 rfl ?_
      refine V.ixor dX0_savedTogether_32 ?_
      refine V.lett fun x_2 => ?_
      refine V.istore (L' := [(0, vR (0, 2)), (1, vI x1), (2, vI x2), (3, vI x3), (4, vI x4), (5, vI x_2)]) dX0_savedTogether_33 (by decide) rfl rfl ?_
      refine V.aload_n dX0_savedTogether_35 0 rfl ?_
      refine V.sgR 0 7 dX0_savedTogether_36 gf_X0_36 sh0_2 rfl rfl ?_
      refine V.iload dX0_savedTogether_39 4 rfl ?_
      refine V.chk fun h_3 => ?_
      refine V.sia dX0_savedTogether_41 h_3 ?_
      refine V.aload_n dX0_savedTogether_42 0 rfl ?_
      refine V.sgR 0 6 dX0_savedTogether_43 gf_X0_33 sh0_2 rfl rfl ?_
      refine V.iload dX0_savedTogether_46 5 rfl ?_
      refine V.chk fun h_4 => ?_
      refine V.sia dX0_savedTogether_48 h_4 ?_
      refine V.iadd dX0_savedTogether_49 ?_
      refine V.iload_n dX0_savedTogether_50 2 rfl ?_
      refine V.icmp_gt 74 dX0_savedTogether_51 (by decide) ?_ ?_
      · exact V.lsub [0, 1, 2, 3, 4] rfl (tjX0_savedTogether_74 l G F x1 x2 x3 x4 S (hX0_savedTogether_24 F S x1 x2 n) ih)
      · refine V.iload_n dX0_savedTogether_54 3 rfl ?_
        refine V.aload_n dX0_savedTogether_55 0 rfl ?_
        refine V.sgR 0 9 dX0_savedTogether_56 gf_X0_42 sh0_2 rfl rfl ?_
        refine V.iload dX0_savedTogether_59 4 rfl ?_
        refine V.chk fun h_6 => ?_
        refine V.sia dX0_savedTogether_61 h_6 ?_
        refine V.aload_n dX0_savedTogether_62 0 rfl ?_
        refine V.sgR 0 8 dX0_savedTogether_63 gf_X0_39 sh0_2 rfl rfl ?_
        refine V.iload dX0_savedTogether_66 5 rfl ?_
        refine V.chk fun h_7 => ?_
        refine V.sia dX0_savedTogether_68 h_7 ?_
        refine V.iadd dX0_savedTogether_69 ?_
        refine V.mmax dX0_savedTogether_70 ml_X0_97 (by decide) (Nat.le_of_ble_eq_true rfl) (by decide) (by decide) ?_
        refine V.lett fun x_8 => ?_
        refine V.istore_n (L' := [(0, vR (0, 2)), (1, vI x1), (2, vI x2), (3, vI x_8), (4, vI x4), (5, vI x_2)]) dX0_savedTogether_73 (by decide) rfl rfl ?_
        exact V.lsub [0, 1, 2, 3, 4] rfl (tjX0_savedTogether_74 l G F x1 x2 x_8 x4 S (hX0_savedTogether_24 F S x1 x2 n) ih)

theorem tjX0_savedTogether_20 (l : Launch) (G : vg) (F : Nat) (x1 : Int32) (x2 : Int32) (sk0 : Int32) (S : vs) : V l G mX0_savedTogether none (phP S) (jX0_savedTogether_20 F x1 x2 sk0 S) 20 [(0, vR (0, 2)), (1, vI x1), (2, vI x2)] [vI sk0] (enc S) 0 0 := by
  unfold jX0_savedTogether_20
  refine V.istore_n (L' := [(0, vR (0, 2)), (1, vI x1), (2, vI x2), (3, vI sk0)]) dX0_savedTogether_20 (by decide) rfl rfl ?_
  refine V.iload_n dX0_savedTogether_21 1 rfl ?_
  refine V.istore (L' := [(0, vR (0, 2)), (1, vI x1), (2, vI x2), (3, vI sk0), (4, vI x1)]) dX0_savedTogether_22 (by decide) rfl rfl ?_
  exact (thX0_savedTogether_24 l G F S x1 x2 F sk0 x1)

theorem kX0_savedTogether (l : Launch) (G : vg) (F : Nat) (x1 : Int32) (x2 : Int32) (S : vs) : Rt l G mX0_savedTogether none (phP S) [vR (0, 2), vI x1, vI x2] (enc S) (fX0_savedTogether F x1 x2 S) := Rt.of rfl (Nat.le_of_ble_eq_true rfl) (by
  show V l G mX0_savedTogether none (phP S) _ 0 [(0, vR (0, 2)), (1, vI x1), (2, vI x2)] [] (enc S) 0 0
  unfold fX0_savedTogether
  refine V.aload_n dX0_savedTogether_0 0 rfl ?_
  refine V.sgR 0 6 dX0_savedTogether_1 gf_X0_33 sh0_2 rfl rfl ?_
  refine V.iload_n dX0_savedTogether_4 1 rfl ?_
  refine V.chk fun h_1 => ?_
  refine V.sia dX0_savedTogether_5 h_1 ?_
  refine V.iload_n dX0_savedTogether_6 2 rfl ?_
  refine V.icmp_gt 19 dX0_savedTogether_7 (by decide) ?_ ?_
  · refine V.iconst (v := (-1)) dX0_savedTogether_19 (by decide) ?_
    exact (tjX0_savedTogether_20 l G F x1 x2 (-1) S)
  · refine V.aload_n dX0_savedTogether_10 0 rfl ?_
    refine V.sgR 0 8 dX0_savedTogether_11 gf_X0_39 sh0_2 rfl rfl ?_
    refine V.iload_n dX0_savedTogether_14 1 rfl ?_
    refine V.chk fun h_9 => ?_
    refine V.sia dX0_savedTogether_15 h_9 ?_
    refine V.goto 20 dX0_savedTogether_16 (by decide) ?_
    exact (tjX0_savedTogether_20 l G F x1 x2 (S.1 (0, 13) x1.toNatClampNeg) S))

abbrev mX0_joinYear : vmt := (yX0_joinYear, cX0_joinYear, 5, none, { frames := 1, cells := 0, slots := 0, locals := 21 })
theorem mfX0_joinYear : mfV mX0_joinYear 1 := ⟨im_X0_joinYear, se_X0_joinYear, ini_X0, co_X0_joinYear, by decide, by decide, by decide +kernel⟩
def jX0_joinYear_56 (k4 : Int32 → vs → Option vs) (k18 : Int32 → Int32 → vs → Option vs) (F : Nat) (x2 : Int32) (x3 : Int32) (x4 : Int32) (S : vs) : Option vs := ltt ((x4 - 1) &&& x2) (fun x_8 => k18 x3 x_8 S)

def hX0_joinYear_18 (k4 : Int32 → vs → Option vs) (F : Nat) (x2 : Int32) : Nat → Int32 → Int32 → vs → Option vs
  | 0, _, _, _ => none
  | n + 1, x3, x4, S => if x4 ≤ 0 then gd (inb x2 (alen 0 S.2.2 (0, 16))) (stp (s2 S (0, 16) x2.toNatClampNeg x3) (fun S_5 => ltt (x2 + (-1)) (fun x_6 => k4 x_6 S_5))) else gd (inb x4 (alen 0 S.2.2 (0, 15))) (if (S.1 (0, 15) x4.toNatClampNeg) = (-1) then jX0_joinYear_56 k4 (hX0_joinYear_18 k4 F x2 n) F x2 x3 x4 S else gd (inb (x2 ^^^ x4) (alen 0 S.2.2 (0, 16))) (ltt ((if x3 < ((S.1 (0, 16) (x2 ^^^ x4).toNatClampNeg) + (S.1 (0, 15) x4.toNatClampNeg)) then ((S.1 (0, 16) (x2 ^^^ x4).toNatClampNeg) + (S.1 (0, 15) x4.toNatClampNeg)) else x3)) (fun x_10 => jX0_joinYear_56 k4 (hX0_joinYear_18 k4 F x2 n) F x2 x_10 x4 S)))

def hX0_joinYear_4 (F : Nat) : Nat → Int32 → vs → Option vs
  | 0, _, _ => none
  | n + 1, x2, S => if x2 ≤ 0 then some S else gd (inb x2 (alen 0 S.2.2 (0, 16))) (ltt (S.1 (0, 16) x2.toNatClampNeg) (fun x_3 => hX0_joinYear_18 (hX0_joinYear_4 F n) F x2 F x_3 x2 S))

def fX0_joinYear (F : Nat) (x1 : Int32) (S : vs) : Option vs := ltt (x1 - 1) (fun x_1 => hX0_joinYear_4 F F x_1 S)
theorem tjX0_joinYear_56 (l : Launch) (G : vg) (F : Nat) (x2 : Int32) (x3 : Int32) (x4 : Int32) (S : vs) (k4 : Int32 → vs → Option vs) (H4 : ∀ (z2 : Int32), ∀ (Sz : vs), V l G mX0_joinYear none phV (k4 z2 Sz) 4 [(0, vR (0, 2)), (2, vI z2)] [] (enc Sz) 0 0) (k18 : Int32 → Int32 → vs → Option vs) (H18 : ∀ (z3 : Int32), ∀ (z4 : Int32), ∀ (Sz : vs), V l G mX0_joinYear none phV (k18 z3 z4 Sz) 18 [(0, vR (0, 2)), (2, vI x2), (3, vI z3), (4, vI z4)] [] (enc Sz) 0 0) : V l G mX0_joinYear none phV (jX0_joinYear_56 k4 k18 F x2 x3 x4 S) 56 [(0, vR (0, 2)), (2, vI x2), (3, vI x3), (4, vI x4)] [] (enc S) 0 0 := by
  unfold jX0_joinYear_56
  refine V.iload dX0_joinYear_56 3 rfl ?_
  refine V.iconst (v := 1) dX0_joinYear_58 (by decide) ?_
  refine V.isub dX0_joinYear_59 ?_
  refine V.iload_n dX0_joinYear_60 1 rfl ?_
  refine V.iand dX0_joinYear_61 ?_
  refine V.lett fun x_8 => ?_
  refine V.istore (L' := [(0, vR (0, 2)), (2, vI x2), (3, vI x3), (4, vI x_8)]) dX0_joinYear_62 (by decide) rfl rfl ?_
  refine V.goto 18 dX0_joinYear_64 (by decide) ?_
  exact (H18 x3 x_8 S)

theorem thX0_joinYear_18 (l : Launch) (G : vg) (F : Nat) (x2 : Int32) (k4 : Int32 → vs → Option vs) (H4 : ∀ (z2 : Int32), ∀ (Sz : vs), V l G mX0_joinYear none phV (k4 z2 Sz) 4 [(0, vR (0, 2)), (2, vI z2)] [] (enc Sz) 0 0) : ∀ (n : Nat) (x3 : Int32) (x4 : Int32) (S : vs), V l G mX0_joinYear none phV (hX0_joinYear_18 k4 F x2 n x3 x4 S) 18 [(0, vR (0, 2)), (2, vI x2), (3, vI x3), (4, vI x4)] [] (enc S) 0 0
  | 0, _, _, _ => V.nil
  | n + 1, x3, x4, S => by
    have ih := thX0_joinYear_18 l G F x2 k4 H4 n
    rw [hX0_joinYear_18]
    refine V.iload dX0_joinYear_18 3 rfl ?_
    refine V.if_le 67 dX0_joinYear_20 (by decide) ?_ ?_
    · refine V.aload_n dX0_joinYear_67 0 rfl ?_
      refine V.sgR 0 11 dX0_joinYear_68 gf_X0_48 sh0_2 rfl rfl ?_
      refine V.iload_n dX0_joinYear_71 1 rfl ?_
      refine V.iload_n dX0_joinYear_72 2 rfl ?_
      refine V.chk fun h_4 => ?_
      refine V.sis dX0_joinYear_73 h_4 ?_
      refine V.sst fun S_5 => ?_
      refine V.lti (e := x2 + (-1)) (fun x_6 he => ?_)
      refine V.iinc (v := x_6) (L' := [(0, vR (0, 2)), (2, vI x_6), (3, vI x3), (4, vI x4)]) dX0_joinYear_74 1 rfl he.symm (by decide) rfl rfl ?_
      refine V.goto 4 dX0_joinYear_77 (by decide) ?_
      exact V.lsub [0, 1] rfl (H4 x_6 S_5)
    · refine V.aload_n dX0_joinYear_23 0 rfl ?_
      refine V.sgR 0 10 dX0_joinYear_24 gf_X0_45 sh0_2 rfl rfl ?_
      refine V.iload dX0_joinYear_27 3 rfl ?_
      refine V.chk fun h_7 => ?_
      refine V.sia dX0_joinYear_29 h_7 ?_
      refine V.iconst (v := (-1)) dX0_joinYear_30 (by decide) ?_
      refine V.icmp_eq 56 dX0_joinYear_31 (by decide) ?_ ?_
      · exact (tjX0_joinYear_56 l G F x2 x3 x4 S k4 H4 (hX0_joinYear_18 k4 F x2 n) ih)
      · refine V.iload_n dX0_joinYear_34 2 rfl ?_
        refine V.aload_n dX0_joinYear_35 0 rfl ?_
        refine V.sgR 0 11 dX0_joinYear_36 gf_X0_48 sh0_2 rfl rfl ?_
        refine V.iload_n dX0_joinYear_39 1 rfl ?_
        refine V.iload dX0_joinYear_40 3 rfl ?_
        refine V.ixor dX0_joinYear_42 ?_
        refine V.chk fun h_9 => ?_
        refine V.sia dX0_joinYear_43 h_9 ?_
        refine V.aload_n dX0_joinYear_44 0 rfl ?_
        refine V.sgR 0 10 dX0_joinYear_45 gf_X0_45 sh0_2 rfl rfl ?_
        refine V.iload dX0_joinYear_48 3 rfl ?_
        refine V.sia dX0_joinYear_50 h_7 ?_
        refine V.iadd dX0_joinYear_51 ?_
        refine V.mmax dX0_joinYear_52 ml_X0_97 (by decide) (Nat.le_of_ble_eq_true rfl) (by decide) (by decide) ?_
        refine V.lett fun x_10 => ?_
        refine V.istore_n (L' := [(0, vR (0, 2)), (2, vI x2), (3, vI x_10), (4, vI x4)]) dX0_joinYear_55 (by decide) rfl rfl ?_
        exact (tjX0_joinYear_56 l G F x2 x_10 x4 S k4 H4 (hX0_joinYear_18 k4 F x2 n) ih)

theorem thX0_joinYear_4 (l : Launch) (G : vg) (F : Nat) : ∀ (n : Nat) (x2 : Int32) (S : vs), V l G mX0_joinYear none phV (hX0_joinYear_4 F n x2 S) 4 [(0, vR (0, 2)), (2, vI x2)] [] (enc S) 0 0
  | 0, _, _ => V.nil
  | n + 1, x2, S => by
    have ih := thX0_joinYear_4 l G F n
    rw [hX0_joinYear_4]
    refine V.iload_n dX0_joinYear_4 1 rfl ?_
    refine V.if_le 80 dX0_joinYear_5 (by decide) ?_ ?_
    · exact V.vret rfl dX0_joinYear_80 rfl (by decide) (by decide)
    · refine V.aload_n dX0_joinYear_8 0 rfl ?_
      refine V.sgR 0 11 dX0_joinYear_9 gf_X0_48 sh0_2 rfl rfl ?_
      refine V.iload_n dX0_joinYear_12 1 rfl ?_
      refine V.chk fun h_2 => ?_
      refine V.sia dX0_joinYear_13 h_2 ?_
      refine V.lett fun x_3 => ?_
      refine V.istore_n (L' := [(0, vR (0, 2)), (2, vI x2), (3, vI x_3)]) dX0_joinYear_14 (by decide) rfl rfl ?_
      refine V.iload_n dX0_joinYear_15 1 rfl ?_
      refine V.istore (L' := [(0, vR (0, 2)), (2, vI x2), (3, vI x_3), (4, vI x2)]) dX0_joinYear_16 (by decide) rfl rfl ?_
      exact (thX0_joinYear_18 l G F x2 (hX0_joinYear_4 F n) ih F x_3 x2 S)

theorem kX0_joinYear (l : Launch) (G : vg) (F : Nat) (x1 : Int32) (S : vs) : Rt l G mX0_joinYear none phV [vR (0, 2), vI x1] (enc S) (fX0_joinYear F x1 S) := Rt.of rfl (Nat.le_of_ble_eq_true rfl) (by
  show V l G mX0_joinYear none phV _ 0 [(0, vR (0, 2)), (1, vI x1)] [] (enc S) 0 0
  unfold fX0_joinYear
  refine V.iload_n dX0_joinYear_0 1 rfl ?_
  refine V.iconst (v := 1) dX0_joinYear_1 (by decide) ?_
  refine V.isub dX0_joinYear_2 ?_
  refine V.lett fun x_1 => ?_
  refine V.istore_n (L' := [(0, vR (0, 2)), (1, vI x1), (2, vI x_1)]) dX0_joinYear_3 (by decide) rfl rfl ?_
  exact V.lsub [0, 2] rfl (thX0_joinYear_4 l G F F x_1 S))

abbrev mX0_mostFrom : vmt := (yX0_mostFrom, cX0_mostFrom, 5, (some .int), { frames := 2, cells := 0, slots := 0, locals := 46 })
theorem mfX0_mostFrom : mfV mX0_mostFrom 1 := ⟨im_X0_mostFrom, se_X0_mostFrom, ini_X0, co_X0_mostFrom, by decide, by decide, by decide +kernel⟩
def hX0_mostFrom_92 (k45 : Int32 → vs → Option (Int32 × vs)) (F : Nat) (x1 : Int32) (x2 : Int32) (x3 : Int32) : Nat → Int32 → vs → Option (Int32 × vs)
  | 0, _, _ => none
  | n + 1, x4, S => if x2 ≤ x4 then (fX0_joinYear F x2 S).bind (fun a_12 => ltt (x3 + 1) (fun x_13 => k45 x_13 a_12)) else gd (inb x3 (alen 0 S.2.2 (0, 10))) ((fX0_savedTogether F x4 (S.1 (0, 10) x3.toNatClampNeg) S).bind (fun a_15 => gd (inb x4 (alen 0 S.2.2 (0, 15))) (stp (s2 S (0, 15) x4.toNatClampNeg a_15) (fun S_17 => ltt (x4 + 1) (fun x_18 => hX0_mostFrom_92 k45 F x1 x2 x3 n x_18 S_17)))))

def hX0_mostFrom_45 (F : Nat) (x1 : Int32) (x2 : Int32) : Nat → Int32 → vs → Option (Int32 × vs)
  | 0, _, _ => none
  | n + 1, x3, S => if (S.1 (0, 2) 1) ≤ x3 then gd (inb (x2 - 1) (alen 0 S.2.2 (0, 16))) (some (S.1 (0, 16) (x2 - 1).toNatClampNeg, S)) else (rget 5 S (0, 9) (2 * x3)).bind (fun q_6 => (fX0_addUp F (4, q_6) x1 (0, 13) S).bind (fun a_8 => (rget 5 a_8 (0, 9) ((2 * x3) + 1)).bind (fun q_9 => (fX0_addUp F (4, q_9) x1 (0, 14) a_8).bind (fun a_11 => hX0_mostFrom_92 (hX0_mostFrom_45 F x1 x2 n) F x1 x2 x3 F 1 a_11))))

def fX0_mostFrom (F : Nat) (x1 : Int32) (S : vs) : Option (Int32 × vs) := ltt ((1 : Int32) <<< (((S.1 (0, 2) 0) - x1) &&& 31)) (fun x_1 => (fX0_addUp F (0, 7) x1 (0, 11) S).bind (fun a_2 => (fX0_addUp F (0, 8) x1 (0, 12) a_2).bind (fun a_3 => (fJ7_fill_53178 F (0, 16) 0 a_3).bind (fun a_4 => hX0_mostFrom_45 F x1 x_1 F 0 a_4))))
theorem thX0_mostFrom_92 (l : Launch) (G : vg) (F : Nat) (x1 : Int32) (x2 : Int32) (x3 : Int32) (k45 : Int32 → vs → Option (Int32 × vs)) (H45 : ∀ (z3 : Int32), ∀ (Sz : vs), V l G mX0_mostFrom none phI (k45 z3 Sz) 45 [(0, vR (0, 2)), (1, vI x1), (2, vI x2), (3, vI z3)] [] (enc Sz) 0 0) : ∀ (n : Nat) (x4 : Int32) (S : vs), V l G mX0_mostFrom none phI (hX0_mostFrom_92 k45 F x1 x2 x3 n x4 S) 92 [(0, vR (0, 2)), (1, vI x1), (2, vI x2), (3, vI x3), (4, vI x4)] [] (enc S) 0 0
  | 0, _, _ => V.nil
  | n + 1, x4, S => by
    have ih := thX0_mostFrom_92 l G F x1 x2 x3 k45 H45 n
    rw [hX0_mostFrom_92]
    refine V.iload dX0_mostFrom_92 4 rfl ?_
    refine V.iload_n dX0_mostFrom_94 2 rfl ?_
    refine V.icmp_ge 123 dX0_mostFrom_95 (by decide) ?_ ?_
    · refine V.aload_n dX0_mostFrom_123 0 rfl ?_
      refine V.iload_n dX0_mostFrom_124 2 rfl ?_
      refine V.callV (M' := mX0_joinYear) (As := [vI x2]) (ψ := phV) dX0_mostFrom_125 ml_X0_93 mfX0_joinYear rfl ⟨by decide, by decide⟩ ⟨by decide, by decide⟩ (enc_at rfl sh0_2) rfl (Nat.le_of_ble_eq_true rfl) rfl (kX0_joinYear l G F x2 S) (fun a_12 => ?_)
      show V l G mX0_mostFrom none phI _ 128 [(0, vR (0, 2)), (1, vI x1), (2, vI x2), (3, vI x3), (4, vI x4)] [] (enc a_12) 0 0
      refine V.lti (e := x3 + 1) (fun x_13 he => ?_)
      refine V.iinc (v := x_13) (L' := [(0, vR (0, 2)), (1, vI x1), (2, vI x2), (3, vI x_13), (4, vI x4)]) dX0_mostFrom_128 3 rfl he.symm (by decide) rfl rfl ?_
      refine V.goto 45 dX0_mostFrom_131 (by decide) ?_
      exact V.lsub [0, 1, 2, 3] rfl (H45 x_13 a_12)
    · refine V.aload_n dX0_mostFrom_98 0 rfl ?_
      refine V.sgR 0 10 dX0_mostFrom_99 gf_X0_45 sh0_2 rfl rfl ?_
      refine V.iload dX0_mostFrom_102 4 rfl ?_
      refine V.aload_n dX0_mostFrom_104 0 rfl ?_
      refine V.iload dX0_mostFrom_105 4 rfl ?_
      refine V.aload_n dX0_mostFrom_107 0 rfl ?_
      refine V.sgR 0 5 dX0_mostFrom_108 gf_X0_30 sh0_2 rfl rfl ?_
      refine V.iload_n dX0_mostFrom_111 3 rfl ?_
      refine V.chk fun h_14 => ?_
      refine V.sia dX0_mostFrom_112 h_14 ?_
      refine V.callV (M' := mX0_savedTogether) (As := [vI x4, vI (S.1 (0, 10) x3.toNatClampNeg)]) (ψ := (phP S)) dX0_mostFrom_113 ml_X0_90 mfX0_savedTogether rfl ⟨by decide, by decide⟩ ⟨by decide, by decide⟩ (enc_at rfl sh0_2) rfl (Nat.le_of_ble_eq_true rfl) rfl (kX0_savedTogether l G F x4 (S.1 (0, 10) x3.toNatClampNeg) S) (fun a_15 => ?_)
      show V l G mX0_mostFrom none phI _ 116 [(0, vR (0, 2)), (1, vI x1), (2, vI x2), (3, vI x3), (4, vI x4)] [vI a_15, vI x4, vR (0, 15)] (enc S) 0 0
      refine V.chk fun h_16 => ?_
      refine V.sis dX0_mostFrom_116 h_16 ?_
      refine V.sst fun S_17 => ?_
      refine V.lti (e := x4 + 1) (fun x_18 he => ?_)
      refine V.iinc (v := x_18) (L' := [(0, vR (0, 2)), (1, vI x1), (2, vI x2), (3, vI x3), (4, vI x_18)]) dX0_mostFrom_117 4 rfl he.symm (by decide) rfl rfl ?_
      refine V.goto 92 dX0_mostFrom_120 (by decide) ?_
      exact (ih x_18 S_17)

theorem thX0_mostFrom_45 (l : Launch) (G : vg) (F : Nat) (x1 : Int32) (x2 : Int32) : ∀ (n : Nat) (x3 : Int32) (S : vs), V l G mX0_mostFrom none phI (hX0_mostFrom_45 F x1 x2 n x3 S) 45 [(0, vR (0, 2)), (1, vI x1), (2, vI x2), (3, vI x3)] [] (enc S) 0 0
  | 0, _, _ => V.nil
  | n + 1, x3, S => by
    have ih := thX0_mostFrom_45 l G F x1 x2 n
    rw [hX0_mostFrom_45]
    refine V.iload_n dX0_mostFrom_45 3 rfl ?_
    refine V.aload_n dX0_mostFrom_46 0 rfl ?_
    refine V.sgI 0 1 dX0_mostFrom_47 gf_X0_15 sh0_2 rfl rfl ?_
    refine V.icmp_ge 134 dX0_mostFrom_50 (by decide) ?_ ?_
    · refine V.aload_n dX0_mostFrom_134 0 rfl ?_
      refine V.sgR 0 11 dX0_mostFrom_135 gf_X0_48 sh0_2 rfl rfl ?_
      refine V.iload_n dX0_mostFrom_138 2 rfl ?_
      refine V.iconst (v := 1) dX0_mostFrom_139 (by decide) ?_
      refine V.isub dX0_mostFrom_140 ?_
      refine V.chk fun h_5 => ?_
      refine V.sia dX0_mostFrom_141 h_5 ?_
      exact V.iret rfl dX0_mostFrom_142 rfl (by decide) (by decide)
    · refine V.aload_n dX0_mostFrom_53 0 rfl ?_
      refine V.aload_n dX0_mostFrom_54 0 rfl ?_
      refine V.sgR 0 4 dX0_mostFrom_55 gf_X0_27 sh0_2 rfl rfl ?_
      refine V.iconst (v := 2) dX0_mostFrom_58 (by decide) ?_
      refine V.iload_n dX0_mostFrom_59 3 rfl ?_
      refine V.imul dX0_mostFrom_60 ?_
      refine V.sbind fun q_6 h_7 => ?_
      refine V.saa (t := 5) dX0_mostFrom_61 rfl rfl h_7 ?_
      refine V.iload_n dX0_mostFrom_62 1 rfl ?_
      refine V.aload_n dX0_mostFrom_63 0 rfl ?_
      refine V.sgR 0 8 dX0_mostFrom_64 gf_X0_39 sh0_2 rfl rfl ?_
      refine V.callV (M' := mX0_addUp) (As := [vR (4, q_6), vI x1, vR (0, 13)]) (ψ := phV) dX0_mostFrom_67 ml_X0_86 mfX0_addUp rfl ⟨by decide, by decide⟩ ⟨by decide, by decide⟩ (enc_at rfl sh0_2) rfl (Nat.le_of_ble_eq_true rfl) rfl (kX0_addUp l G F (4, q_6) x1 (0, 13) S) (fun a_8 => ?_)
      show V l G mX0_mostFrom none phI _ 70 [(0, vR (0, 2)), (1, vI x1), (2, vI x2), (3, vI x3)] [] (enc a_8) 0 0
      refine V.aload_n dX0_mostFrom_70 0 rfl ?_
      refine V.aload_n dX0_mostFrom_71 0 rfl ?_
      refine V.sgR 0 4 dX0_mostFrom_72 gf_X0_27 sh0_2 rfl rfl ?_
      refine V.iconst (v := 2) dX0_mostFrom_75 (by decide) ?_
      refine V.iload_n dX0_mostFrom_76 3 rfl ?_
      refine V.imul dX0_mostFrom_77 ?_
      refine V.iconst (v := 1) dX0_mostFrom_78 (by decide) ?_
      refine V.iadd dX0_mostFrom_79 ?_
      refine V.sbind fun q_9 h_10 => ?_
      refine V.saa (t := 5) dX0_mostFrom_80 rfl rfl h_10 ?_
      refine V.iload_n dX0_mostFrom_81 1 rfl ?_
      refine V.aload_n dX0_mostFrom_82 0 rfl ?_
      refine V.sgR 0 9 dX0_mostFrom_83 gf_X0_42 sh0_2 rfl rfl ?_
      refine V.callV (M' := mX0_addUp) (As := [vR (4, q_9), vI x1, vR (0, 14)]) (ψ := phV) dX0_mostFrom_86 ml_X0_86 mfX0_addUp rfl ⟨by decide, by decide⟩ ⟨by decide, by decide⟩ (enc_at rfl sh0_2) rfl (Nat.le_of_ble_eq_true rfl) rfl (kX0_addUp l G F (4, q_9) x1 (0, 14) a_8) (fun a_11 => ?_)
      show V l G mX0_mostFrom none phI _ 89 [(0, vR (0, 2)), (1, vI x1), (2, vI x2), (3, vI x3)] [] (enc a_11) 0 0
      refine V.iconst (v := 1) dX0_mostFrom_89 (by decide) ?_
      refine V.istore (L' := [(0, vR (0, 2)), (1, vI x1), (2, vI x2), (3, vI x3), (4, vI 1)]) dX0_mostFrom_90 (by decide) rfl rfl ?_
      exact (thX0_mostFrom_92 l G F x1 x2 x3 (hX0_mostFrom_45 F x1 x2 n) ih F 1 a_11)

theorem kX0_mostFrom (l : Launch) (G : vg) (F : Nat) (x1 : Int32) (S : vs) : Rt l G mX0_mostFrom none phI [vR (0, 2), vI x1] (enc S) (fX0_mostFrom F x1 S) := Rt.of rfl (Nat.le_of_ble_eq_true rfl) (by
  show V l G mX0_mostFrom none phI _ 0 [(0, vR (0, 2)), (1, vI x1)] [] (enc S) 0 0
  unfold fX0_mostFrom
  refine V.iconst (v := 1) dX0_mostFrom_0 (by decide) ?_
  refine V.aload_n dX0_mostFrom_1 0 rfl ?_
  refine V.sgI 0 0 dX0_mostFrom_2 gf_X0_11 sh0_2 rfl rfl ?_
  refine V.iload_n dX0_mostFrom_5 1 rfl ?_
  refine V.isub dX0_mostFrom_6 ?_
  refine V.ishl dX0_mostFrom_7 ?_
  refine V.lett fun x_1 => ?_
  refine V.istore_n (L' := [(0, vR (0, 2)), (1, vI x1), (2, vI x_1)]) dX0_mostFrom_8 (by decide) rfl rfl ?_
  refine V.aload_n dX0_mostFrom_9 0 rfl ?_
  refine V.aload_n dX0_mostFrom_10 0 rfl ?_
  refine V.sgR 0 2 dX0_mostFrom_11 gf_X0_18 sh0_2 rfl rfl ?_
  refine V.iload_n dX0_mostFrom_14 1 rfl ?_
  refine V.aload_n dX0_mostFrom_15 0 rfl ?_
  refine V.sgR 0 6 dX0_mostFrom_16 gf_X0_33 sh0_2 rfl rfl ?_
  refine V.callV (M' := mX0_addUp) (As := [vR (0, 7), vI x1, vR (0, 11)]) (ψ := phV) dX0_mostFrom_19 ml_X0_86 mfX0_addUp rfl ⟨by decide, by decide⟩ ⟨by decide, by decide⟩ (enc_at rfl sh0_2) rfl (Nat.le_of_ble_eq_true rfl) rfl (kX0_addUp l G F (0, 7) x1 (0, 11) S) (fun a_2 => ?_)
  show V l G mX0_mostFrom none phI _ 22 [(0, vR (0, 2)), (1, vI x1), (2, vI x_1)] [] (enc a_2) 0 0
  refine V.aload_n dX0_mostFrom_22 0 rfl ?_
  refine V.aload_n dX0_mostFrom_23 0 rfl ?_
  refine V.sgR 0 3 dX0_mostFrom_24 gf_X0_22 sh0_2 rfl rfl ?_
  refine V.iload_n dX0_mostFrom_27 1 rfl ?_
  refine V.aload_n dX0_mostFrom_28 0 rfl ?_
  refine V.sgR 0 7 dX0_mostFrom_29 gf_X0_36 sh0_2 rfl rfl ?_
  refine V.callV (M' := mX0_addUp) (As := [vR (0, 8), vI x1, vR (0, 12)]) (ψ := phV) dX0_mostFrom_32 ml_X0_86 mfX0_addUp rfl ⟨by decide, by decide⟩ ⟨by decide, by decide⟩ (enc_at rfl sh0_2) rfl (Nat.le_of_ble_eq_true rfl) rfl (kX0_addUp l G F (0, 8) x1 (0, 12) a_2) (fun a_3 => ?_)
  show V l G mX0_mostFrom none phI _ 35 [(0, vR (0, 2)), (1, vI x1), (2, vI x_1)] [] (enc a_3) 0 0
  refine V.aload_n dX0_mostFrom_35 0 rfl ?_
  refine V.sgR 0 11 dX0_mostFrom_36 gf_X0_48 sh0_2 rfl rfl ?_
  refine V.iconst (v := 0) dX0_mostFrom_39 (by decide) ?_
  refine V.callS (M' := mJ7_fill_53178) (As := [vR (0, 16), vI 0]) (ψ := phV) dX0_mostFrom_40 ml_X0_67 mfJ7_fill_53178 rfl ⟨by decide, by decide⟩ ⟨by decide, by decide⟩ (Nat.le_of_ble_eq_true rfl) rfl (kJ7_fill_53178 l G F (0, 16) 0 a_3) (fun a_4 => ?_)
  show V l G mX0_mostFrom none phI _ 43 [(0, vR (0, 2)), (1, vI x1), (2, vI x_1)] [] (enc a_4) 0 0
  refine V.iconst (v := 0) dX0_mostFrom_43 (by decide) ?_
  refine V.istore_n (L' := [(0, vR (0, 2)), (1, vI x1), (2, vI x_1), (3, vI 0)]) dX0_mostFrom_44 (by decide) rfl rfl ?_
  exact (thX0_mostFrom_45 l G F x1 x_1 F 0 a_4))

abbrev mX0_mostWith : vmt := (yX0_mostWith, cX0_mostWith, 2, (some .int), { frames := 3, cells := 0, slots := 0, locals := 70 })
theorem mfX0_mostWith : mfV mX0_mostWith 1 := ⟨im_X0_mostWith, se_X0_mostWith, ini_X0, co_X0_mostWith, by decide, by decide, by decide +kernel⟩
def fX0_mostWith (F : Nat) (x1 : Int32) (S : vs) : Option (Int32 × vs) := (fJ7_fill_53178 F (0, 10) x1 S).bind (fun a_1 => (fX0_mostFrom F 0 a_1).bind (fun a_2 => some (a_2.1, a_2.2)))
theorem kX0_mostWith (l : Launch) (G : vg) (F : Nat) (x1 : Int32) (S : vs) : Rt l G mX0_mostWith none phI [vR (0, 2), vI x1] (enc S) (fX0_mostWith F x1 S) := Rt.of rfl (Nat.le_of_ble_eq_true rfl) (by
  show V l G mX0_mostWith none phI _ 0 [(0, vR (0, 2)), (1, vI x1)] [] (enc S) 0 0
  unfold fX0_mostWith
  refine V.aload_n dX0_mostWith_0 0 rfl ?_
  refine V.sgR 0 5 dX0_mostWith_1 gf_X0_30 sh0_2 rfl rfl ?_
  refine V.iload_n dX0_mostWith_4 1 rfl ?_
  refine V.callS (M' := mJ7_fill_53178) (As := [vR (0, 10), vI x1]) (ψ := phV) dX0_mostWith_5 ml_X0_67 mfJ7_fill_53178 rfl ⟨by decide, by decide⟩ ⟨by decide, by decide⟩ (Nat.le_of_ble_eq_true rfl) rfl (kJ7_fill_53178 l G F (0, 10) x1 S) (fun a_1 => ?_)
  show V l G mX0_mostWith none phI _ 8 [(0, vR (0, 2)), (1, vI x1)] [] (enc a_1) 0 0
  refine V.aload_n dX0_mostWith_8 0 rfl ?_
  refine V.iconst (v := 0) dX0_mostWith_9 (by decide) ?_
  refine V.callV (M' := mX0_mostFrom) (As := [vI 0]) (ψ := phI) dX0_mostWith_10 ml_X0_73 mfX0_mostFrom rfl ⟨by decide, by decide⟩ ⟨by decide, by decide⟩ (enc_at rfl sh0_2) rfl (Nat.le_of_ble_eq_true rfl) rfl (kX0_mostFrom l G F 0 a_1) (fun a_2 => ?_)
  show V l G mX0_mostWith none phI _ 13 [(0, vR (0, 2)), (1, vI x1)] [vI a_2.1] (enc a_2.2) 0 0
  exact V.iret rfl dX0_mostWith_13 rfl (by decide) (by decide))

