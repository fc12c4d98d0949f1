abbrev mX4_lastHeaviest : vmt := (yX4_lastHeaviest, cX4_lastHeaviest, 8, (some .int), { frames := 3, cells := 0, slots := 0, locals := 72 })
theorem mfX4_lastHeaviest : mfV mX4_lastHeaviest 1 := ⟨im_X4_lastHeaviest, se_X4_lastHeaviest, ini_X4, co_X4_lastHeaviest, by decide, by decide, by decide +kernel⟩
def jX4_lastHeaviest_107 (k30 : Int32 → Int32 → Option Int32) (F : Nat) (x1 : Int32) (x2 : Int32) (x3 : Int32) (x4 : Int32) (x5 : Int32) (S : vs) : Option Int32 := ltt (x5 + 1) (fun x_8 => k30 x4 x_8)

def jX4_lastHeaviest_83 (k30 : Int32 → Int32 → Option Int32) (F : Nat) (x1 : Int32) (x2 : Int32) (x3 : Int32) (x4 : Int32) (x5 : Int32) (x6 : Int32) (sk0 : Int32) (S : vs) : Option Int32 := if sk0 = 0 then jX4_lastHeaviest_107 k30 F x1 x2 x3 x4 x5 S else (fX4_weightAt F x1 (x6 + 1) S).bind (fun a_9 => if a_9 = x3 then jX4_lastHeaviest_107 k30 F x1 x2 x3 x4 x5 S else jX4_lastHeaviest_107 k30 F x1 x2 x3 x6 x5 S)

def jX4_lastHeaviest_82 (k30 : Int32 → Int32 → Option Int32) (F : Nat) (x1 : Int32) (x2 : Int32) (x3 : Int32) (x4 : Int32) (x5 : Int32) (x6 : Int32) (S : vs) : Option Int32 := jX4_lastHeaviest_83 k30 F x1 x2 x3 x4 x5 x6 0 S

def hX4_lastHeaviest_30 (F : Nat) (S : vs) (x1 : Int32) (x2 : Int32) (x3 : Int32) : Nat → Int32 → Int32 → Option Int32
  | 0, _, _ => none
  | n + 1, x4, x5 => if (S.1 (0, 3) 1) ≤ x5 then some x4 else (rget 3 S (0, 17) x5).bind (fun q_3 => gd (alv S.2.2 (2, q_3)) (ltt (S.1 (2, q_3) 2) (fun x_6 => (fX3_isOf F q_3 x1 S).bind (fun a_7 => if a_7 = 0 then jX4_lastHeaviest_82 (hX4_lastHeaviest_30 F S x1 x2 x3 n) F x1 x2 x3 x4 x5 x_6 S else if x_6 < x2 then jX4_lastHeaviest_82 (hX4_lastHeaviest_30 F S x1 x2 x3 n) F x1 x2 x3 x4 x5 x_6 S else if x4 ≤ x_6 then jX4_lastHeaviest_82 (hX4_lastHeaviest_30 F S x1 x2 x3 n) F x1 x2 x3 x4 x5 x_6 S else jX4_lastHeaviest_83 (hX4_lastHeaviest_30 F S x1 x2 x3 n) F x1 x2 x3 x4 x5 x_6 1 S))))

def fX4_lastHeaviest (F : Nat) (x1 : Int32) (S : vs) : Option Int32 := (fX4_leastHeaviest F x1 S).bind (fun a_1 => if a_1 = (-9) then some (-9) else (fX4_weightAt F x1 a_1 S).bind (fun a_2 => hX4_lastHeaviest_30 F S x1 a_1 a_2 F 30000 0))
theorem tjX4_lastHeaviest_107 (l : Launch) (G : vg) (F : Nat) (x1 : Int32) (x2 : Int32) (x3 : Int32) (x4 : Int32) (x5 : Int32) (S : vs) (k30 : Int32 → Int32 → Option Int32) (H30 : ∀ (z4 : Int32), ∀ (z5 : Int32), V l G mX4_lastHeaviest none (phP S) (k30 z4 z5) 30 [(0, vR (0, 3)), (1, vI x1), (2, vI x2), (3, vI x3), (4, vI z4), (5, vI z5)] [] (enc S) 0 0) : V l G mX4_lastHeaviest none (phP S) (jX4_lastHeaviest_107 k30 F x1 x2 x3 x4 x5 S) 107 [(0, vR (0, 3)), (1, vI x1), (2, vI x2), (3, vI x3), (4, vI x4), (5, vI x5)] [] (enc S) 0 0 := by
  unfold jX4_lastHeaviest_107
  refine V.lti (e := x5 + 1) (fun x_8 he => ?_)
  refine V.iinc (v := x_8) (L' := [(0, vR (0, 3)), (1, vI x1), (2, vI x2), (3, vI x3), (4, vI x4), (5, vI x_8)]) dX4_lastHeaviest_107 5 rfl he.symm (by decide) rfl rfl ?_
  refine V.goto 30 dX4_lastHeaviest_110 (by decide) ?_
  exact (H30 x4 x_8)

theorem tjX4_lastHeaviest_83 (l : Launch) (G : vg) (F : Nat) (x1 : Int32) (x2 : Int32) (x3 : Int32) (x4 : Int32) (x5 : Int32) (x6 : Int32) (sk0 : Int32) (S : vs) (k30 : Int32 → Int32 → Option Int32) (H30 : ∀ (z4 : Int32), ∀ (z5 : Int32), V l G mX4_lastHeaviest none (phP S) (k30 z4 z5) 30 [(0, vR (0, 3)), (1, vI x1), (2, vI x2), (3, vI x3), (4, vI z4), (5, vI z5)] [] (enc S) 0 0) : V l G mX4_lastHeaviest none (phP S) (jX4_lastHeaviest_83 k30 F x1 x2 x3 x4 x5 x6 sk0 S) 83 [(0, vR (0, 3)), (1, vI x1), (2, vI x2), (3, vI x3), (4, vI x4), (5, vI x5), (6, vI x6)] [vI sk0] (enc S) 0 0 := by
  unfold jX4_lastHeaviest_83
  refine V.istore (L' := [(0, vR (0, 3)), (1, vI x1), (2, vI x2), (3, vI x3), (4, vI x4), (5, vI x5), (6, vI x6), (7, vI sk0)]) dX4_lastHeaviest_83 (by decide) rfl rfl ?_
  refine V.iload dX4_lastHeaviest_85 7 rfl ?_
  refine V.if_eq 107 dX4_lastHeaviest_87 (by decide) ?_ ?_
  · exact V.lsub [0, 1, 2, 3, 4, 5] rfl (tjX4_lastHeaviest_107 l G F x1 x2 x3 x4 x5 S k30 H30)
  · refine V.aload_n dX4_lastHeaviest_90 0 rfl ?_
    refine V.iload_n dX4_lastHeaviest_91 1 rfl ?_
    refine V.iload dX4_lastHeaviest_92 6 rfl ?_
    refine V.iconst (v := 1) dX4_lastHeaviest_94 (by decide) ?_
    refine V.iadd dX4_lastHeaviest_95 ?_
    refine V.callV (M' := mX4_weightAt) (As := [vI x1, vI (x6 + 1)]) (ψ := (phP S)) dX4_lastHeaviest_96 ml_X4_38 mfX4_weightAt rfl ⟨by decide, by decide⟩ ⟨by decide, by decide⟩ (enc_at rfl sh0_3) rfl (Nat.le_of_ble_eq_true rfl) rfl (kX4_weightAt l G F x1 (x6 + 1) S) (fun a_9 => ?_)
    show V l G mX4_lastHeaviest none (phP S) _ 99 [(0, vR (0, 3)), (1, vI x1), (2, vI x2), (3, vI x3), (4, vI x4), (5, vI x5), (6, vI x6), (7, vI sk0)] [vI a_9] (enc S) 0 0
    refine V.iload_n dX4_lastHeaviest_99 3 rfl ?_
    refine V.icmp_eq 107 dX4_lastHeaviest_100 (by decide) ?_ ?_
    · exact V.lsub [0, 1, 2, 3, 4, 5] rfl (tjX4_lastHeaviest_107 l G F x1 x2 x3 x4 x5 S k30 H30)
    · refine V.iload dX4_lastHeaviest_103 6 rfl ?_
      refine V.istore (L' := [(0, vR (0, 3)), (1, vI x1), (2, vI x2), (3, vI x3), (4, vI x6), (5, vI x5), (6, vI x6), (7, vI sk0)]) dX4_lastHeaviest_105 (by decide) rfl rfl ?_
      exact V.lsub [0, 1, 2, 3, 4, 5] rfl (tjX4_lastHeaviest_107 l G F x1 x2 x3 x6 x5 S k30 H30)

theorem tjX4_lastHeaviest_82 (l : Launch) (G : vg) (F : Nat) (x1 : Int32) (x2 : Int32) (x3 : Int32) (x4 : Int32) (x5 : Int32) (x6 : Int32) (S : vs) (k30 : Int32 → Int32 → Option Int32) (H30 : ∀ (z4 : Int32), ∀ (z5 : Int32), V l G mX4_lastHeaviest none (phP S) (k30 z4 z5) 30 [(0, vR (0, 3)), (1, vI x1), (2, vI x2), (3, vI x3), (4, vI z4), (5, vI z5)] [] (enc S) 0 0) : V l G mX4_lastHeaviest none (phP S) (jX4_lastHeaviest_82 k30 F x1 x2 x3 x4 x5 x6 S) 82 [(0, vR (0, 3)), (1, vI x1), (2, vI x2), (3, vI x3), (4, vI x4), (5, vI x5), (6, vI x6)] [] (enc S) 0 0 := by
  unfold jX4_lastHeaviest_82
  refine V.iconst (v := 0) dX4_lastHeaviest_82 (by decide) ?_
  exact (tjX4_lastHeaviest_83 l G F x1 x2 x3 x4 x5 x6 0 S k30 H30)

theorem thX4_lastHeaviest_30 (l : Launch) (G : vg) (F : Nat) (S : vs) (x1 : Int32) (x2 : Int32) (x3 : Int32) : ∀ (n : Nat) (x4 : Int32) (x5 : Int32), V l G mX4_lastHeaviest none (phP S) (hX4_lastHeaviest_30 F S x1 x2 x3 n x4 x5) 30 [(0, vR (0, 3)), (1, vI x1), (2, vI x2), (3, vI x3), (4, vI x4), (5, vI x5)] [] (enc S) 0 0
  | 0, _, _ => V.nil
  | n + 1, x4, x5 => by
    have ih := thX4_lastHeaviest_30 l G F S x1 x2 x3 n
    rw [hX4_lastHeaviest_30]
    refine V.iload dX4_lastHeaviest_30 5 rfl ?_
    refine V.aload_n dX4_lastHeaviest_32 0 rfl ?_
    refine V.sgI 4 1 dX4_lastHeaviest_33 gf_X4_17 sh0_3 rfl rfl ?_
    refine V.icmp_ge 113 dX4_lastHeaviest_36 (by decide) ?_ ?_
    · refine V.iload dX4_lastHeaviest_113 4 rfl ?_
      exact V.iret rfl dX4_lastHeaviest_115 rfl (by decide) (by decide)
    · refine V.aload_n dX4_lastHeaviest_39 0 rfl ?_
      refine V.sgR 4 0 dX4_lastHeaviest_40 gf_X4_13 sh0_3 rfl rfl ?_
      refine V.iload dX4_lastHeaviest_43 5 rfl ?_
      refine V.sbind fun q_3 h_4 => ?_
      refine V.saa (t := 3) dX4_lastHeaviest_45 rfl rfl h_4 ?_
      refine V.chk fun h_5 => ?_
      refine V.sgI 3 2 dX4_lastHeaviest_46 gf_X4_32 rfl rfl h_5 ?_
      refine V.lett fun x_6 => ?_
      refine V.istore (L' := [(0, vR (0, 3)), (1, vI x1), (2, vI x2), (3, vI x3), (4, vI x4), (5, vI x5), (6, vI x_6)]) dX4_lastHeaviest_49 (by decide) rfl rfl ?_
      refine V.aload_n dX4_lastHeaviest_51 0 rfl ?_
      refine V.sgR 4 0 dX4_lastHeaviest_52 gf_X4_13 sh0_3 rfl rfl ?_
      refine V.iload dX4_lastHeaviest_55 5 rfl ?_
      refine V.saa (t := 3) dX4_lastHeaviest_57 rfl rfl h_4 ?_
      refine V.iload_n dX4_lastHeaviest_58 1 rfl ?_
      refine V.callV (M' := mX3_isOf) (As := [vI x1]) (ψ := (phP S)) dX4_lastHeaviest_59 ml_X4_25 mfX3_isOf rfl ⟨by decide, by decide⟩ ⟨by decide, by decide⟩ (enc_at h_5 rfl) rfl (Nat.le_of_ble_eq_true rfl) rfl (kX3_isOf l G F q_3 x1 S) (fun a_7 => ?_)
      show V l G mX4_lastHeaviest none (phP S) _ 62 [(0, vR (0, 3)), (1, vI x1), (2, vI x2), (3, vI x3), (4, vI x4), (5, vI x5), (6, vI x_6)] [vI a_7] (enc S) 0 0
      refine V.if_eq 82 dX4_lastHeaviest_62 (by decide) ?_ ?_
      · exact (tjX4_lastHeaviest_82 l G F x1 x2 x3 x4 x5 x_6 S (hX4_lastHeaviest_30 F S x1 x2 x3 n) ih)
      · refine V.iload dX4_lastHeaviest_65 6 rfl ?_
        refine V.iload_n dX4_lastHeaviest_67 2 rfl ?_
        refine V.icmp_lt 82 dX4_lastHeaviest_68 (by decide) ?_ ?_
        · exact (tjX4_lastHeaviest_82 l G F x1 x2 x3 x4 x5 x_6 S (hX4_lastHeaviest_30 F S x1 x2 x3 n) ih)
        · refine V.iload dX4_lastHeaviest_71 6 rfl ?_
          refine V.iload dX4_lastHeaviest_73 4 rfl ?_
          refine V.icmp_ge 82 dX4_lastHeaviest_75 (by decide) ?_ ?_
          · exact (tjX4_lastHeaviest_82 l G F x1 x2 x3 x4 x5 x_6 S (hX4_lastHeaviest_30 F S x1 x2 x3 n) ih)
          · refine V.iconst (v := 1) dX4_lastHeaviest_78 (by decide) ?_
            refine V.goto 83 dX4_lastHeaviest_79 (by decide) ?_
            exact (tjX4_lastHeaviest_83 l G F x1 x2 x3 x4 x5 x_6 1 S (hX4_lastHeaviest_30 F S x1 x2 x3 n) ih)

theorem kX4_lastHeaviest (l : Launch) (G : vg) (F : Nat) (x1 : Int32) (S : vs) : Rt l G mX4_lastHeaviest none (phP S) [vR (0, 3), vI x1] (enc S) (fX4_lastHeaviest F x1 S) := Rt.of rfl (Nat.le_of_ble_eq_true rfl) (by
  show V l G mX4_lastHeaviest none (phP S) _ 0 [(0, vR (0, 3)), (1, vI x1)] [] (enc S) 0 0
  unfold fX4_lastHeaviest
  refine V.aload_n dX4_lastHeaviest_0 0 rfl ?_
  refine V.iload_n dX4_lastHeaviest_1 1 rfl ?_
  refine V.callV (M' := mX4_leastHeaviest) (As := [vI x1]) (ψ := (phP S)) dX4_lastHeaviest_2 ml_X4_42 mfX4_leastHeaviest rfl ⟨by decide, by decide⟩ ⟨by decide, by decide⟩ (enc_at rfl sh0_3) rfl (Nat.le_of_ble_eq_true rfl) rfl (kX4_leastHeaviest l G F x1 S) (fun a_1 => ?_)
  show V l G mX4_lastHeaviest none (phP S) _ 5 [(0, vR (0, 3)), (1, vI x1)] [vI a_1] (enc S) 0 0
  refine V.istore_n (L' := [(0, vR (0, 3)), (1, vI x1), (2, vI a_1)]) dX4_lastHeaviest_5 (by decide) rfl rfl ?_
  refine V.iload_n dX4_lastHeaviest_6 2 rfl ?_
  refine V.bipush (v := (-9)) dX4_lastHeaviest_7 (by decide) ?_
  refine V.icmp_ne 15 dX4_lastHeaviest_9 (by decide) ?_ ?_
  · refine V.aload_n dX4_lastHeaviest_15 0 rfl ?_
    refine V.iload_n dX4_lastHeaviest_16 1 rfl ?_
    refine V.iload_n dX4_lastHeaviest_17 2 rfl ?_
    refine V.callV (M' := mX4_weightAt) (As := [vI x1, vI a_1]) (ψ := (phP S)) dX4_lastHeaviest_18 ml_X4_38 mfX4_weightAt rfl ⟨by decide, by decide⟩ ⟨by decide, by decide⟩ (enc_at rfl sh0_3) rfl (Nat.le_of_ble_eq_true rfl) rfl (kX4_weightAt l G F x1 a_1 S) (fun a_2 => ?_)
    show V l G mX4_lastHeaviest none (phP S) _ 21 [(0, vR (0, 3)), (1, vI x1), (2, vI a_1)] [vI a_2] (enc S) 0 0
    refine V.istore_n (L' := [(0, vR (0, 3)), (1, vI x1), (2, vI a_1), (3, vI a_2)]) dX4_lastHeaviest_21 (by decide) rfl rfl ?_
    refine V.sipush (v := 30000) dX4_lastHeaviest_22 (by decide) ?_
    refine V.istore (L' := [(0, vR (0, 3)), (1, vI x1), (2, vI a_1), (3, vI a_2), (4, vI 30000)]) dX4_lastHeaviest_25 (by decide) rfl rfl ?_
    refine V.iconst (v := 0) dX4_lastHeaviest_27 (by decide) ?_
    refine V.istore (L' := [(0, vR (0, 3)), (1, vI x1), (2, vI a_1), (3, vI a_2), (4, vI 30000), (5, vI 0)]) dX4_lastHeaviest_28 (by decide) rfl rfl ?_
    exact (thX4_lastHeaviest_30 l G F S x1 a_1 a_2 F 30000 0)
  · refine V.bipush (v := (-9)) dX4_lastHeaviest_12 (by decide) ?_
    exact V.iret rfl dX4_lastHeaviest_14 rfl (by decide) (by decide))

abbrev mX4_pairsApart : vmt := (yX4_pairsApart, cX4_pairsApart, 5, (some .int), { frames := 1, cells := 0, slots := 0, locals := 21 })
theorem mfX4_pairsApart : mfV mX4_pairsApart 1 := ⟨im_X4_pairsApart, se_X4_pairsApart, ini_X4, co_X4_pairsApart, by decide, by decide, by decide +kernel⟩
def jX4_pairsApart_76 (k4 : Int32 → Int32 → Option Int32) (F : Nat) (x1 : Int32) (x2 : Int32) (x3 : Int32) (S : vs) : Option Int32 := ltt (x3 + 1) (fun x_1 => k4 x2 x_1)

def jX4_pairsApart_70 (k4 : Int32 → Int32 → Option Int32) (k15 : Int32 → Int32 → Option Int32) (F : Nat) (x1 : Int32) (x2 : Int32) (x3 : Int32) (x4 : Int32) (S : vs) : Option Int32 := ltt (x4 + 1) (fun x_10 => k15 x2 x_10)

def hX4_pairsApart_15 (k4 : Int32 → Int32 → Option Int32) (F : Nat) (S : vs) (x1 : Int32) (x3 : Int32) : Nat → Int32 → Int32 → Option Int32
  | 0, _, _ => none
  | n + 1, x2, x4 => if x3 ≤ x4 then jX4_pairsApart_76 k4 F x1 x2 x3 S else (rget 3 S (0, 17) x3).bind (fun q_2 => gd (alv S.2.2 (2, q_2)) ((fX3_isOf F q_2 x1 S).bind (fun a_5 => if a_5 = 0 then jX4_pairsApart_76 k4 F x1 x2 x3 S else (rget 3 S (0, 17) x4).bind (fun q_6 => gd (alv S.2.2 (2, q_6)) ((fX3_isOf F q_6 x1 S).bind (fun a_9 => if a_9 = 0 then jX4_pairsApart_70 k4 (hX4_pairsApart_15 k4 F S x1 x3 n) F x1 x2 x3 x4 S else (fX3_isApartFrom F q_2 q_6 S).bind (fun a_11 => if a_11 = 0 then jX4_pairsApart_70 k4 (hX4_pairsApart_15 k4 F S x1 x3 n) F x1 x2 x3 x4 S else ltt (x2 + 1) (fun x_12 => jX4_pairsApart_70 k4 (hX4_pairsApart_15 k4 F S x1 x3 n) F x1 x_12 x3 x4 S))))))))

def hX4_pairsApart_4 (F : Nat) (S : vs) (x1 : Int32) : Nat → Int32 → Int32 → Option Int32
  | 0, _, _ => none
  | n + 1, x2, x3 => if (S.1 (0, 3) 1) ≤ x3 then some x2 else hX4_pairsApart_15 (hX4_pairsApart_4 F S x1 n) F S x1 x3 F x2 0

def fX4_pairsApart (F : Nat) (x1 : Int32) (S : vs) : Option Int32 := hX4_pairsApart_4 F S x1 F 0 0
theorem tjX4_pairsApart_76 (l : Launch) (G : vg) (F : Nat) (x1 : Int32) (x2 : Int32) (x3 : Int32) (S : vs) (k4 : Int32 → Int32 → Option Int32) (H4 : ∀ (z2 : Int32), ∀ (z3 : Int32), V l G mX4_pairsApart none (phP S) (k4 z2 z3) 4 [(0, vR (0, 3)), (1, vI x1), (2, vI z2), (3, vI z3)] [] (enc S) 0 0) : V l G mX4_pairsApart none (phP S) (jX4_pairsApart_76 k4 F x1 x2 x3 S) 76 [(0, vR (0, 3)), (1, vI x1), (2, vI x2), (3, vI x3)] [] (enc S) 0 0 := by
  unfold jX4_pairsApart_76
  refine V.lti (e := x3 + 1) (fun x_1 he => ?_)
  refine V.iinc (v := x_1) (L' := [(0, vR (0, 3)), (1, vI x1), (2, vI x2), (3, vI x_1)]) dX4_pairsApart_76 3 rfl he.symm (by decide) rfl rfl ?_
  refine V.goto 4 dX4_pairsApart_79 (by decide) ?_
  exact (H4 x2 x_1)

theorem tjX4_pairsApart_70 (l : Launch) (G : vg) (F : Nat) (x1 : Int32) (x2 : Int32) (x3 : Int32) (x4 : Int32) (S : vs) (k4 : Int32 → Int32 → Option Int32) (H4 : ∀ (z2 : Int32), ∀ (z3 : Int32), V l G mX4_pairsApart none (phP S) (k4 z2 z3) 4 [(0, vR (0, 3)), (1, vI x1), (2, vI z2), (3, vI z3)] [] (enc S) 0 0) (k15 : Int32 → Int32 → Option Int32) (H15 : ∀ (z2 : Int32), ∀ (z4 : Int32), V l G mX4_pairsApart none (phP S) (k15 z2 z4) 15 [(0, vR (0, 3)), (1, vI x1), (2, vI z2), (3, vI x3), (4, vI z4)] [] (enc S) 0 0) : V l G mX4_pairsApart none (phP S) (jX4_pairsApart_70 k4 k15 F x1 x2 x3 x4 S) 70 [(0, vR (0, 3)), (1, vI x1), (2, vI x2), (3, vI x3), (4, vI x4)] [] (enc S) 0 0 := by
  unfold jX4_pairsApart_70
  refine V.lti (e := x4 + 1) (fun x_10 he => ?_)
  refine V.iinc (v := x_10) (L' := [(0, vR (0, 3)), (1, vI x1), (2, vI x2), (3, vI x3), (4, vI x_10)]) dX4_pairsApart_70 4 rfl he.symm (by decide) rfl rfl ?_
  refine V.goto 15 dX4_pairsApart_73 (by decide) ?_
  exact (H15 x2 x_10)

theorem thX4_pairsApart_15 (l : Launch) (G : vg) (F : Nat) (S : vs) (x1 : Int32) (x3 : Int32) (k4 : Int32 → Int32 → Option Int32) (H4 : ∀ (z2 : Int32), ∀ (z3 : Int32), V l G mX4_pairsApart none (phP S) (k4 z2 z3) 4 [(0, vR (0, 3)), (1, vI x1), (2, vI z2), (3, vI z3)] [] (enc S) 0 0) : ∀ (n : Nat) (x2 : Int32) (x4 : Int32), V l G mX4_pairsApart none (phP S) (hX4_pairsApart_15 k4 F S x1 x3 n x2 x4) 15 [(0, vR (0, 3)), (1, vI x1), (2, vI x2), (3, vI x3), (4, vI x4)] [] (enc S) 0 0
  | 0, _, _ => V.nil
  | n + 1, x2, x4 => by
    have ih := thX4_pairsApart_15 l G F S x1 x3 k4 H4 n
    rw [hX4_pairsApart_15]
    refine V.iload dX4_pairsApart_15 4 rfl ?_
    refine V.iload_n dX4_pairsApart_17 3 rfl ?_
    refine V.icmp_ge 76 dX4_pairsApart_18 (by decide) ?_ ?_
    · exact V.lsub [0, 1, 2, 3] rfl (tjX4_pairsApart_76 l G F x1 x2 x3 S k4 H4)
    · refine V.aload_n dX4_pairsApart_21 0 rfl ?_
      refine V.sgR 4 0 dX4_pairsApart_22 gf_X4_13 sh0_3 rfl rfl ?_
      refine V.iload_n dX4_pairsApart_25 3 rfl ?_
      refine V.sbind fun q_2 h_3 => ?_
      refine V.saa (t := 3) dX4_pairsApart_26 rfl rfl h_3 ?_
      refine V.iload_n dX4_pairsApart_27 1 rfl ?_
      refine V.chk fun h_4 => ?_
      refine V.callV (M' := mX3_isOf) (As := [vI x1]) (ψ := (phP S)) dX4_pairsApart_28 ml_X4_25 mfX3_isOf rfl ⟨by decide, by decide⟩ ⟨by decide, by decide⟩ (enc_at h_4 rfl) rfl (Nat.le_of_ble_eq_true rfl) rfl (kX3_isOf l G F q_2 x1 S) (fun a_5 => ?_)
      show V l G mX4_pairsApart none (phP S) _ 31 [(0, vR (0, 3)), (1, vI x1), (2, vI x2), (3, vI x3), (4, vI x4)] [vI a_5] (enc S) 0 0
      refine V.if_eq 76 dX4_pairsApart_31 (by decide) ?_ ?_
      · exact V.lsub [0, 1, 2, 3] rfl (tjX4_pairsApart_76 l G F x1 x2 x3 S k4 H4)
      · refine V.aload_n dX4_pairsApart_34 0 rfl ?_
        refine V.sgR 4 0 dX4_pairsApart_35 gf_X4_13 sh0_3 rfl rfl ?_
        refine V.iload dX4_pairsApart_38 4 rfl ?_
        refine V.sbind fun q_6 h_7 => ?_
        refine V.saa (t := 3) dX4_pairsApart_40 rfl rfl h_7 ?_
        refine V.iload_n dX4_pairsApart_41 1 rfl ?_
        refine V.chk fun h_8 => ?_
        refine V.callV (M' := mX3_isOf) (As := [vI x1]) (ψ := (phP S)) dX4_pairsApart_42 ml_X4_25 mfX3_isOf rfl ⟨by decide, by decide⟩ ⟨by decide, by decide⟩ (enc_at h_8 rfl) rfl (Nat.le_of_ble_eq_true rfl) rfl (kX3_isOf l G F q_6 x1 S) (fun a_9 => ?_)
        show V l G mX4_pairsApart none (phP S) _ 45 [(0, vR (0, 3)), (1, vI x1), (2, vI x2), (3, vI x3), (4, vI x4)] [vI a_9] (enc S) 0 0
        refine V.if_eq 70 dX4_pairsApart_45 (by decide) ?_ ?_
        · exact (tjX4_pairsApart_70 l G F x1 x2 x3 x4 S k4 H4 (hX4_pairsApart_15 k4 F S x1 x3 n) ih)
        · refine V.aload_n dX4_pairsApart_48 0 rfl ?_
          refine V.sgR 4 0 dX4_pairsApart_49 gf_X4_13 sh0_3 rfl rfl ?_
          refine V.iload_n dX4_pairsApart_52 3 rfl ?_
          refine V.saa (t := 3) dX4_pairsApart_53 rfl rfl h_3 ?_
          refine V.aload_n dX4_pairsApart_54 0 rfl ?_
          refine V.sgR 4 0 dX4_pairsApart_55 gf_X4_13 sh0_3 rfl rfl ?_
          refine V.iload dX4_pairsApart_58 4 rfl ?_
          refine V.saa (t := 3) dX4_pairsApart_60 rfl rfl h_7 ?_
          refine V.callV (M' := mX3_isApartFrom) (As := [vR (2, q_6)]) (ψ := (phP S)) dX4_pairsApart_61 ml_X4_46 mfX3_isApartFrom rfl ⟨by decide, by decide⟩ ⟨by decide, by decide⟩ (enc_at h_4 rfl) rfl (Nat.le_of_ble_eq_true rfl) rfl (kX3_isApartFrom l G F q_2 q_6 S) (fun a_11 => ?_)
          show V l G mX4_pairsApart none (phP S) _ 64 [(0, vR (0, 3)), (1, vI x1), (2, vI x2), (3, vI x3), (4, vI x4)] [vI a_11] (enc S) 0 0
          refine V.if_eq 70 dX4_pairsApart_64 (by decide) ?_ ?_
          · exact (tjX4_pairsApart_70 l G F x1 x2 x3 x4 S k4 H4 (hX4_pairsApart_15 k4 F S x1 x3 n) ih)
          · refine V.lti (e := x2 + 1) (fun x_12 he => ?_)
            refine V.iinc (v := x_12) (L' := [(0, vR (0, 3)), (1, vI x1), (2, vI x_12), (3, vI x3), (4, vI x4)]) dX4_pairsApart_67 2 rfl he.symm (by decide) rfl rfl ?_
            exact (tjX4_pairsApart_70 l G F x1 x_12 x3 x4 S k4 H4 (hX4_pairsApart_15 k4 F S x1 x3 n) ih)

theorem thX4_pairsApart_4 (l : Launch) (G : vg) (F : Nat) (S : vs) (x1 : Int32) : ∀ (n : Nat) (x2 : Int32) (x3 : Int32), V l G mX4_pairsApart none (phP S) (hX4_pairsApart_4 F S x1 n x2 x3) 4 [(0, vR (0, 3)), (1, vI x1), (2, vI x2), (3, vI x3)] [] (enc S) 0 0
  | 0, _, _ => V.nil
  | n + 1, x2, x3 => by
    have ih := thX4_pairsApart_4 l G F S x1 n
    rw [hX4_pairsApart_4]
    refine V.iload_n dX4_pairsApart_4 3 rfl ?_
    refine V.aload_n dX4_pairsApart_5 0 rfl ?_
    refine V.sgI 4 1 dX4_pairsApart_6 gf_X4_17 sh0_3 rfl rfl ?_
    refine V.icmp_ge 82 dX4_pairsApart_9 (by decide) ?_ ?_
    · refine V.iload_n dX4_pairsApart_82 2 rfl ?_
      exact V.iret rfl dX4_pairsApart_83 rfl (by decide) (by decide)
    · refine V.iconst (v := 0) dX4_pairsApart_12 (by decide) ?_
      refine V.istore (L' := [(0, vR (0, 3)), (1, vI x1), (2, vI x2), (3, vI x3), (4, vI 0)]) dX4_pairsApart_13 (by decide) rfl rfl ?_
      exact (thX4_pairsApart_15 l G F S x1 x3 (hX4_pairsApart_4 F S x1 n) ih F x2 0)

theorem kX4_pairsApart (l : Launch) (G : vg) (F : Nat) (x1 : Int32) (S : vs) : Rt l G mX4_pairsApart none (phP S) [vR (0, 3), vI x1] (enc S) (fX4_pairsApart F x1 S) := Rt.of rfl (Nat.le_of_ble_eq_true rfl) (by
  show V l G mX4_pairsApart none (phP S) _ 0 [(0, vR (0, 3)), (1, vI x1)] [] (enc S) 0 0
  unfold fX4_pairsApart
  refine V.iconst (v := 0) dX4_pairsApart_0 (by decide) ?_
  refine V.istore_n (L' := [(0, vR (0, 3)), (1, vI x1), (2, vI 0)]) dX4_pairsApart_1 (by decide) rfl rfl ?_
  refine V.iconst (v := 0) dX4_pairsApart_2 (by decide) ?_
  refine V.istore_n (L' := [(0, vR (0, 3)), (1, vI x1), (2, vI 0), (3, vI 0)]) dX4_pairsApart_3 (by decide) rfl rfl ?_
  exact (thX4_pairsApart_4 l G F S x1 F 0 0))

abbrev mX5_isFor : vmt := (yX5_isFor, cX5_isFor, 2, (some .boolean), { frames := 0, cells := 0, slots := 0, locals := 0 })
theorem mfX5_isFor : mfV mX5_isFor 1 := ⟨im_X5_isFor, se_X5_isFor, ini_X5, co_X5_isFor, by decide, by decide, by decide +kernel⟩
def jX5_isFor_17 (F : Nat) (S : vs) : Option Int32 := some 1

def fX5_isFor (F : Nat) (n0 : Nat) (x1 : Int32) (S : vs) : Option Int32 := gd (alv S.2.2 (3, n0)) (if (S.1 (3, n0) 2) = (-9) then jX5_isFor_17 F S else if (S.1 (3, n0) 2) = x1 then jX5_isFor_17 F S else some 0)
theorem tjX5_isFor_17 (l : Launch) (G : vg) (F : Nat) (S : vs) : V l G mX5_isFor none (phP S) (jX5_isFor_17 F S) 17 [] [] (enc S) 0 0 := by
  unfold jX5_isFor_17
  refine V.iconst (v := 1) dX5_isFor_17 (by decide) ?_
  refine V.goto 22 dX5_isFor_18 (by decide) ?_
  exact V.zret rfl dX5_isFor_22 rfl (zb_n rfl) (by decide) (by decide)

theorem kX5_isFor (l : Launch) (G : vg) (F : Nat) (n0 : Nat) (x1 : Int32) (S : vs) : Rt l G mX5_isFor none (phP S) [vR (3, n0), vI x1] (enc S) (fX5_isFor F n0 x1 S) := Rt.of rfl (Nat.le_of_ble_eq_true rfl) (by
  show V l G mX5_isFor none (phP S) _ 0 [(0, vR (3, n0)), (1, vI x1)] [] (enc S) 0 0
  unfold fX5_isFor
  refine V.aload_n dX5_isFor_0 0 rfl ?_
  refine V.chk fun h_1 => ?_
  refine V.sgI 5 2 dX5_isFor_1 gf_X5_18 rfl rfl h_1 ?_
  refine V.bipush (v := (-9)) dX5_isFor_4 (by decide) ?_
  refine V.icmp_eq 17 dX5_isFor_6 (by decide) ?_ ?_
  · exact V.lsub [] rfl (tjX5_isFor_17 l G F S)
  · refine V.aload_n dX5_isFor_9 0 rfl ?_
    refine V.sgI 5 2 dX5_isFor_10 gf_X5_18 rfl rfl h_1 ?_
    refine V.iload_n dX5_isFor_13 1 rfl ?_
    refine V.icmp_ne 21 dX5_isFor_14 (by decide) ?_ ?_
    · refine V.iconst (v := 0) dX5_isFor_21 (by decide) ?_
      exact V.zret rfl dX5_isFor_22 rfl (zb_n rfl) (by decide) (by decide)
    · exact V.lsub [] rfl (tjX5_isFor_17 l G F S))

abbrev mX5_letAfter : vmt := (yX5_letAfter, cX5_letAfter, 2, (some .int), { frames := 0, cells := 0, slots := 0, locals := 0 })
theorem mfX5_letAfter : mfV mX5_letAfter 1 := ⟨im_X5_letAfter, se_X5_letAfter, ini_X5, co_X5_letAfter, by decide, by decide, by decide +kernel⟩
def fX5_letAfter (F : Nat) (n0 : Nat) (x1 : Int32) (S : vs) : Option Int32 := gd (alv S.2.2 (3, n0)) (if (S.1 (3, n0) 4) = 0 then some (x1 &&& ((S.1 (3, n0) 1) ^^^ (-1))) else some (x1 ||| (S.1 (3, n0) 1)))
theorem kX5_letAfter (l : Launch) (G : vg) (F : Nat) (n0 : Nat) (x1 : Int32) (S : vs) : Rt l G mX5_letAfter none (phP S) [vR (3, n0), vI x1] (enc S) (fX5_letAfter F n0 x1 S) := Rt.of rfl (Nat.le_of_ble_eq_true rfl) (by
  show V l G mX5_letAfter none (phP S) _ 0 [(0, vR (3, n0)), (1, vI x1)] [] (enc S) 0 0
  unfold fX5_letAfter
  refine V.aload_n dX5_letAfter_0 0 rfl ?_
  refine V.chk fun h_1 => ?_
  refine V.sgI 5 4 dX5_letAfter_1 gf_X5_24 rfl rfl h_1 ?_
  refine V.if_eq 16 dX5_letAfter_4 (by decide) ?_ ?_
  · refine V.iload_n dX5_letAfter_16 1 rfl ?_
    refine V.aload_n dX5_letAfter_17 0 rfl ?_
    refine V.sgI 5 1 dX5_letAfter_18 gf_X5_15 rfl rfl h_1 ?_
    refine V.iconst (v := (-1)) dX5_letAfter_21 (by decide) ?_
    refine V.ixor dX5_letAfter_22 ?_
    refine V.iand dX5_letAfter_23 ?_
    exact V.iret rfl dX5_letAfter_24 rfl (by decide) (by decide)
  · refine V.iload_n dX5_letAfter_7 1 rfl ?_
    refine V.aload_n dX5_letAfter_8 0 rfl ?_
    refine V.sgI 5 1 dX5_letAfter_9 gf_X5_15 rfl rfl h_1 ?_
    refine V.ior dX5_letAfter_12 ?_
    refine V.goto 24 dX5_letAfter_13 (by decide) ?_
    exact V.iret rfl dX5_letAfter_24 rfl (by decide) (by decide))

abbrev mX6_isFull : vmt := (yX6_isFull, cX6_isFull, 1, (some .boolean), { frames := 0, cells := 0, slots := 0, locals := 0 })
theorem mfX6_isFull : mfV mX6_isFull 0 := ⟨im_X6_isFull, se_X6_isFull, ini_X6, co_X6_isFull, by decide, by decide, by decide +kernel⟩
def fX6_isFull (F : Nat) (S : vs) : Option Int32 := if (S.1 (0, 5) 1) < 60 then some 0 else some 1
theorem kX6_isFull (l : Launch) (G : vg) (F : Nat) (S : vs) : Rt l G mX6_isFull none (phP S) [vR (0, 5)] (enc S) (fX6_isFull F S) := Rt.of rfl (Nat.le_of_ble_eq_true rfl) (by
  show V l G mX6_isFull none (phP S) _ 0 [(0, vR (0, 5))] [] (enc S) 0 0
  unfold fX6_isFull
  refine V.aload_n dX6_isFull_0 0 rfl ?_
  refine V.sgI 6 1 dX6_isFull_1 gf_X6_17 sh0_5 rfl rfl ?_
  refine V.bipush (v := 60) dX6_isFull_4 (by decide) ?_
  refine V.icmp_lt 13 dX6_isFull_6 (by decide) ?_ ?_
  · refine V.iconst (v := 0) dX6_isFull_13 (by decide) ?_
    exact V.zret rfl dX6_isFull_14 rfl (zb_n rfl) (by decide) (by decide)
  · refine V.iconst (v := 1) dX6_isFull_9 (by decide) ?_
    refine V.goto 14 dX6_isFull_10 (by decide) ?_
    exact V.zret rfl dX6_isFull_14 rfl (zb_n rfl) (by decide) (by decide))

abbrev mX6_latestFor : vmt := (yX6_latestFor, cX6_latestFor, 6, (some .int), { frames := 1, cells := 0, slots := 0, locals := 21 })
theorem mfX6_latestFor : mfV mX6_latestFor 3 := ⟨im_X6_latestFor, se_X6_latestFor, ini_X6, co_X6_latestFor, by decide, by decide, by decide +kernel⟩
def jX6_latestFor_71 (k7 : Int32 → Int32 → Option Int32) (F : Nat) (x1 : Int32) (x2 : Int32) (x3 : Int32) (x4 : Int32) (x5 : Int32) (S : vs) : Option Int32 := ltt (x5 + 1) (fun x_4 => k7 x4 x_4)

def hX6_latestFor_7 (F : Nat) (S : vs) (x1 : Int32) (x2 : Int32) (x3 : Int32) : Nat → Int32 → Int32 → Option Int32
  | 0, _, _ => none
  | n + 1, x4, x5 => if (S.1 (0, 5) 1) ≤ x5 then some x4 else (rget 4 S (0, 22) x5).bind (fun q_1 => gd (alv S.2.2 (3, q_1)) (if x3 < (S.1 (3, q_1) 3) then some x4 else if ((S.1 (3, q_1) 1) &&& x1) = 0 then jX6_latestFor_71 (hX6_latestFor_7 F S x1 x2 x3 n) F x1 x2 x3 x4 x5 S else (fX5_isFor F q_1 x2 S).bind (fun a_5 => if a_5 = 0 then jX6_latestFor_71 (hX6_latestFor_7 F S x1 x2 x3 n) F x1 x2 x3 x4 x5 S else ltt (S.1 (3, q_1) 0) (fun x_6 => jX6_latestFor_71 (hX6_latestFor_7 F S x1 x2 x3 n) F x1 x2 x3 x_6 x5 S))))

def fX6_latestFor (F : Nat) (x1 : Int32) (x2 : Int32) (x3 : Int32) (S : vs) : Option Int32 := hX6_latestFor_7 F S x1 x2 x3 F (-9) 0
theorem tjX6_latestFor_71 (l : Launch) (G : vg) (F : Nat) (x1 : Int32) (x2 : Int32) (x3 : Int32) (x4 : Int32) (x5 : Int32) (S : vs) (k7 : Int32 → Int32 → Option Int32) (H7 : ∀ (z4 : Int32), ∀ (z5 : Int32), V l G mX6_latestFor none (phP S) (k7 z4 z5) 7 [(0, vR (0, 5)), (1, vI x1), (2, vI x2), (3, vI x3), (4, vI z4), (5, vI z5)] [] (enc S) 0 0) : V l G mX6_latestFor none (phP S) (jX6_latestFor_71 k7 F x1 x2 x3 x4 x5 S) 71 [(0, vR (0, 5)), (1, vI x1), (2, vI x2), (3, vI x3), (4, vI x4), (5, vI x5)] [] (enc S) 0 0 := by
  unfold jX6_latestFor_71
  refine V.lti (e := x5 + 1) (fun x_4 he => ?_)
  refine V.iinc (v := x_4) (L' := [(0, vR (0, 5)), (1, vI x1), (2, vI x2), (3, vI x3), (4, vI x4), (5, vI x_4)]) dX6_latestFor_71 5 rfl he.symm (by decide) rfl rfl ?_
  refine V.goto 7 dX6_latestFor_74 (by decide) ?_
  exact (H7 x4 x_4)

theorem thX6_latestFor_7 (l : Launch) (G : vg) (F : Nat) (S : vs) (x1 : Int32) (x2 : Int32) (x3 : Int32) : ∀ (n : Nat) (x4 : Int32) (x5 : Int32), V l G mX6_latestFor none (phP S) (hX6_latestFor_7 F S x1 x2 x3 n x4 x5) 7 [(0, vR (0, 5)), (1, vI x1), (2, vI x2), (3, vI x3), (4, vI x4), (5, vI x5)] [] (enc S) 0 0
  | 0, _, _ => V.nil
  | n + 1, x4, x5 => by
    have ih := thX6_latestFor_7 l G F S x1 x2 x3 n
    rw [hX6_latestFor_7]
    refine V.iload dX6_latestFor_7 5 rfl ?_
    refine V.aload_n dX6_latestFor_9 0 rfl ?_
    refine V.sgI 6 1 dX6_latestFor_10 gf_X6_17 sh0_5 rfl rfl ?_
    refine V.icmp_ge 77 dX6_latestFor_13 (by decide) ?_ ?_
    · refine V.iload dX6_latestFor_77 4 rfl ?_
      exact V.iret rfl dX6_latestFor_79 rfl (by decide) (by decide)
    · refine V.aload_n dX6_latestFor_16 0 rfl ?_
      refine V.sgR 6 0 dX6_latestFor_17 gf_X6_13 sh0_5 rfl rfl ?_
      refine V.iload dX6_latestFor_20 5 rfl ?_
      refine V.sbind fun q_1 h_2 => ?_
      refine V.saa (t := 4) dX6_latestFor_22 rfl rfl h_2 ?_
      refine V.chk fun h_3 => ?_
      refine V.sgI 5 3 dX6_latestFor_23 gf_X6_21 rfl rfl h_3 ?_
      refine V.iload_n dX6_latestFor_26 3 rfl ?_
      refine V.icmp_gt 77 dX6_latestFor_27 (by decide) ?_ ?_
      · refine V.iload dX6_latestFor_77 4 rfl ?_
        exact V.iret rfl dX6_latestFor_79 rfl (by decide) (by decide)
      · refine V.aload_n dX6_latestFor_30 0 rfl ?_
        refine V.sgR 6 0 dX6_latestFor_31 gf_X6_13 sh0_5 rfl rfl ?_
        refine V.iload dX6_latestFor_34 5 rfl ?_
        refine V.saa (t := 4) dX6_latestFor_36 rfl rfl h_2 ?_
        refine V.sgI 5 1 dX6_latestFor_37 gf_X6_27 rfl rfl h_3 ?_
        refine V.iload_n dX6_latestFor_40 1 rfl ?_
        refine V.iand dX6_latestFor_41 ?_
        refine V.if_eq 71 dX6_latestFor_42 (by decide) ?_ ?_
        · exact (tjX6_latestFor_71 l G F x1 x2 x3 x4 x5 S (hX6_latestFor_7 F S x1 x2 x3 n) ih)
        · refine V.aload_n dX6_latestFor_45 0 rfl ?_
          refine V.sgR 6 0 dX6_latestFor_46 gf_X6_13 sh0_5 rfl rfl ?_
          refine V.iload dX6_latestFor_49 5 rfl ?_
          refine V.saa (t := 4) dX6_latestFor_51 rfl rfl h_2 ?_
          refine V.iload_n dX6_latestFor_52 2 rfl ?_
          refine V.callV (M' := mX5_isFor) (As := [vI x2]) (ψ := (phP S)) dX6_latestFor_53 ml_X6_30 mfX5_isFor rfl ⟨by decide, by decide⟩ ⟨by decide, by decide⟩ (enc_at h_3 rfl) rfl (Nat.le_of_ble_eq_true rfl) rfl (kX5_isFor l G F q_1 x2 S) (fun a_5 => ?_)
          show V l G mX6_latestFor none (phP S) _ 56 [(0, vR (0, 5)), (1, vI x1), (2, vI x2), (3, vI x3), (4, vI x4), (5, vI x5)] [vI a_5] (enc S) 0 0
          refine V.if_eq 71 dX6_latestFor_56 (by decide) ?_ ?_
          · exact (tjX6_latestFor_71 l G F x1 x2 x3 x4 x5 S (hX6_latestFor_7 F S x1 x2 x3 n) ih)
          · refine V.aload_n dX6_latestFor_59 0 rfl ?_
            refine V.sgR 6 0 dX6_latestFor_60 gf_X6_13 sh0_5 rfl rfl ?_
            refine V.iload dX6_latestFor_63 5 rfl ?_
            refine V.saa (t := 4) dX6_latestFor_65 rfl rfl h_2 ?_
            refine V.sgI 5 0 dX6_latestFor_66 gf_X6_34 rfl rfl h_3 ?_
            refine V.lett fun x_6 => ?_
            refine V.istore (L' := [(0, vR (0, 5)), (1, vI x1), (2, vI x2), (3, vI x3), (4, vI x_6), (5, vI x5)]) dX6_latestFor_69 (by decide) rfl rfl ?_
            exact (tjX6_latestFor_71 l G F x1 x2 x3 x_6 x5 S (hX6_latestFor_7 F S x1 x2 x3 n) ih)

theorem kX6_latestFor (l : Launch) (G : vg) (F : Nat) (x1 : Int32) (x2 : Int32) (x3 : Int32) (S : vs) : Rt l G mX6_latestFor none (phP S) [vR (0, 5), vI x1, vI x2, vI x3] (enc S) (fX6_latestFor F x1 x2 x3 S) := Rt.of rfl (Nat.le_of_ble_eq_true rfl) (by
  show V l G mX6_latestFor none (phP S) _ 0 [(0, vR (0, 5)), (1, vI x1), (2, vI x2), (3, vI x3)] [] (enc S) 0 0
  unfold fX6_latestFor
  refine V.bipush (v := (-9)) dX6_latestFor_0 (by decide) ?_
  refine V.istore (L' := [(0, vR (0, 5)), (1, vI x1), (2, vI x2), (3, vI x3), (4, vI (-9))]) dX6_latestFor_2 (by decide) rfl rfl ?_
  refine V.iconst (v := 0) dX6_latestFor_4 (by decide) ?_
  refine V.istore (L' := [(0, vR (0, 5)), (1, vI x1), (2, vI x2), (3, vI x3), (4, vI (-9)), (5, vI 0)]) dX6_latestFor_5 (by decide) rfl rfl ?_
  exact (thX6_latestFor_7 l G F S x1 x2 x3 F (-9) 0))

abbrev mX6_letOn : vmt := (yX6_letOn, cX6_letOn, 5, (some .int), { frames := 1, cells := 0, slots := 0, locals := 21 })
theorem mfX6_letOn : mfV mX6_letOn 2 := ⟨im_X6_letOn, se_X6_letOn, ini_X6, co_X6_letOn, by decide, by decide, by decide +kernel⟩
def jX6_letOn_54 (k5 : Int32 → Int32 → Option Int32) (F : Nat) (x1 : Int32) (x2 : Int32) (x3 : Int32) (x4 : Int32) (S : vs) : Option Int32 := ltt (x4 + 1) (fun x_5 => k5 x3 x_5)

def hX6_letOn_5 (F : Nat) (S : vs) (x1 : Int32) (x2 : Int32) : Nat → Int32 → Int32 → Option Int32
  | 0, _, _ => none
  | n + 1, x3, x4 => if (S.1 (0, 5) 1) ≤ x4 then some x3 else (rget 4 S (0, 22) x4).bind (fun q_1 => gd (alv S.2.2 (3, q_1)) (if x2 < (S.1 (3, q_1) 3) then some x3 else (fX5_isFor F q_1 x1 S).bind (fun a_4 => if a_4 = 0 then jX6_letOn_54 (hX6_letOn_5 F S x1 x2 n) F x1 x2 x3 x4 S else (fX5_letAfter F q_1 x3 S).bind (fun a_6 => jX6_letOn_54 (hX6_letOn_5 F S x1 x2 n) F x1 x2 a_6 x4 S))))

def fX6_letOn (F : Nat) (x1 : Int32) (x2 : Int32) (S : vs) : Option Int32 := hX6_letOn_5 F S x1 x2 F 0 0
theorem tjX6_letOn_54 (l : Launch) (G : vg) (F : Nat) (x1 : Int32) (x2 : Int32) (x3 : Int32) (x4 : Int32) (S : vs) (k5 : Int32 → Int32 → Option Int32) (H5 : ∀ (z3 : Int32), ∀ (z4 : Int32), V l G mX6_letOn none (phP S) (k5 z3 z4) 5 [(0, vR (0, 5)), (1, vI x1), (2, vI x2), (3, vI z3), (4, vI z4)] [] (enc S) 0 0) : V l G mX6_letOn none (phP S) (jX6_letOn_54 k5 F x1 x2 x3 x4 S) 54 [(0, vR (0, 5)), (1, vI x1), (2, vI x2), (3, vI x3), (4, vI x4)] [] (enc S) 0 0 := by
  unfold jX6_letOn_54
  refine V.lti (e := x4 + 1) (fun x_5 he => ?_)
  refine V.iinc (v := x_5) (L' := [(0, vR (0, 5)), (1, vI x1), (2, vI x2), (3, vI x3), (4, vI x_5)]) dX6_letOn_54 4 rfl he.symm (by decide) rfl rfl ?_
  refine V.goto 5 dX6_letOn_57 (by decide) ?_
  exact (H5 x3 x_5)

theorem thX6_letOn_5 (l : Launch) (G : vg) (F : Nat) (S : vs) (x1 : Int32) (x2 : Int32) : ∀ (n : Nat) (x3 : Int32) (x4 : Int32), V l G mX6_letOn none (phP S) (hX6_letOn_5 F S x1 x2 n x3 x4) 5 [(0, vR (0, 5)), (1, vI x1), (2, vI x2), (3, vI x3), (4, vI x4)] [] (enc S) 0 0
  | 0, _, _ => V.nil
  | n + 1, x3, x4 => by
    have ih := thX6_letOn_5 l G F S x1 x2 n
    rw [hX6_letOn_5]
    refine V.iload dX6_letOn_5 4 rfl ?_
    refine V.aload_n dX6_letOn_7 0 rfl ?_
    refine V.sgI 6 1 dX6_letOn_8 gf_X6_17 sh0_5 rfl rfl ?_
    refine V.icmp_ge 60 dX6_letOn_11 (by decide) ?_ ?_
    · refine V.iload_n dX6_letOn_60 3 rfl ?_
      exact V.iret rfl dX6_letOn_61 rfl (by decide) (by decide)
    · refine V.aload_n dX6_letOn_14 0 rfl ?_
      refine V.sgR 6 0 dX6_letOn_15 gf_X6_13 sh0_5 rfl rfl ?_
      refine V.iload dX6_letOn_18 4 rfl ?_
      refine V.sbind fun q_1 h_2 => ?_
      refine V.saa (t := 4) dX6_letOn_20 rfl rfl h_2 ?_
      refine V.chk fun h_3 => ?_
      refine V.sgI 5 3 dX6_letOn_21 gf_X6_21 rfl rfl h_3 ?_
      refine V.iload_n dX6_letOn_24 2 rfl ?_
      refine V.icmp_gt 60 dX6_letOn_25 (by decide) ?_ ?_
      · refine V.iload_n dX6_letOn_60 3 rfl ?_
        exact V.iret rfl dX6_letOn_61 rfl (by decide) (by decide)
      · refine V.aload_n dX6_letOn_28 0 rfl ?_
        refine V.sgR 6 0 dX6_letOn_29 gf_X6_13 sh0_5 rfl rfl ?_
        refine V.iload dX6_letOn_32 4 rfl ?_
        refine V.saa (t := 4) dX6_letOn_34 rfl rfl h_2 ?_
        refine V.iload_n dX6_letOn_35 1 rfl ?_
        refine V.callV (M' := mX5_isFor) (As := [vI x1]) (ψ := (phP S)) dX6_letOn_36 ml_X6_30 mfX5_isFor rfl ⟨by decide, by decide⟩ ⟨by decide, by decide⟩ (enc_at h_3 rfl) rfl (Nat.le_of_ble_eq_true rfl) rfl (kX5_isFor l G F q_1 x1 S) (fun a_4 => ?_)
        show V l G mX6_letOn none (phP S) _ 39 [(0, vR (0, 5)), (1, vI x1), (2, vI x2), (3, vI x3), (4, vI x4)] [vI a_4] (enc S) 0 0
        refine V.if_eq 54 dX6_letOn_39 (by decide) ?_ ?_
        · exact (tjX6_letOn_54 l G F x1 x2 x3 x4 S (hX6_letOn_5 F S x1 x2 n) ih)
        · refine V.aload_n dX6_letOn_42 0 rfl ?_
          refine V.sgR 6 0 dX6_letOn_43 gf_X6_13 sh0_5 rfl rfl ?_
          refine V.iload dX6_letOn_46 4 rfl ?_
          refine V.saa (t := 4) dX6_letOn_48 rfl rfl h_2 ?_
          refine V.iload_n dX6_letOn_49 3 rfl ?_
          refine V.callV (M' := mX5_letAfter) (As := [vI x3]) (ψ := (phP S)) dX6_letOn_50 ml_X6_37 mfX5_letAfter rfl ⟨by decide, by decide⟩ ⟨by decide, by decide⟩ (enc_at h_3 rfl) rfl (Nat.le_of_ble_eq_true rfl) rfl (kX5_letAfter l G F q_1 x3 S) (fun a_6 => ?_)
          show V l G mX6_letOn none (phP S) _ 53 [(0, vR (0, 5)), (1, vI x1), (2, vI x2), (3, vI x3), (4, vI x4)] [vI a_6] (enc S) 0 0
          refine V.istore_n (L' := [(0, vR (0, 5)), (1, vI x1), (2, vI x2), (3, vI a_6), (4, vI x4)]) dX6_letOn_53 (by decide) rfl rfl ?_
          exact (tjX6_letOn_54 l G F x1 x2 a_6 x4 S (hX6_letOn_5 F S x1 x2 n) ih)

theorem kX6_letOn (l : Launch) (G : vg) (F : Nat) (x1 : Int32) (x2 : Int32) (S : vs) : Rt l G mX6_letOn none (phP S) [vR (0, 5), vI x1, vI x2] (enc S) (fX6_letOn F x1 x2 S) := Rt.of rfl (Nat.le_of_ble_eq_true rfl) (by
  show V l G mX6_letOn none (phP S) _ 0 [(0, vR (0, 5)), (1, vI x1), (2, vI x2)] [] (enc S) 0 0
  unfold fX6_letOn
  refine V.iconst (v := 0) dX6_letOn_0 (by decide) ?_
  refine V.istore_n (L' := [(0, vR (0, 5)), (1, vI x1), (2, vI x2), (3, vI 0)]) dX6_letOn_1 (by decide) rfl rfl ?_
  refine V.iconst (v := 0) dX6_letOn_2 (by decide) ?_
  refine V.istore (L' := [(0, vR (0, 5)), (1, vI x1), (2, vI x2), (3, vI 0), (4, vI 0)]) dX6_letOn_3 (by decide) rfl rfl ?_
  exact (thX6_letOn_5 l G F S x1 x2 F 0 0))

