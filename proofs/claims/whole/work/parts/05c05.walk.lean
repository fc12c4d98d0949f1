abbrev mX6_daysThatLet : vmt := (yX6_daysThatLet, cX6_daysThatLet, 10, (some .int), { frames := 1, cells := 0, slots := 0, locals := 21 })
theorem mfX6_daysThatLet : mfV mX6_daysThatLet 4 := ⟨im_X6_daysThatLet, se_X6_daysThatLet, ini_X6, co_X6_daysThatLet, by decide, by decide, by decide +kernel⟩
def jX6_daysThatLet_112 (F : Nat) (x1 : Int32) (x4 : Int32) (x5 : Int32) (x6 : Int32) (x7 : Int32) (S : vs) : Option Int32 := if (x1 &&& (x5 ^^^ (-1))) = 0 then some (x7 + ((x4 - x6) + 1)) else some (x7 + 0)

def jX6_daysThatLet_106 (k12 : Int32 → Int32 → Int32 → Int32 → Option Int32) (F : Nat) (x1 : Int32) (x2 : Int32) (x4 : Int32) (x5 : Int32) (x6 : Int32) (x7 : Int32) (x8 : Int32) (S : vs) : Option Int32 := ltt (x8 + 1) (fun x_6 => k12 x5 x6 x7 x_6)

def jX6_daysThatLet_88 (k12 : Int32 → Int32 → Int32 → Int32 → Option Int32) (F : Nat) (x1 : Int32) (x2 : Int32) (x4 : Int32) (x5 : Int32) (x6 : Int32) (x7 : Int32) (x8 : Int32) (n9 : Nat) (S : vs) : Option Int32 := gd (alv S.2.2 (3, n9)) ((fX5_isFor F n9 x2 S).bind (fun a_5 => if a_5 = 0 then jX6_daysThatLet_106 k12 F x1 x2 x4 x5 x6 x7 x8 S else (fX5_letAfter F n9 x5 S).bind (fun a_7 => jX6_daysThatLet_106 k12 F x1 x2 x4 a_7 x6 x7 x8 S)))

def jX6_daysThatLet_78 (k12 : Int32 → Int32 → Int32 → Int32 → Option Int32) (F : Nat) (x1 : Int32) (x2 : Int32) (x4 : Int32) (x5 : Int32) (x8 : Int32) (n9 : Nat) (sk0 : Int32) (sk1 : Int32) (S : vs) : Option Int32 := ltt (sk1 + sk0) (fun x_8 => gd (alv S.2.2 (3, n9)) (ltt (S.1 (3, n9) 3) (fun x_10 => jX6_daysThatLet_88 k12 F x1 x2 x4 x5 x_10 x_8 x8 n9 S)))

def hX6_daysThatLet_12 (F : Nat) (S : vs) (x1 : Int32) (x2 : Int32) (x4 : Int32) : Nat → Int32 → Int32 → Int32 → Int32 → Option Int32
  | 0, _, _, _, _ => none
  | n + 1, x5, x6, x7, x8 => if (S.1 (0, 5) 1) ≤ x8 then jX6_daysThatLet_112 F x1 x4 x5 x6 x7 S else (rget 4 S (0, 22) x8).bind (fun q_1 => gd (alv S.2.2 (3, q_1)) (if x4 < (S.1 (3, q_1) 3) then jX6_daysThatLet_112 F x1 x4 x5 x6 x7 S else if (S.1 (3, q_1) 3) ≤ x6 then jX6_daysThatLet_88 (hX6_daysThatLet_12 F S x1 x2 x4 n) F x1 x2 x4 x5 x6 x7 x8 q_1 S else if (x1 &&& (x5 ^^^ (-1))) = 0 then jX6_daysThatLet_78 (hX6_daysThatLet_12 F S x1 x2 x4 n) F x1 x2 x4 x5 x8 q_1 ((S.1 (3, q_1) 3) - x6) x7 S else jX6_daysThatLet_78 (hX6_daysThatLet_12 F S x1 x2 x4 n) F x1 x2 x4 x5 x8 q_1 0 x7 S))

def fX6_daysThatLet (F : Nat) (x1 : Int32) (x2 : Int32) (x3 : Int32) (x4 : Int32) (S : vs) : Option Int32 := hX6_daysThatLet_12 F S x1 x2 x4 F 0 x3 0 0
theorem tjX6_daysThatLet_112 (l : Launch) (G : vg) (F : Nat) (x1 : Int32) (x4 : Int32) (x5 : Int32) (x6 : Int32) (x7 : Int32) (S : vs) : V l G mX6_daysThatLet none (phP S) (jX6_daysThatLet_112 F x1 x4 x5 x6 x7 S) 112 [(1, vI x1), (4, vI x4), (5, vI x5), (6, vI x6), (7, vI x7)] [] (enc S) 0 0 := by
  unfold jX6_daysThatLet_112
  refine V.iload dX6_daysThatLet_112 4 rfl ?_
  refine V.iload_n dX6_daysThatLet_114 0 rfl ?_
  refine V.iload dX6_daysThatLet_115 2 rfl ?_
  refine V.iconst (v := (-1)) dX6_daysThatLet_117 (by decide) ?_
  refine V.ixor dX6_daysThatLet_118 ?_
  refine V.iand dX6_daysThatLet_119 ?_
  refine V.if_ne 133 dX6_daysThatLet_120 (by decide) ?_ ?_
  · refine V.iconst (v := 0) dX6_daysThatLet_133 (by decide) ?_
    refine V.iadd dX6_daysThatLet_134 ?_
    exact V.iret rfl dX6_daysThatLet_135 rfl (by decide) (by decide)
  · refine V.iload dX6_daysThatLet_123 1 rfl ?_
    refine V.iload dX6_daysThatLet_125 3 rfl ?_
    refine V.isub dX6_daysThatLet_127 ?_
    refine V.iconst (v := 1) dX6_daysThatLet_128 (by decide) ?_
    refine V.iadd dX6_daysThatLet_129 ?_
    refine V.goto 134 dX6_daysThatLet_130 (by decide) ?_
    refine V.iadd dX6_daysThatLet_134 ?_
    exact V.iret rfl dX6_daysThatLet_135 rfl (by decide) (by decide)

theorem tjX6_daysThatLet_106 (l : Launch) (G : vg) (F : Nat) (x1 : Int32) (x2 : Int32) (x4 : Int32) (x5 : Int32) (x6 : Int32) (x7 : Int32) (x8 : Int32) (S : vs) (k12 : Int32 → Int32 → Int32 → Int32 → Option Int32) (H12 : ∀ (z5 : Int32), ∀ (z6 : Int32), ∀ (z7 : Int32), ∀ (z8 : Int32), V l G mX6_daysThatLet none (phP S) (k12 z5 z6 z7 z8) 12 [(0, vR (0, 5)), (1, vI x1), (2, vI x2), (4, vI x4), (5, vI z5), (6, vI z6), (7, vI z7), (8, vI z8)] [] (enc S) 0 0) : V l G mX6_daysThatLet none (phP S) (jX6_daysThatLet_106 k12 F x1 x2 x4 x5 x6 x7 x8 S) 106 [(0, vR (0, 5)), (1, vI x1), (2, vI x2), (4, vI x4), (5, vI x5), (6, vI x6), (7, vI x7), (8, vI x8)] [] (enc S) 0 0 := by
  unfold jX6_daysThatLet_106
  refine V.lti (e := x8 + 1) (fun x_6 he => ?_)
  refine V.iinc (v := x_6) (L' := [(0, vR (0, 5)), (1, vI x1), (2, vI x2), (4, vI x4), (5, vI x5), (6, vI x6), (7, vI x7), (8, vI x_6)]) dX6_daysThatLet_106 7 rfl he.symm (by decide) rfl rfl ?_
  refine V.goto 12 dX6_daysThatLet_109 (by decide) ?_
  exact (H12 x5 x6 x7 x_6)

theorem tjX6_daysThatLet_88 (l : Launch) (G : vg) (F : Nat) (x1 : Int32) (x2 : Int32) (x4 : Int32) (x5 : Int32) (x6 : Int32) (x7 : Int32) (x8 : Int32) (n9 : Nat) (S : vs) (k12 : Int32 → Int32 → Int32 → Int32 → Option Int32) (H12 : ∀ (z5 : Int32), ∀ (z6 : Int32), ∀ (z7 : Int32), ∀ (z8 : Int32), V l G mX6_daysThatLet none (phP S) (k12 z5 z6 z7 z8) 12 [(0, vR (0, 5)), (1, vI x1), (2, vI x2), (4, vI x4), (5, vI z5), (6, vI z6), (7, vI z7), (8, vI z8)] [] (enc S) 0 0) : V l G mX6_daysThatLet none (phP S) (jX6_daysThatLet_88 k12 F x1 x2 x4 x5 x6 x7 x8 n9 S) 88 [(0, vR (0, 5)), (1, vI x1), (2, vI x2), (4, vI x4), (5, vI x5), (6, vI x6), (7, vI x7), (8, vI x8), (9, vR (3, n9))] [] (enc S) 0 0 := by
  unfold jX6_daysThatLet_88
  refine V.aload dX6_daysThatLet_88 8 rfl ?_
  refine V.iload_n dX6_daysThatLet_90 2 rfl ?_
  refine V.chk fun h_4 => ?_
  refine V.callV (M' := mX5_isFor) (As := [vI x2]) (ψ := (phP S)) dX6_daysThatLet_91 ml_X6_30 mfX5_isFor rfl ⟨by decide, by decide⟩ ⟨by decide, by decide⟩ (enc_at h_4 rfl) rfl (Nat.le_of_ble_eq_true rfl) rfl (kX5_isFor l G F n9 x2 S) (fun a_5 => ?_)
  show V l G mX6_daysThatLet none (phP S) _ 94 [(0, vR (0, 5)), (1, vI x1), (2, vI x2), (4, vI x4), (5, vI x5), (6, vI x6), (7, vI x7), (8, vI x8), (9, vR (3, n9))] [vI a_5] (enc S) 0 0
  refine V.if_eq 106 dX6_daysThatLet_94 (by decide) ?_ ?_
  · exact V.lsub [0, 1, 2, 3, 4, 5, 6, 7] rfl (tjX6_daysThatLet_106 l G F x1 x2 x4 x5 x6 x7 x8 S k12 H12)
  · refine V.aload dX6_daysThatLet_97 8 rfl ?_
    refine V.iload dX6_daysThatLet_99 4 rfl ?_
    refine V.callV (M' := mX5_letAfter) (As := [vI x5]) (ψ := (phP S)) dX6_daysThatLet_101 ml_X6_37 mfX5_letAfter rfl ⟨by decide, by decide⟩ ⟨by decide, by decide⟩ (enc_at h_4 rfl) rfl (Nat.le_of_ble_eq_true rfl) rfl (kX5_letAfter l G F n9 x5 S) (fun a_7 => ?_)
    show V l G mX6_daysThatLet none (phP S) _ 104 [(0, vR (0, 5)), (1, vI x1), (2, vI x2), (4, vI x4), (5, vI x5), (6, vI x6), (7, vI x7), (8, vI x8), (9, vR (3, n9))] [vI a_7] (enc S) 0 0
    refine V.istore (L' := [(0, vR (0, 5)), (1, vI x1), (2, vI x2), (4, vI x4), (5, vI a_7), (6, vI x6), (7, vI x7), (8, vI x8), (9, vR (3, n9))]) dX6_daysThatLet_104 (by decide) rfl rfl ?_
    exact V.lsub [0, 1, 2, 3, 4, 5, 6, 7] rfl (tjX6_daysThatLet_106 l G F x1 x2 x4 a_7 x6 x7 x8 S k12 H12)

theorem tjX6_daysThatLet_78 (l : Launch) (G : vg) (F : Nat) (x1 : Int32) (x2 : Int32) (x4 : Int32) (x5 : Int32) (x8 : Int32) (n9 : Nat) (sk0 : Int32) (sk1 : Int32) (S : vs) (k12 : Int32 → Int32 → Int32 → Int32 → Option Int32) (H12 : ∀ (z5 : Int32), ∀ (z6 : Int32), ∀ (z7 : Int32), ∀ (z8 : Int32), V l G mX6_daysThatLet none (phP S) (k12 z5 z6 z7 z8) 12 [(0, vR (0, 5)), (1, vI x1), (2, vI x2), (4, vI x4), (5, vI z5), (6, vI z6), (7, vI z7), (8, vI z8)] [] (enc S) 0 0) : V l G mX6_daysThatLet none (phP S) (jX6_daysThatLet_78 k12 F x1 x2 x4 x5 x8 n9 sk0 sk1 S) 78 [(0, vR (0, 5)), (1, vI x1), (2, vI x2), (4, vI x4), (5, vI x5), (8, vI x8), (9, vR (3, n9))] [vI sk0, vI sk1] (enc S) 0 0 := by
  unfold jX6_daysThatLet_78
  refine V.iadd dX6_daysThatLet_78 ?_
  refine V.lett fun x_8 => ?_
  refine V.istore (L' := [(0, vR (0, 5)), (1, vI x1), (2, vI x2), (4, vI x4), (5, vI x5), (8, vI x8), (9, vR (3, n9)), (7, vI x_8)]) dX6_daysThatLet_79 (by decide) rfl rfl ?_
  refine V.aload dX6_daysThatLet_81 6 rfl ?_
  refine V.chk fun h_9 => ?_
  refine V.sgI 5 3 dX6_daysThatLet_83 gf_X6_21 rfl rfl h_9 ?_
  refine V.lett fun x_10 => ?_
  refine V.istore (L' := [(0, vR (0, 5)), (1, vI x1), (2, vI x2), (4, vI x4), (5, vI x5), (8, vI x8), (9, vR (3, n9)), (7, vI x_8), (6, vI x_10)]) dX6_daysThatLet_86 (by decide) rfl rfl ?_
  exact V.lsub [0, 1, 2, 3, 4, 8, 7, 5, 6] rfl (tjX6_daysThatLet_88 l G F x1 x2 x4 x5 x_10 x_8 x8 n9 S k12 H12)

theorem thX6_daysThatLet_12 (l : Launch) (G : vg) (F : Nat) (S : vs) (x1 : Int32) (x2 : Int32) (x4 : Int32) : ∀ (n : Nat) (x5 : Int32) (x6 : Int32) (x7 : Int32) (x8 : Int32), V l G mX6_daysThatLet none (phP S) (hX6_daysThatLet_12 F S x1 x2 x4 n x5 x6 x7 x8) 12 [(0, vR (0, 5)), (1, vI x1), (2, vI x2), (4, vI x4), (5, vI x5), (6, vI x6), (7, vI x7), (8, vI x8)] [] (enc S) 0 0
  | 0, _, _, _, _ => V.nil
  | n + 1, x5, x6, x7, x8 => by
    have ih := thX6_daysThatLet_12 l G F S x1 x2 x4 n
    rw [hX6_daysThatLet_12]
    refine V.iload dX6_daysThatLet_12 7 rfl ?_
    refine V.aload_n dX6_daysThatLet_14 0 rfl ?_
    refine V.sgI 6 1 dX6_daysThatLet_15 gf_X6_17 sh0_5 rfl rfl ?_
    refine V.icmp_ge 112 dX6_daysThatLet_18 (by decide) ?_ ?_
    · exact V.lsub [1, 3, 4, 5, 6] rfl (tjX6_daysThatLet_112 l G F x1 x4 x5 x6 x7 S)
    · refine V.aload_n dX6_daysThatLet_21 0 rfl ?_
      refine V.sgR 6 0 dX6_daysThatLet_22 gf_X6_13 sh0_5 rfl rfl ?_
      refine V.iload dX6_daysThatLet_25 7 rfl ?_
      refine V.sbind fun q_1 h_2 => ?_
      refine V.saa (t := 4) dX6_daysThatLet_27 rfl rfl h_2 ?_
      refine V.chk fun h_3 => ?_
      refine V.sgI 5 3 dX6_daysThatLet_28 gf_X6_21 rfl rfl h_3 ?_
      refine V.iload dX6_daysThatLet_31 3 rfl ?_
      refine V.icmp_gt 112 dX6_daysThatLet_33 (by decide) ?_ ?_
      · exact V.lsub [1, 3, 4, 5, 6] rfl (tjX6_daysThatLet_112 l G F x1 x4 x5 x6 x7 S)
      · refine V.aload_n dX6_daysThatLet_36 0 rfl ?_
        refine V.sgR 6 0 dX6_daysThatLet_37 gf_X6_13 sh0_5 rfl rfl ?_
        refine V.iload dX6_daysThatLet_40 7 rfl ?_
        refine V.saa (t := 4) dX6_daysThatLet_42 rfl rfl h_2 ?_
        refine V.astore (L' := [(0, vR (0, 5)), (1, vI x1), (2, vI x2), (4, vI x4), (5, vI x5), (6, vI x6), (7, vI x7), (8, vI x8), (9, vR (3, q_1))]) dX6_daysThatLet_43 (by decide) rfl rfl ?_
        refine V.aload dX6_daysThatLet_45 8 rfl ?_
        refine V.sgI 5 3 dX6_daysThatLet_47 gf_X6_21 rfl rfl h_3 ?_
        refine V.iload dX6_daysThatLet_50 5 rfl ?_
        refine V.icmp_le 88 dX6_daysThatLet_52 (by decide) ?_ ?_
        · exact (tjX6_daysThatLet_88 l G F x1 x2 x4 x5 x6 x7 x8 q_1 S (hX6_daysThatLet_12 F S x1 x2 x4 n) ih)
        · refine V.iload dX6_daysThatLet_55 6 rfl ?_
          refine V.iload_n dX6_daysThatLet_57 1 rfl ?_
          refine V.iload dX6_daysThatLet_58 4 rfl ?_
          refine V.iconst (v := (-1)) dX6_daysThatLet_60 (by decide) ?_
          refine V.ixor dX6_daysThatLet_61 ?_
          refine V.iand dX6_daysThatLet_62 ?_
          refine V.if_ne 77 dX6_daysThatLet_63 (by decide) ?_ ?_
          · refine V.iconst (v := 0) dX6_daysThatLet_77 (by decide) ?_
            exact V.lsub [0, 1, 2, 3, 4, 7, 8] rfl (tjX6_daysThatLet_78 l G F x1 x2 x4 x5 x8 q_1 0 x7 S (hX6_daysThatLet_12 F S x1 x2 x4 n) ih)
          · refine V.aload dX6_daysThatLet_66 8 rfl ?_
            refine V.sgI 5 3 dX6_daysThatLet_68 gf_X6_21 rfl rfl h_3 ?_
            refine V.iload dX6_daysThatLet_71 5 rfl ?_
            refine V.isub dX6_daysThatLet_73 ?_
            refine V.goto 78 dX6_daysThatLet_74 (by decide) ?_
            exact V.lsub [0, 1, 2, 3, 4, 7, 8] rfl (tjX6_daysThatLet_78 l G F x1 x2 x4 x5 x8 q_1 ((S.1 (3, q_1) 3) - x6) x7 S (hX6_daysThatLet_12 F S x1 x2 x4 n) ih)

theorem kX6_daysThatLet (l : Launch) (G : vg) (F : Nat) (x1 : Int32) (x2 : Int32) (x3 : Int32) (x4 : Int32) (S : vs) : Rt l G mX6_daysThatLet none (phP S) [vR (0, 5), vI x1, vI x2, vI x3, vI x4] (enc S) (fX6_daysThatLet F x1 x2 x3 x4 S) := Rt.of rfl (Nat.le_of_ble_eq_true rfl) (by
  show V l G mX6_daysThatLet none (phP S) _ 0 [(0, vR (0, 5)), (1, vI x1), (2, vI x2), (3, vI x3), (4, vI x4)] [] (enc S) 0 0
  unfold fX6_daysThatLet
  refine V.iconst (v := 0) dX6_daysThatLet_0 (by decide) ?_
  refine V.istore (L' := [(0, vR (0, 5)), (1, vI x1), (2, vI x2), (3, vI x3), (4, vI x4), (5, vI 0)]) dX6_daysThatLet_1 (by decide) rfl rfl ?_
  refine V.iload_n dX6_daysThatLet_3 3 rfl ?_
  refine V.istore (L' := [(0, vR (0, 5)), (1, vI x1), (2, vI x2), (3, vI x3), (4, vI x4), (5, vI 0), (6, vI x3)]) dX6_daysThatLet_4 (by decide) rfl rfl ?_
  refine V.iconst (v := 0) dX6_daysThatLet_6 (by decide) ?_
  refine V.istore (L' := [(0, vR (0, 5)), (1, vI x1), (2, vI x2), (3, vI x3), (4, vI x4), (5, vI 0), (6, vI x3), (7, vI 0)]) dX6_daysThatLet_7 (by decide) rfl rfl ?_
  refine V.iconst (v := 0) dX6_daysThatLet_9 (by decide) ?_
  refine V.istore (L' := [(0, vR (0, 5)), (1, vI x1), (2, vI x2), (3, vI x3), (4, vI x4), (5, vI 0), (6, vI x3), (7, vI 0), (8, vI 0)]) dX6_daysThatLet_10 (by decide) rfl rfl ?_
  exact V.lsub [0, 1, 2, 4, 5, 6, 7, 8] rfl (thX6_daysThatLet_12 l G F S x1 x2 x4 F 0 x3 0 0))

abbrev mX7_isSide : vmt := (yX7_isSide, cX7_isSide, 2, (some .boolean), { frames := 0, cells := 0, slots := 0, locals := 0 })
theorem mfX7_isSide : mfV mX7_isSide 1 := ⟨im_X7_isSide, se_X7_isSide, ini_X7, co_X7_isSide, by decide, by decide, by decide +kernel⟩
def fX7_isSide (F : Nat) (x1 : Int32) (S : vs) : Option Int32 := if x1 < 0 then some 0 else if (S.1 (0, 0) 1) ≤ x1 then some 0 else some 1
theorem kX7_isSide (l : Launch) (G : vg) (F : Nat) (x1 : Int32) (S : vs) : Rt l G mX7_isSide none (phP S) [vR (0, 0), vI x1] (enc S) (fX7_isSide F x1 S) := Rt.of rfl (Nat.le_of_ble_eq_true rfl) (by
  show V l G mX7_isSide none (phP S) _ 0 [(0, vR (0, 0)), (1, vI x1)] [] (enc S) 0 0
  unfold fX7_isSide
  refine V.iload_n dX7_isSide_0 1 rfl ?_
  refine V.if_lt 16 dX7_isSide_1 (by decide) ?_ ?_
  · refine V.iconst (v := 0) dX7_isSide_16 (by decide) ?_
    exact V.zret rfl dX7_isSide_17 rfl (zb_n rfl) (by decide) (by decide)
  · refine V.iload_n dX7_isSide_4 1 rfl ?_
    refine V.aload_n dX7_isSide_5 0 rfl ?_
    refine V.sgI 7 1 dX7_isSide_6 gf_X7_15 sh0_0 rfl rfl ?_
    refine V.icmp_ge 16 dX7_isSide_9 (by decide) ?_ ?_
    · refine V.iconst (v := 0) dX7_isSide_16 (by decide) ?_
      exact V.zret rfl dX7_isSide_17 rfl (zb_n rfl) (by decide) (by decide)
    · refine V.iconst (v := 1) dX7_isSide_12 (by decide) ?_
      refine V.goto 17 dX7_isSide_13 (by decide) ?_
      exact V.zret rfl dX7_isSide_17 rfl (zb_n rfl) (by decide) (by decide))

abbrev mX7_within : vmt := (yX7_within, cX7_within, 3, (some .boolean), { frames := 0, cells := 0, slots := 0, locals := 0 })
theorem mfX7_within : mfS mX7_within 3 := ⟨sm_X7_within, ini_X7, co_X7_within, by decide, by decide, by decide +kernel⟩
def fX7_within (F : Nat) (x0 : Int32) (x1 : Int32) (x2 : Int32) (S : vs) : Option Int32 := if x0 < x1 then some 0 else if x2 < x0 then some 0 else some 1
theorem kX7_within (l : Launch) (G : vg) (F : Nat) (x0 : Int32) (x1 : Int32) (x2 : Int32) (S : vs) : Rt l G mX7_within none (phP S) [vI x0, vI x1, vI x2] (enc S) (fX7_within F x0 x1 x2 S) := Rt.of rfl (Nat.le_of_ble_eq_true rfl) (by
  show V l G mX7_within none (phP S) _ 0 [(0, vI x0), (1, vI x1), (2, vI x2)] [] (enc S) 0 0
  unfold fX7_within
  refine V.iload_n dX7_within_0 0 rfl ?_
  refine V.iload_n dX7_within_1 1 rfl ?_
  refine V.icmp_lt 14 dX7_within_2 (by decide) ?_ ?_
  · refine V.iconst (v := 0) dX7_within_14 (by decide) ?_
    exact V.zret rfl dX7_within_15 rfl (zb_n rfl) (by decide) (by decide)
  · refine V.iload_n dX7_within_5 0 rfl ?_
    refine V.iload_n dX7_within_6 2 rfl ?_
    refine V.icmp_gt 14 dX7_within_7 (by decide) ?_ ?_
    · refine V.iconst (v := 0) dX7_within_14 (by decide) ?_
      exact V.zret rfl dX7_within_15 rfl (zb_n rfl) (by decide) (by decide)
    · refine V.iconst (v := 1) dX7_within_10 (by decide) ?_
      refine V.goto 15 dX7_within_11 (by decide) ?_
      exact V.zret rfl dX7_within_15 rfl (zb_n rfl) (by decide) (by decide))

abbrev mX7_hours : vmt := (yX7_hours, cX7_hours, 4, (some .int), { frames := 1, cells := 0, slots := 0, locals := 22 })
theorem mfX7_hours : mfV mX7_hours 3 := ⟨im_X7_hours, se_X7_hours, ini_X7, co_X7_hours, by decide, by decide, by decide +kernel⟩
def fX7_hours (F : Nat) (x1 : Int32) (x2 : Int32) (x3 : Int32) (S : vs) : Option (Int32 × vs) := (fX7_isSide F x1 S).bind (fun a_1 => if a_1 = 0 then some ((-1), S) else (fX7_within F x2 1 1000 S).bind (fun a_2 => if a_2 = 0 then some ((-2), S) else (fX7_within F x3 1 1000 S).bind (fun a_3 => if a_3 = 0 then some ((-2), S) else (rget 2 S (0, 6) x1).bind (fun q_4 => gd (alv S.2.2 (1, q_4)) (stp (s2 S (1, q_4) 4 x2) (fun S_7 => (rget 2 S_7 (0, 6) x1).bind (fun q_8 => gd (alv S_7.2.2 (1, q_8)) (stp (s2 S_7 (1, q_8) 5 x3) (fun S_11 => some (1, S_11))))))))))
theorem kX7_hours (l : Launch) (G : vg) (F : Nat) (x1 : Int32) (x2 : Int32) (x3 : Int32) (S : vs) : Rt l G mX7_hours none phI [vR (0, 0), vI x1, vI x2, vI x3] (enc S) (fX7_hours F x1 x2 x3 S) := Rt.of rfl (Nat.le_of_ble_eq_true rfl) (by
  show V l G mX7_hours none phI _ 0 [(0, vR (0, 0)), (1, vI x1), (2, vI x2), (3, vI x3)] [] (enc S) 0 0
  unfold fX7_hours
  refine V.aload_n dX7_hours_0 0 rfl ?_
  refine V.iload_n dX7_hours_1 1 rfl ?_
  refine V.callV (M' := mX7_isSide) (As := [vI x1]) (ψ := (phP S)) dX7_hours_2 ml_X7_57 mfX7_isSide rfl ⟨by decide, by decide⟩ ⟨by decide, by decide⟩ (enc_at rfl sh0_0) rfl (Nat.le_of_ble_eq_true rfl) rfl (kX7_isSide l G F x1 S) (fun a_1 => ?_)
  show V l G mX7_hours none phI _ 5 [(0, vR (0, 0)), (1, vI x1), (2, vI x2), (3, vI x3)] [vI a_1] (enc S) 0 0
  refine V.if_ne 10 dX7_hours_5 (by decide) ?_ ?_
  · refine V.iload_n dX7_hours_10 2 rfl ?_
    refine V.iconst (v := 1) dX7_hours_11 (by decide) ?_
    refine V.sipush (v := 1000) dX7_hours_12 (by decide) ?_
    refine V.callS (M' := mX7_within) (As := [vI x2, vI 1, vI 1000]) (ψ := (phP S)) dX7_hours_15 ml_X7_50 mfX7_within rfl ⟨by decide, by decide⟩ ⟨by decide, by decide⟩ (Nat.le_of_ble_eq_true rfl) rfl (kX7_within l G F x2 1 1000 S) (fun a_2 => ?_)
    show V l G mX7_hours none phI _ 18 [(0, vR (0, 0)), (1, vI x1), (2, vI x2), (3, vI x3)] [vI a_2] (enc S) 0 0
    refine V.if_eq 32 dX7_hours_18 (by decide) ?_ ?_
    · refine V.bipush (v := (-2)) dX7_hours_32 (by decide) ?_
      exact V.iret rfl dX7_hours_34 rfl (by decide) (by decide)
    · refine V.iload_n dX7_hours_21 3 rfl ?_
      refine V.iconst (v := 1) dX7_hours_22 (by decide) ?_
      refine V.sipush (v := 1000) dX7_hours_23 (by decide) ?_
      refine V.callS (M' := mX7_within) (As := [vI x3, vI 1, vI 1000]) (ψ := (phP S)) dX7_hours_26 ml_X7_50 mfX7_within rfl ⟨by decide, by decide⟩ ⟨by decide, by decide⟩ (Nat.le_of_ble_eq_true rfl) rfl (kX7_within l G F x3 1 1000 S) (fun a_3 => ?_)
      show V l G mX7_hours none phI _ 29 [(0, vR (0, 0)), (1, vI x1), (2, vI x2), (3, vI x3)] [vI a_3] (enc S) 0 0
      refine V.if_ne 35 dX7_hours_29 (by decide) ?_ ?_
      · refine V.aload_n dX7_hours_35 0 rfl ?_
        refine V.sgR 7 0 dX7_hours_36 gf_X7_11 sh0_0 rfl rfl ?_
        refine V.iload_n dX7_hours_39 1 rfl ?_
        refine V.sbind fun q_4 h_5 => ?_
        refine V.saa (t := 2) dX7_hours_40 rfl rfl h_5 ?_
        refine V.iload_n dX7_hours_41 2 rfl ?_
        refine V.chk fun h_6 => ?_
        refine V.spI 2 4 dX7_hours_42 pf_X7_61 rfl rfl h_6 ?_
        refine V.sst fun S_7 => ?_
        refine V.aload_n dX7_hours_45 0 rfl ?_
        refine V.sgR 7 0 dX7_hours_46 gf_X7_11 sh0_0 rfl rfl ?_
        refine V.iload_n dX7_hours_49 1 rfl ?_
        refine V.sbind fun q_8 h_9 => ?_
        refine V.saa (t := 2) dX7_hours_50 rfl rfl h_9 ?_
        refine V.iload_n dX7_hours_51 3 rfl ?_
        refine V.chk fun h_10 => ?_
        refine V.spI 2 5 dX7_hours_52 pf_X7_64 rfl rfl h_10 ?_
        refine V.sst fun S_11 => ?_
        refine V.iconst (v := 1) dX7_hours_55 (by decide) ?_
        exact V.iret rfl dX7_hours_56 rfl (by decide) (by decide)
      · refine V.bipush (v := (-2)) dX7_hours_32 (by decide) ?_
        exact V.iret rfl dX7_hours_34 rfl (by decide) (by decide)
  · refine V.iconst (v := (-1)) dX7_hours_8 (by decide) ?_
    exact V.iret rfl dX7_hours_9 rfl (by decide) (by decide))

abbrev mX7_told : vmt := (yX7_told, cX7_told, 4, (some .int), { frames := 1, cells := 0, slots := 0, locals := 21 })
theorem mfX7_told : mfV mX7_told 2 := ⟨im_X7_told, se_X7_told, ini_X7, co_X7_told, by decide, by decide, by decide +kernel⟩
def fX7_told (F : Nat) (x1 : Int32) (x2 : Int32) (S : vs) : Option Int32 := (fX7_isSide F x1 S).bind (fun a_1 => if a_1 = 0 then some (-1) else (rget 2 S (0, 6) x1).bind (fun q_2 => if x2 = 0 then gd (alv S.2.2 (1, q_2)) (some (S.1 (1, q_2) 0)) else if x2 = 1 then gd (alv S.2.2 (1, q_2)) (some (S.1 (1, q_2) 3)) else if x2 = 2 then gd (alv S.2.2 (1, q_2)) (some (S.1 (1, q_2) 1)) else if x2 = 3 then gd (alv S.2.2 (1, q_2)) (some (S.1 (1, q_2) 2)) else if x2 = 4 then gd (alv S.2.2 (1, q_2)) (some (S.1 (1, q_2) 4)) else if x2 = 5 then gd (alv S.2.2 (1, q_2)) (some (S.1 (1, q_2) 5)) else if x2 = 6 then gd (alv S.2.2 (1, q_2)) (some (S.1 (1, q_2) 6)) else if x2 = 7 then gd (alv S.2.2 (1, q_2)) (some (S.1 (1, q_2) 7)) else if x2 = 8 then gd (alv S.2.2 (1, q_2)) (some (S.1 (1, q_2) 8)) else some (-2)))
theorem kX7_told (l : Launch) (G : vg) (F : Nat) (x1 : Int32) (x2 : Int32) (S : vs) : Rt l G mX7_told none (phP S) [vR (0, 0), vI x1, vI x2] (enc S) (fX7_told F x1 x2 S) := Rt.of rfl (Nat.le_of_ble_eq_true rfl) (by
  show V l G mX7_told none (phP S) _ 0 [(0, vR (0, 0)), (1, vI x1), (2, vI x2)] [] (enc S) 0 0
  unfold fX7_told
  refine V.aload_n dX7_told_0 0 rfl ?_
  refine V.iload_n dX7_told_1 1 rfl ?_
  refine V.callV (M' := mX7_isSide) (As := [vI x1]) (ψ := (phP S)) dX7_told_2 ml_X7_57 mfX7_isSide rfl ⟨by decide, by decide⟩ ⟨by decide, by decide⟩ (enc_at rfl sh0_0) rfl (Nat.le_of_ble_eq_true rfl) rfl (kX7_isSide l G F x1 S) (fun a_1 => ?_)
  show V l G mX7_told none (phP S) _ 5 [(0, vR (0, 0)), (1, vI x1), (2, vI x2)] [vI a_1] (enc S) 0 0
  refine V.if_ne 10 dX7_told_5 (by decide) ?_ ?_
  · refine V.aload_n dX7_told_10 0 rfl ?_
    refine V.sgR 7 0 dX7_told_11 gf_X7_11 sh0_0 rfl rfl ?_
    refine V.iload_n dX7_told_14 1 rfl ?_
    refine V.sbind fun q_2 h_3 => ?_
    refine V.saa (t := 2) dX7_told_15 rfl rfl h_3 ?_
    refine V.astore_n (L' := [(0, vR (0, 0)), (1, vI x1), (2, vI x2), (3, vR (1, q_2))]) dX7_told_16 (by decide) rfl rfl ?_
    refine V.iload_n dX7_told_17 2 rfl ?_
    refine V.ite (fun h_5 => ?_) (fun h_5 => ?_)
    · refine V.tsI 0 68 dX7_told_18 h_5 (by decide) (by decide) rfl (by decide) ?_
      refine V.aload_n dX7_told_68 3 rfl ?_
      refine V.chk fun h_4 => ?_
      refine V.sgI 2 0 dX7_told_69 gf_X7_67 rfl rfl h_4 ?_
      exact V.iret rfl dX7_told_72 rfl (by decide) (by decide)
    refine V.ite (fun h_7 => ?_) (fun h_7 => ?_)
    · refine V.tsI 1 73 dX7_told_18 h_7 (by decide) (by decide) rfl (by decide) ?_
      refine V.aload_n dX7_told_73 3 rfl ?_
      refine V.chk fun h_6 => ?_
      refine V.sgI 2 3 dX7_told_74 gf_X7_70 rfl rfl h_6 ?_
      exact V.iret rfl dX7_told_77 rfl (by decide) (by decide)
    refine V.ite (fun h_9 => ?_) (fun h_9 => ?_)
    · refine V.tsI 2 78 dX7_told_18 h_9 (by decide) (by decide) rfl (by decide) ?_
      refine V.aload_n dX7_told_78 3 rfl ?_
      refine V.chk fun h_8 => ?_
      refine V.sgI 2 1 dX7_told_79 gf_X7_73 rfl rfl h_8 ?_
      exact V.iret rfl dX7_told_82 rfl (by decide) (by decide)
    refine V.ite (fun h_11 => ?_) (fun h_11 => ?_)
    · refine V.tsI 3 83 dX7_told_18 h_11 (by decide) (by decide) rfl (by decide) ?_
      refine V.aload_n dX7_told_83 3 rfl ?_
      refine V.chk fun h_10 => ?_
      refine V.sgI 2 2 dX7_told_84 gf_X7_76 rfl rfl h_10 ?_
      exact V.iret rfl dX7_told_87 rfl (by decide) (by decide)
    refine V.ite (fun h_13 => ?_) (fun h_13 => ?_)
    · refine V.tsI 4 88 dX7_told_18 h_13 (by decide) (by decide) rfl (by decide) ?_
      refine V.aload_n dX7_told_88 3 rfl ?_
      refine V.chk fun h_12 => ?_
      refine V.sgI 2 4 dX7_told_89 gf_X7_61 rfl rfl h_12 ?_
      exact V.iret rfl dX7_told_92 rfl (by decide) (by decide)
    refine V.ite (fun h_15 => ?_) (fun h_15 => ?_)
    · refine V.tsI 5 93 dX7_told_18 h_15 (by decide) (by decide) rfl (by decide) ?_
      refine V.aload_n dX7_told_93 3 rfl ?_
      refine V.chk fun h_14 => ?_
      refine V.sgI 2 5 dX7_told_94 gf_X7_64 rfl rfl h_14 ?_
      exact V.iret rfl dX7_told_97 rfl (by decide) (by decide)
    refine V.ite (fun h_17 => ?_) (fun h_17 => ?_)
    · refine V.tsI 6 98 dX7_told_18 h_17 (by decide) (by decide) rfl (by decide) ?_
      refine V.aload_n dX7_told_98 3 rfl ?_
      refine V.chk fun h_16 => ?_
      refine V.sgI 2 6 dX7_told_99 gf_X7_79 rfl rfl h_16 ?_
      exact V.iret rfl dX7_told_102 rfl (by decide) (by decide)
    refine V.ite (fun h_19 => ?_) (fun h_19 => ?_)
    · refine V.tsI 7 103 dX7_told_18 h_19 (by decide) (by decide) rfl (by decide) ?_
      refine V.aload_n dX7_told_103 3 rfl ?_
      refine V.chk fun h_18 => ?_
      refine V.sgI 2 7 dX7_told_104 gf_X7_82 rfl rfl h_18 ?_
      exact V.iret rfl dX7_told_107 rfl (by decide) (by decide)
    refine V.ite (fun h_21 => ?_) (fun h_21 => ?_)
    · refine V.tsI 8 108 dX7_told_18 h_21 (by decide) (by decide) rfl (by decide) ?_
      refine V.aload_n dX7_told_108 3 rfl ?_
      refine V.chk fun h_20 => ?_
      refine V.sgI 2 8 dX7_told_109 gf_X7_85 rfl rfl h_20 ?_
      exact V.iret rfl dX7_told_112 rfl (by decide) (by decide)
    have hh : x2.toInt ≠ 0 ∧ x2.toInt ≠ 1 ∧ x2.toInt ≠ 2 ∧ x2.toInt ≠ 3 ∧ x2.toInt ≠ 4 ∧ x2.toInt ≠ 5 ∧ x2.toInt ≠ 6 ∧ x2.toInt ≠ 7 ∧ x2.toInt ≠ 8 := ⟨i32ne h_5, i32ne h_7, i32ne h_9, i32ne h_11, i32ne h_13, i32ne h_15, i32ne h_17, i32ne h_19, i32ne h_21⟩
    refine V.tsO 113 dX7_told_18 (by omega) (by decide) ?_
    refine V.bipush (v := (-2)) dX7_told_113 (by decide) ?_
    exact V.iret rfl dX7_told_115 rfl (by decide) (by decide)
  · refine V.iconst (v := (-1)) dX7_told_8 (by decide) ?_
    exact V.iret rfl dX7_told_9 rfl (by decide) (by decide))

abbrev mX7_read : vmt := (yX7_read, cX7_read, 4, (some .int), { frames := 2, cells := 0, slots := 0, locals := 42 })
theorem mfX7_read : mfV mX7_read 2 := ⟨im_X7_read, se_X7_read, ini_X7, co_X7_read, by decide, by decide, by decide +kernel⟩
def jX7_read_49 (F : Nat) (n3 : Nat) (S : vs) : Option (Int32 × vs) := gd (alv S.2.2 (1, n3)) (stp (s2 S (1, n3) 7 (S.1 (0, 0) 2)) (fun S_6 => gd (alv S_6.2.2 (1, n3)) (some (S_6.1 (1, n3) 3, S_6))))

def fX7_read (F : Nat) (x1 : Int32) (x2 : Int32) (S : vs) : Option (Int32 × vs) := (fX7_isSide F x1 S).bind (fun a_1 => if a_1 = 0 then some ((-1), S) else (rget 2 S (0, 6) x1).bind (fun q_2 => gd (alv S.2.2 (1, q_2)) (if (S.1 (1, q_2) 3) = 0 then some ((-3), S) else if x2 = 0 then jX7_read_49 F q_2 S else (fX2_lose F q_2 (S.1 (1, q_2) 1) S).bind (fun a_8 => gd (alv a_8.2.2 (1, q_2)) (stp (s2 a_8 (1, q_2) 6 ((a_8.1 (1, q_2) 6) + 1)) (fun S_10 => jX7_read_49 F q_2 S_10))))))
theorem tjX7_read_49 (l : Launch) (G : vg) (F : Nat) (n3 : Nat) (S : vs) : V l G mX7_read none phI (jX7_read_49 F n3 S) 49 [(0, vR (0, 0)), (3, vR (1, n3))] [] (enc S) 0 0 := by
  unfold jX7_read_49
  refine V.aload_n dX7_read_49 1 rfl ?_
  refine V.aload_n dX7_read_50 0 rfl ?_
  refine V.sgI 7 2 dX7_read_51 gf_X7_19 sh0_0 rfl rfl ?_
  refine V.chk fun h_5 => ?_
  refine V.spI 2 7 dX7_read_54 pf_X7_82 rfl rfl h_5 ?_
  refine V.sst fun S_6 => ?_
  refine V.aload_n dX7_read_57 1 rfl ?_
  refine V.chk fun h_7 => ?_
  refine V.sgI 2 3 dX7_read_58 gf_X7_70 rfl rfl h_7 ?_
  exact V.iret rfl dX7_read_61 rfl (by decide) (by decide)

theorem kX7_read (l : Launch) (G : vg) (F : Nat) (x1 : Int32) (x2 : Int32) (S : vs) : Rt l G mX7_read none phI [vR (0, 0), vI x1, vI x2] (enc S) (fX7_read F x1 x2 S) := Rt.of rfl (Nat.le_of_ble_eq_true rfl) (by
  show V l G mX7_read none phI _ 0 [(0, vR (0, 0)), (1, vI x1), (2, vI x2)] [] (enc S) 0 0
  unfold fX7_read
  refine V.aload_n dX7_read_0 0 rfl ?_
  refine V.iload_n dX7_read_1 1 rfl ?_
  refine V.callV (M' := mX7_isSide) (As := [vI x1]) (ψ := (phP S)) dX7_read_2 ml_X7_57 mfX7_isSide rfl ⟨by decide, by decide⟩ ⟨by decide, by decide⟩ (enc_at rfl sh0_0) rfl (Nat.le_of_ble_eq_true rfl) rfl (kX7_isSide l G F x1 S) (fun a_1 => ?_)
  show V l G mX7_read none phI _ 5 [(0, vR (0, 0)), (1, vI x1), (2, vI x2)] [vI a_1] (enc S) 0 0
  refine V.if_ne 10 dX7_read_5 (by decide) ?_ ?_
  · refine V.aload_n dX7_read_10 0 rfl ?_
    refine V.sgR 7 0 dX7_read_11 gf_X7_11 sh0_0 rfl rfl ?_
    refine V.iload_n dX7_read_14 1 rfl ?_
    refine V.sbind fun q_2 h_3 => ?_
    refine V.saa (t := 2) dX7_read_15 rfl rfl h_3 ?_
    refine V.astore_n (L' := [(0, vR (0, 0)), (1, vI x1), (2, vI x2), (3, vR (1, q_2))]) dX7_read_16 (by decide) rfl rfl ?_
    refine V.aload_n dX7_read_17 3 rfl ?_
    refine V.chk fun h_4 => ?_
    refine V.sgI 2 3 dX7_read_18 gf_X7_70 rfl rfl h_4 ?_
    refine V.if_ne 27 dX7_read_21 (by decide) ?_ ?_
    · refine V.iload_n dX7_read_27 2 rfl ?_
      refine V.if_eq 49 dX7_read_28 (by decide) ?_ ?_
      · exact V.lsub [0, 3] rfl (tjX7_read_49 l G F q_2 S)
      · refine V.aload_n dX7_read_31 3 rfl ?_
        refine V.aload_n dX7_read_32 3 rfl ?_
        refine V.sgI 2 1 dX7_read_33 gf_X7_73 rfl rfl h_4 ?_
        refine V.callV (M' := mX2_lose) (As := [vI (S.1 (1, q_2) 1)]) (ψ := phV) dX7_read_36 ml_X7_88 mfX2_lose rfl ⟨by decide, by decide⟩ ⟨by decide, by decide⟩ (enc_at h_4 rfl) rfl (Nat.le_of_ble_eq_true rfl) rfl (kX2_lose l G F q_2 (S.1 (1, q_2) 1) S) (fun a_8 => ?_)
        show V l G mX7_read none phI _ 39 [(0, vR (0, 0)), (1, vI x1), (2, vI x2), (3, vR (1, q_2))] [] (enc a_8) 0 0
        refine V.aload_n dX7_read_39 3 rfl ?_
        refine V.dup dX7_read_40 rfl ?_
        refine V.chk fun h_9 => ?_
        refine V.sgI 2 6 dX7_read_41 gf_X7_79 rfl rfl h_9 ?_
        refine V.iconst (v := 1) dX7_read_44 (by decide) ?_
        refine V.iadd dX7_read_45 ?_
        refine V.spI 2 6 dX7_read_46 pf_X7_79 rfl rfl h_9 ?_
        refine V.sst fun S_10 => ?_
        exact V.lsub [0, 3] rfl (tjX7_read_49 l G F q_2 S_10)
    · refine V.bipush (v := (-3)) dX7_read_24 (by decide) ?_
      exact V.iret rfl dX7_read_26 rfl (by decide) (by decide)
  · refine V.iconst (v := (-1)) dX7_read_8 (by decide) ?_
    exact V.iret rfl dX7_read_9 rfl (by decide) (by decide))

abbrev mX7_pass : vmt := (yX7_pass, cX7_pass, 3, (some .int), { frames := 2, cells := 0, slots := 0, locals := 42 })
theorem mfX7_pass : mfV mX7_pass 1 := ⟨im_X7_pass, se_X7_pass, ini_X7, co_X7_pass, by decide, by decide, by decide +kernel⟩
def hX7_pass_30 (F : Nat) (x1 : Int32) : Nat → Int32 → vs → Option (Int32 × vs)
  | 0, _, _ => none
  | n + 1, x2, S => if (S.1 (0, 0) 1) ≤ x2 then stp (s2 S (0, 0) 2 ((S.1 (0, 0) 2) + x1)) (fun S_2 => some (S_2.1 (0, 0) 2, S_2)) else (rget 2 S (0, 6) x2).bind (fun q_3 => gd (alv S.2.2 (1, q_3)) ((fX2_lose F q_3 ((S.1 (1, q_3) 2) * x1) S).bind (fun a_6 => ltt (x2 + 1) (fun x_7 => hX7_pass_30 F x1 n x_7 a_6))))

def fX7_pass (F : Nat) (x1 : Int32) (S : vs) : Option (Int32 × vs) := (fX7_within F x1 1 100 S).bind (fun a_1 => if a_1 = 0 then some ((-2), S) else if ((S.1 (0, 0) 2) + x1) ≤ 1000 then hX7_pass_30 F x1 F 0 S else some ((-4), S))
theorem thX7_pass_30 (l : Launch) (G : vg) (F : Nat) (x1 : Int32) : ∀ (n : Nat) (x2 : Int32) (S : vs), V l G mX7_pass none phI (hX7_pass_30 F x1 n x2 S) 30 [(0, vR (0, 0)), (1, vI x1), (2, vI x2)] [] (enc S) 0 0
  | 0, _, _ => V.nil
  | n + 1, x2, S => by
    have ih := thX7_pass_30 l G F x1 n
    rw [hX7_pass_30]
    refine V.iload_n dX7_pass_30 2 rfl ?_
    refine V.aload_n dX7_pass_31 0 rfl ?_
    refine V.sgI 7 1 dX7_pass_32 gf_X7_15 sh0_0 rfl rfl ?_
    refine V.icmp_ge 64 dX7_pass_35 (by decide) ?_ ?_
    · refine V.aload_n dX7_pass_64 0 rfl ?_
      refine V.dup dX7_pass_65 rfl ?_
      refine V.sgI 7 2 dX7_pass_66 gf_X7_19 sh0_0 rfl rfl ?_
      refine V.iload_n dX7_pass_69 1 rfl ?_
      refine V.iadd dX7_pass_70 ?_
      refine V.spI 7 2 dX7_pass_71 pf_X7_19 sh0_0 rfl rfl ?_
      refine V.sst fun S_2 => ?_
      refine V.aload_n dX7_pass_74 0 rfl ?_
      refine V.sgI 7 2 dX7_pass_75 gf_X7_19 sh0_0 rfl rfl ?_
      exact V.iret rfl dX7_pass_78 rfl (by decide) (by decide)
    · refine V.aload_n dX7_pass_38 0 rfl ?_
      refine V.sgR 7 0 dX7_pass_39 gf_X7_11 sh0_0 rfl rfl ?_
      refine V.iload_n dX7_pass_42 2 rfl ?_
      refine V.sbind fun q_3 h_4 => ?_
      refine V.saa (t := 2) dX7_pass_43 rfl rfl h_4 ?_
      refine V.aload_n dX7_pass_44 0 rfl ?_
      refine V.sgR 7 0 dX7_pass_45 gf_X7_11 sh0_0 rfl rfl ?_
      refine V.iload_n dX7_pass_48 2 rfl ?_
      refine V.saa (t := 2) dX7_pass_49 rfl rfl h_4 ?_
      refine V.chk fun h_5 => ?_
      refine V.sgI 2 2 dX7_pass_50 gf_X7_76 rfl rfl h_5 ?_
      refine V.iload_n dX7_pass_53 1 rfl ?_
      refine V.imul dX7_pass_54 ?_
      refine V.callV (M' := mX2_lose) (As := [vI ((S.1 (1, q_3) 2) * x1)]) (ψ := phV) dX7_pass_55 ml_X7_88 mfX2_lose rfl ⟨by decide, by decide⟩ ⟨by decide, by decide⟩ (enc_at h_5 rfl) rfl (Nat.le_of_ble_eq_true rfl) rfl (kX2_lose l G F q_3 ((S.1 (1, q_3) 2) * x1) S) (fun a_6 => ?_)
      show V l G mX7_pass none phI _ 58 [(0, vR (0, 0)), (1, vI x1), (2, vI x2)] [] (enc a_6) 0 0
      refine V.lti (e := x2 + 1) (fun x_7 he => ?_)
      refine V.iinc (v := x_7) (L' := [(0, vR (0, 0)), (1, vI x1), (2, vI x_7)]) dX7_pass_58 2 rfl he.symm (by decide) rfl rfl ?_
      refine V.goto 30 dX7_pass_61 (by decide) ?_
      exact (ih x_7 a_6)

theorem kX7_pass (l : Launch) (G : vg) (F : Nat) (x1 : Int32) (S : vs) : Rt l G mX7_pass none phI [vR (0, 0), vI x1] (enc S) (fX7_pass F x1 S) := Rt.of rfl (Nat.le_of_ble_eq_true rfl) (by
  show V l G mX7_pass none phI _ 0 [(0, vR (0, 0)), (1, vI x1)] [] (enc S) 0 0
  unfold fX7_pass
  refine V.iload_n dX7_pass_0 1 rfl ?_
  refine V.iconst (v := 1) dX7_pass_1 (by decide) ?_
  refine V.bipush (v := 100) dX7_pass_2 (by decide) ?_
  refine V.callS (M' := mX7_within) (As := [vI x1, vI 1, vI 100]) (ψ := (phP S)) dX7_pass_4 ml_X7_50 mfX7_within rfl ⟨by decide, by decide⟩ ⟨by decide, by decide⟩ (Nat.le_of_ble_eq_true rfl) rfl (kX7_within l G F x1 1 100 S) (fun a_1 => ?_)
  show V l G mX7_pass none phI _ 7 [(0, vR (0, 0)), (1, vI x1)] [vI a_1] (enc S) 0 0
  refine V.if_ne 13 dX7_pass_7 (by decide) ?_ ?_
  · refine V.aload_n dX7_pass_13 0 rfl ?_
    refine V.sgI 7 2 dX7_pass_14 gf_X7_19 sh0_0 rfl rfl ?_
    refine V.iload_n dX7_pass_17 1 rfl ?_
    refine V.iadd dX7_pass_18 ?_
    refine V.sipush (v := 1000) dX7_pass_19 (by decide) ?_
    refine V.icmp_le 28 dX7_pass_22 (by decide) ?_ ?_
    · refine V.iconst (v := 0) dX7_pass_28 (by decide) ?_
      refine V.istore_n (L' := [(0, vR (0, 0)), (1, vI x1), (2, vI 0)]) dX7_pass_29 (by decide) rfl rfl ?_
      exact (thX7_pass_30 l G F x1 F 0 S)
    · refine V.bipush (v := (-4)) dX7_pass_25 (by decide) ?_
      exact V.iret rfl dX7_pass_27 rfl (by decide) (by decide)
  · refine V.bipush (v := (-2)) dX7_pass_10 (by decide) ?_
    exact V.iret rfl dX7_pass_12 rfl (by decide) (by decide))

abbrev mX7_isSetOfSides : vmt := (yX7_isSetOfSides, cX7_isSetOfSides, 2, (some .boolean), { frames := 0, cells := 0, slots := 0, locals := 0 })
theorem mfX7_isSetOfSides : mfV mX7_isSetOfSides 1 := ⟨im_X7_isSetOfSides, se_X7_isSetOfSides, ini_X7, co_X7_isSetOfSides, by decide, by decide, by decide +kernel⟩
def fX7_isSetOfSides (F : Nat) (x1 : Int32) (S : vs) : Option Int32 := if (x1 &&& ((((1 : Int32) <<< ((S.1 (0, 0) 1) &&& 31)) - 1) ^^^ (-1))) = 0 then some 1 else some 0
theorem kX7_isSetOfSides (l : Launch) (G : vg) (F : Nat) (x1 : Int32) (S : vs) : Rt l G mX7_isSetOfSides none (phP S) [vR (0, 0), vI x1] (enc S) (fX7_isSetOfSides F x1 S) := Rt.of rfl (Nat.le_of_ble_eq_true rfl) (by
  show V l G mX7_isSetOfSides none (phP S) _ 0 [(0, vR (0, 0)), (1, vI x1)] [] (enc S) 0 0
  unfold fX7_isSetOfSides
  refine V.iload_n dX7_isSetOfSides_0 1 rfl ?_
  refine V.iconst (v := 1) dX7_isSetOfSides_1 (by decide) ?_
  refine V.aload_n dX7_isSetOfSides_2 0 rfl ?_
  refine V.sgI 7 1 dX7_isSetOfSides_3 gf_X7_15 sh0_0 rfl rfl ?_
  refine V.ishl dX7_isSetOfSides_6 ?_
  refine V.iconst (v := 1) dX7_isSetOfSides_7 (by decide) ?_
  refine V.isub dX7_isSetOfSides_8 ?_
  refine V.iconst (v := (-1)) dX7_isSetOfSides_9 (by decide) ?_
  refine V.ixor dX7_isSetOfSides_10 ?_
  refine V.iand dX7_isSetOfSides_11 ?_
  refine V.if_ne 19 dX7_isSetOfSides_12 (by decide) ?_ ?_
  · refine V.iconst (v := 0) dX7_isSetOfSides_19 (by decide) ?_
    exact V.zret rfl dX7_isSetOfSides_20 rfl (zb_n rfl) (by decide) (by decide)
  · refine V.iconst (v := 1) dX7_isSetOfSides_15 (by decide) ?_
    refine V.goto 20 dX7_isSetOfSides_16 (by decide) ?_
    exact V.zret rfl dX7_isSetOfSides_20 rfl (zb_n rfl) (by decide) (by decide))

abbrev mX7_planRefusal : vmt := (yX7_planRefusal, cX7_planRefusal, 6, (some .int), { frames := 1, cells := 0, slots := 0, locals := 22 })
theorem mfX7_planRefusal : mfV mX7_planRefusal 4 := ⟨im_X7_planRefusal, se_X7_planRefusal, ini_X7, co_X7_planRefusal, by decide, by decide, by decide +kernel⟩
def jX7_planRefusal_43 (F : Nat) (sk0 : Int32) (S : vs) : Option Int32 := if sk0 = 0 then some (-2) else some 0

def jX7_planRefusal_42 (F : Nat) (S : vs) : Option Int32 := jX7_planRefusal_43 F 0 S

def fX7_planRefusal (F : Nat) (x1 : Int32) (x2 : Int32) (x3 : Int32) (x4 : Int32) (S : vs) : Option Int32 := (fX7_isSetOfSides F x1 S).bind (fun a_1 => if a_1 = 0 then some (-1) else (fJ6_bitCount_0f7a4 F x1 S).bind (fun a_2 => if 6 < a_2 then jX7_planRefusal_42 F S else (fX7_within F x2 1 3 S).bind (fun a_3 => if a_3 = 0 then jX7_planRefusal_42 F S else (fX7_within F x3 0 x4 S).bind (fun a_4 => if a_4 = 0 then jX7_planRefusal_42 F S else jX7_planRefusal_43 F 1 S))))
theorem tjX7_planRefusal_43 (l : Launch) (G : vg) (F : Nat) (sk0 : Int32) (S : vs) : V l G mX7_planRefusal none (phP S) (jX7_planRefusal_43 F sk0 S) 43 [] [vI sk0] (enc S) 0 0 := by
  unfold jX7_planRefusal_43
  refine V.istore (L' := [(5, vI sk0)]) dX7_planRefusal_43 (by decide) rfl rfl ?_
  refine V.iload dX7_planRefusal_45 0 rfl ?_
  refine V.if_eq 54 dX7_planRefusal_47 (by decide) ?_ ?_
  · refine V.bipush (v := (-2)) dX7_planRefusal_54 (by decide) ?_
    exact V.iret rfl dX7_planRefusal_56 rfl (by decide) (by decide)
  · refine V.iconst (v := 0) dX7_planRefusal_50 (by decide) ?_
    refine V.goto 56 dX7_planRefusal_51 (by decide) ?_
    exact V.iret rfl dX7_planRefusal_56 rfl (by decide) (by decide)

theorem tjX7_planRefusal_42 (l : Launch) (G : vg) (F : Nat) (S : vs) : V l G mX7_planRefusal none (phP S) (jX7_planRefusal_42 F S) 42 [] [] (enc S) 0 0 := by
  unfold jX7_planRefusal_42
  refine V.iconst (v := 0) dX7_planRefusal_42 (by decide) ?_
  exact (tjX7_planRefusal_43 l G F 0 S)

theorem kX7_planRefusal (l : Launch) (G : vg) (F : Nat) (x1 : Int32) (x2 : Int32) (x3 : Int32) (x4 : Int32) (S : vs) : Rt l G mX7_planRefusal none (phP S) [vR (0, 0), vI x1, vI x2, vI x3, vI x4] (enc S) (fX7_planRefusal F x1 x2 x3 x4 S) := Rt.of rfl (Nat.le_of_ble_eq_true rfl) (by
  show V l G mX7_planRefusal none (phP S) _ 0 [(0, vR (0, 0)), (1, vI x1), (2, vI x2), (3, vI x3), (4, vI x4)] [] (enc S) 0 0
  unfold fX7_planRefusal
  refine V.aload_n dX7_planRefusal_0 0 rfl ?_
  refine V.iload_n dX7_planRefusal_1 1 rfl ?_
  refine V.callV (M' := mX7_isSetOfSides) (As := [vI x1]) (ψ := (phP S)) dX7_planRefusal_2 ml_X7_121 mfX7_isSetOfSides rfl ⟨by decide, by decide⟩ ⟨by decide, by decide⟩ (enc_at rfl sh0_0) rfl (Nat.le_of_ble_eq_true rfl) rfl (kX7_isSetOfSides l G F x1 S) (fun a_1 => ?_)
  show V l G mX7_planRefusal none (phP S) _ 5 [(0, vR (0, 0)), (1, vI x1), (2, vI x2), (3, vI x3), (4, vI x4)] [vI a_1] (enc S) 0 0
  refine V.if_ne 10 dX7_planRefusal_5 (by decide) ?_ ?_
  · refine V.iload_n dX7_planRefusal_10 1 rfl ?_
    refine V.callS (M' := mJ6_bitCount_0f7a4) (As := [vI x1]) (ψ := (phP S)) dX7_planRefusal_11 ml_X7_108 mfJ6_bitCount_0f7a4 rfl ⟨by decide, by decide⟩ ⟨by decide, by decide⟩ (Nat.le_of_ble_eq_true rfl) rfl (kJ6_bitCount_0f7a4 l G F x1 S) (fun a_2 => ?_)
    show V l G mX7_planRefusal none (phP S) _ 14 [(0, vR (0, 0)), (1, vI x1), (2, vI x2), (3, vI x3), (4, vI x4)] [vI a_2] (enc S) 0 0
    refine V.bipush (v := 6) dX7_planRefusal_14 (by decide) ?_
    refine V.icmp_gt 42 dX7_planRefusal_16 (by decide) ?_ ?_
    · exact V.lsub [] rfl (tjX7_planRefusal_42 l G F S)
    · refine V.iload_n dX7_planRefusal_19 2 rfl ?_
      refine V.iconst (v := 1) dX7_planRefusal_20 (by decide) ?_
      refine V.iconst (v := 3) dX7_planRefusal_21 (by decide) ?_
      refine V.callS (M' := mX7_within) (As := [vI x2, vI 1, vI 3]) (ψ := (phP S)) dX7_planRefusal_22 ml_X7_50 mfX7_within rfl ⟨by decide, by decide⟩ ⟨by decide, by decide⟩ (Nat.le_of_ble_eq_true rfl) rfl (kX7_within l G F x2 1 3 S) (fun a_3 => ?_)
      show V l G mX7_planRefusal none (phP S) _ 25 [(0, vR (0, 0)), (1, vI x1), (2, vI x2), (3, vI x3), (4, vI x4)] [vI a_3] (enc S) 0 0
      refine V.if_eq 42 dX7_planRefusal_25 (by decide) ?_ ?_
      · exact V.lsub [] rfl (tjX7_planRefusal_42 l G F S)
      · refine V.iload_n dX7_planRefusal_28 3 rfl ?_
        refine V.iconst (v := 0) dX7_planRefusal_29 (by decide) ?_
        refine V.iload dX7_planRefusal_30 4 rfl ?_
        refine V.callS (M' := mX7_within) (As := [vI x3, vI 0, vI x4]) (ψ := (phP S)) dX7_planRefusal_32 ml_X7_50 mfX7_within rfl ⟨by decide, by decide⟩ ⟨by decide, by decide⟩ (Nat.le_of_ble_eq_true rfl) rfl (kX7_within l G F x3 0 x4 S) (fun a_4 => ?_)
        show V l G mX7_planRefusal none (phP S) _ 35 [(0, vR (0, 0)), (1, vI x1), (2, vI x2), (3, vI x3), (4, vI x4)] [vI a_4] (enc S) 0 0
        refine V.if_eq 42 dX7_planRefusal_35 (by decide) ?_ ?_
        · exact V.lsub [] rfl (tjX7_planRefusal_42 l G F S)
        · refine V.iconst (v := 1) dX7_planRefusal_38 (by decide) ?_
          refine V.goto 43 dX7_planRefusal_39 (by decide) ?_
          exact V.lsub [] rfl (tjX7_planRefusal_43 l G F 1 S)
  · refine V.iconst (v := (-1)) dX7_planRefusal_8 (by decide) ?_
    exact V.iret rfl dX7_planRefusal_9 rfl (by decide) (by decide))

