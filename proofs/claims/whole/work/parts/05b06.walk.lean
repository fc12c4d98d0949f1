abbrev mX8_countsOf : vmt := (yX8_countsOf, cX8_countsOf, 8, (some .int), { frames := 0, cells := 0, slots := 0, locals := 0 })
theorem mfX8_countsOf : mfV mX8_countsOf 4 := ⟨im_X8_countsOf, se_X8_countsOf, ini_X8, co_X8_countsOf, by decide, by decide, by decide +kernel⟩
def jX8_countsOf_128 (k7 : Int32 → Int32 → Option Int32) (F : Nat) (x1 : Int32) (x2 : Int32) (x3 : Int32) (x4 : Int32) (x6 : Int32) (sk0 : Int32) (S : vs) : Option Int32 := ltt (x6 + 1) (fun x_2 => k7 sk0 x_2)

def jX8_countsOf_126 (k7 : Int32 → Int32 → Option Int32) (F : Nat) (x1 : Int32) (x2 : Int32) (x3 : Int32) (x4 : Int32) (x5 : Int32) (x6 : Int32) (S : vs) : Option Int32 := jX8_countsOf_128 k7 F x1 x2 x3 x4 x6 x5 S

def jX8_countsOf_121 (k7 : Int32 → Int32 → Option Int32) (F : Nat) (x1 : Int32) (x2 : Int32) (x3 : Int32) (x4 : Int32) (x6 : Int32) (S : vs) : Option Int32 := jX8_countsOf_128 k7 F x1 x2 x3 x4 x6 x6 S

def jX8_countsOf_90 (k7 : Int32 → Int32 → Option Int32) (F : Nat) (x1 : Int32) (x2 : Int32) (x3 : Int32) (x4 : Int32) (x5 : Int32) (x6 : Int32) (sk0 : Int32) (S : vs) : Option Int32 := if sk0 = 0 then jX8_countsOf_126 k7 F x1 x2 x3 x4 x5 x6 S else if x5 = (-9) then jX8_countsOf_121 k7 F x1 x2 x3 x4 x6 S else gd (inb x6 (alen 0 S.2.2 (0, 44))) (gd (inb x5 (alen 0 S.2.2 (0, 44))) (if (S.1 (0, 44) x6.toNatClampNeg) < (S.1 (0, 44) x5.toNatClampNeg) then jX8_countsOf_126 k7 F x1 x2 x3 x4 x5 x6 S else jX8_countsOf_121 k7 F x1 x2 x3 x4 x6 S))

def jX8_countsOf_89 (k7 : Int32 → Int32 → Option Int32) (F : Nat) (x1 : Int32) (x2 : Int32) (x3 : Int32) (x4 : Int32) (x5 : Int32) (x6 : Int32) (S : vs) : Option Int32 := jX8_countsOf_90 k7 F x1 x2 x3 x4 x5 x6 0 S

def jX8_countsOf_73 (k7 : Int32 → Int32 → Option Int32) (F : Nat) (x1 : Int32) (x2 : Int32) (x3 : Int32) (x4 : Int32) (x5 : Int32) (x6 : Int32) (S : vs) : Option Int32 := gd (inb x6 (alen 0 S.2.2 (0, 44))) (if x4 < (S.1 (0, 44) x6.toNatClampNeg) then jX8_countsOf_89 k7 F x1 x2 x3 x4 x5 x6 S else jX8_countsOf_90 k7 F x1 x2 x3 x4 x5 x6 1 S)

def jX8_countsOf_50 (k7 : Int32 → Int32 → Option Int32) (F : Nat) (x1 : Int32) (x2 : Int32) (x3 : Int32) (x4 : Int32) (x5 : Int32) (x6 : Int32) (S : vs) : Option Int32 := gd (inb x6 (alen 0 S.2.2 (0, 43))) (if (S.1 (0, 43) x6.toNatClampNeg) = (-9) then jX8_countsOf_73 k7 F x1 x2 x3 x4 x5 x6 S else if (S.1 (0, 43) x6.toNatClampNeg) = x3 then jX8_countsOf_73 k7 F x1 x2 x3 x4 x5 x6 S else jX8_countsOf_89 k7 F x1 x2 x3 x4 x5 x6 S)

def hX8_countsOf_7 (F : Nat) (S : vs) (x1 : Int32) (x2 : Int32) (x3 : Int32) (x4 : Int32) : Nat → Int32 → Int32 → Option Int32
  | 0, _, _ => none
  | n + 1, x5, x6 => if (S.1 (0, 1) 24) ≤ x6 then some x5 else gd (inb x6 (alen 0 S.2.2 (0, 41))) (if (S.1 (0, 41) x6.toNatClampNeg) = x1 then gd (inb x6 (alen 0 S.2.2 (0, 42))) (if (S.1 (0, 42) x6.toNatClampNeg) = (-9) then jX8_countsOf_50 (hX8_countsOf_7 F S x1 x2 x3 x4 n) F x1 x2 x3 x4 x5 x6 S else if (S.1 (0, 42) x6.toNatClampNeg) = x2 then jX8_countsOf_50 (hX8_countsOf_7 F S x1 x2 x3 x4 n) F x1 x2 x3 x4 x5 x6 S else jX8_countsOf_89 (hX8_countsOf_7 F S x1 x2 x3 x4 n) F x1 x2 x3 x4 x5 x6 S) else jX8_countsOf_89 (hX8_countsOf_7 F S x1 x2 x3 x4 n) F x1 x2 x3 x4 x5 x6 S)

def fX8_countsOf (F : Nat) (x1 : Int32) (x2 : Int32) (x3 : Int32) (x4 : Int32) (S : vs) : Option Int32 := hX8_countsOf_7 F S x1 x2 x3 x4 F (-9) 0
theorem tjX8_countsOf_128 (l : Launch) (G : vg) (F : Nat) (x1 : Int32) (x2 : Int32) (x3 : Int32) (x4 : Int32) (x6 : Int32) (sk0 : Int32) (S : vs) (k7 : Int32 → Int32 → Option Int32) (H7 : ∀ (z5 : Int32), ∀ (z6 : Int32), V l G mX8_countsOf none (phP S) (k7 z5 z6) 7 [(0, vR (0, 1)), (1, vI x1), (2, vI x2), (3, vI x3), (4, vI x4), (5, vI z5), (6, vI z6)] [] (enc S) 0 0) : V l G mX8_countsOf none (phP S) (jX8_countsOf_128 k7 F x1 x2 x3 x4 x6 sk0 S) 128 [(0, vR (0, 1)), (1, vI x1), (2, vI x2), (3, vI x3), (4, vI x4), (6, vI x6)] [vI sk0] (enc S) 0 0 := by
  unfold jX8_countsOf_128
  refine V.istore (L' := [(0, vR (0, 1)), (1, vI x1), (2, vI x2), (3, vI x3), (4, vI x4), (6, vI x6), (5, vI sk0)]) dX8_countsOf_128 (by decide) rfl rfl ?_
  refine V.lti (e := x6 + 1) (fun x_2 he => ?_)
  refine V.iinc (v := x_2) (L' := [(0, vR (0, 1)), (1, vI x1), (2, vI x2), (3, vI x3), (4, vI x4), (6, vI x_2), (5, vI sk0)]) dX8_countsOf_130 5 rfl he.symm (by decide) rfl rfl ?_
  refine V.goto 7 dX8_countsOf_133 (by decide) ?_
  exact V.lsub [0, 1, 2, 3, 4, 6, 5] rfl (H7 sk0 x_2)

theorem tjX8_countsOf_126 (l : Launch) (G : vg) (F : Nat) (x1 : Int32) (x2 : Int32) (x3 : Int32) (x4 : Int32) (x5 : Int32) (x6 : Int32) (S : vs) (k7 : Int32 → Int32 → Option Int32) (H7 : ∀ (z5 : Int32), ∀ (z6 : Int32), V l G mX8_countsOf none (phP S) (k7 z5 z6) 7 [(0, vR (0, 1)), (1, vI x1), (2, vI x2), (3, vI x3), (4, vI x4), (5, vI z5), (6, vI z6)] [] (enc S) 0 0) : V l G mX8_countsOf none (phP S) (jX8_countsOf_126 k7 F x1 x2 x3 x4 x5 x6 S) 126 [(0, vR (0, 1)), (1, vI x1), (2, vI x2), (3, vI x3), (4, vI x4), (5, vI x5), (6, vI x6)] [] (enc S) 0 0 := by
  unfold jX8_countsOf_126
  refine V.iload dX8_countsOf_126 5 rfl ?_
  exact V.lsub [0, 1, 2, 3, 4, 6] rfl (tjX8_countsOf_128 l G F x1 x2 x3 x4 x6 x5 S k7 H7)

theorem tjX8_countsOf_121 (l : Launch) (G : vg) (F : Nat) (x1 : Int32) (x2 : Int32) (x3 : Int32) (x4 : Int32) (x6 : Int32) (S : vs) (k7 : Int32 → Int32 → Option Int32) (H7 : ∀ (z5 : Int32), ∀ (z6 : Int32), V l G mX8_countsOf none (phP S) (k7 z5 z6) 7 [(0, vR (0, 1)), (1, vI x1), (2, vI x2), (3, vI x3), (4, vI x4), (5, vI z5), (6, vI z6)] [] (enc S) 0 0) : V l G mX8_countsOf none (phP S) (jX8_countsOf_121 k7 F x1 x2 x3 x4 x6 S) 121 [(0, vR (0, 1)), (1, vI x1), (2, vI x2), (3, vI x3), (4, vI x4), (6, vI x6)] [] (enc S) 0 0 := by
  unfold jX8_countsOf_121
  refine V.iload dX8_countsOf_121 5 rfl ?_
  refine V.goto 128 dX8_countsOf_123 (by decide) ?_
  exact (tjX8_countsOf_128 l G F x1 x2 x3 x4 x6 x6 S k7 H7)

theorem tjX8_countsOf_90 (l : Launch) (G : vg) (F : Nat) (x1 : Int32) (x2 : Int32) (x3 : Int32) (x4 : Int32) (x5 : Int32) (x6 : Int32) (sk0 : Int32) (S : vs) (k7 : Int32 → Int32 → Option Int32) (H7 : ∀ (z5 : Int32), ∀ (z6 : Int32), V l G mX8_countsOf none (phP S) (k7 z5 z6) 7 [(0, vR (0, 1)), (1, vI x1), (2, vI x2), (3, vI x3), (4, vI x4), (5, vI z5), (6, vI z6)] [] (enc S) 0 0) : V l G mX8_countsOf none (phP S) (jX8_countsOf_90 k7 F x1 x2 x3 x4 x5 x6 sk0 S) 90 [(0, vR (0, 1)), (1, vI x1), (2, vI x2), (3, vI x3), (4, vI x4), (5, vI x5), (6, vI x6)] [vI sk0] (enc S) 0 0 := by
  unfold jX8_countsOf_90
  refine V.istore (L' := [(0, vR (0, 1)), (1, vI x1), (2, vI x2), (3, vI x3), (4, vI x4), (5, vI x5), (6, vI x6), (7, vI sk0)]) dX8_countsOf_90 (by decide) rfl rfl ?_
  refine V.iload dX8_countsOf_92 7 rfl ?_
  refine V.if_eq 126 dX8_countsOf_94 (by decide) ?_ ?_
  · exact V.lsub [0, 1, 2, 3, 4, 5, 6] rfl (tjX8_countsOf_126 l G F x1 x2 x3 x4 x5 x6 S k7 H7)
  · refine V.iload dX8_countsOf_97 5 rfl ?_
    refine V.bipush (v := (-9)) dX8_countsOf_99 (by decide) ?_
    refine V.icmp_eq 121 dX8_countsOf_101 (by decide) ?_ ?_
    · exact V.lsub [0, 1, 2, 3, 4, 6] rfl (tjX8_countsOf_121 l G F x1 x2 x3 x4 x6 S k7 H7)
    · refine V.aload_n dX8_countsOf_104 0 rfl ?_
      refine V.sgR 8 28 dX8_countsOf_105 gf_X8_74 sh0_1 rfl rfl ?_
      refine V.iload dX8_countsOf_108 6 rfl ?_
      refine V.chk fun h_3 => ?_
      refine V.sia dX8_countsOf_110 h_3 ?_
      refine V.aload_n dX8_countsOf_111 0 rfl ?_
      refine V.sgR 8 28 dX8_countsOf_112 gf_X8_74 sh0_1 rfl rfl ?_
      refine V.iload dX8_countsOf_115 5 rfl ?_
      refine V.chk fun h_4 => ?_
      refine V.sia dX8_countsOf_117 h_4 ?_
      refine V.icmp_lt 126 dX8_countsOf_118 (by decide) ?_ ?_
      · exact V.lsub [0, 1, 2, 3, 4, 5, 6] rfl (tjX8_countsOf_126 l G F x1 x2 x3 x4 x5 x6 S k7 H7)
      · exact V.lsub [0, 1, 2, 3, 4, 6] rfl (tjX8_countsOf_121 l G F x1 x2 x3 x4 x6 S k7 H7)

theorem tjX8_countsOf_89 (l : Launch) (G : vg) (F : Nat) (x1 : Int32) (x2 : Int32) (x3 : Int32) (x4 : Int32) (x5 : Int32) (x6 : Int32) (S : vs) (k7 : Int32 → Int32 → Option Int32) (H7 : ∀ (z5 : Int32), ∀ (z6 : Int32), V l G mX8_countsOf none (phP S) (k7 z5 z6) 7 [(0, vR (0, 1)), (1, vI x1), (2, vI x2), (3, vI x3), (4, vI x4), (5, vI z5), (6, vI z6)] [] (enc S) 0 0) : V l G mX8_countsOf none (phP S) (jX8_countsOf_89 k7 F x1 x2 x3 x4 x5 x6 S) 89 [(0, vR (0, 1)), (1, vI x1), (2, vI x2), (3, vI x3), (4, vI x4), (5, vI x5), (6, vI x6)] [] (enc S) 0 0 := by
  unfold jX8_countsOf_89
  refine V.iconst (v := 0) dX8_countsOf_89 (by decide) ?_
  exact (tjX8_countsOf_90 l G F x1 x2 x3 x4 x5 x6 0 S k7 H7)

theorem tjX8_countsOf_73 (l : Launch) (G : vg) (F : Nat) (x1 : Int32) (x2 : Int32) (x3 : Int32) (x4 : Int32) (x5 : Int32) (x6 : Int32) (S : vs) (k7 : Int32 → Int32 → Option Int32) (H7 : ∀ (z5 : Int32), ∀ (z6 : Int32), V l G mX8_countsOf none (phP S) (k7 z5 z6) 7 [(0, vR (0, 1)), (1, vI x1), (2, vI x2), (3, vI x3), (4, vI x4), (5, vI z5), (6, vI z6)] [] (enc S) 0 0) : V l G mX8_countsOf none (phP S) (jX8_countsOf_73 k7 F x1 x2 x3 x4 x5 x6 S) 73 [(0, vR (0, 1)), (1, vI x1), (2, vI x2), (3, vI x3), (4, vI x4), (5, vI x5), (6, vI x6)] [] (enc S) 0 0 := by
  unfold jX8_countsOf_73
  refine V.aload_n dX8_countsOf_73 0 rfl ?_
  refine V.sgR 8 28 dX8_countsOf_74 gf_X8_74 sh0_1 rfl rfl ?_
  refine V.iload dX8_countsOf_77 6 rfl ?_
  refine V.chk fun h_7 => ?_
  refine V.sia dX8_countsOf_79 h_7 ?_
  refine V.iload dX8_countsOf_80 4 rfl ?_
  refine V.icmp_gt 89 dX8_countsOf_82 (by decide) ?_ ?_
  · exact (tjX8_countsOf_89 l G F x1 x2 x3 x4 x5 x6 S k7 H7)
  · refine V.iconst (v := 1) dX8_countsOf_85 (by decide) ?_
    refine V.goto 90 dX8_countsOf_86 (by decide) ?_
    exact (tjX8_countsOf_90 l G F x1 x2 x3 x4 x5 x6 1 S k7 H7)

theorem tjX8_countsOf_50 (l : Launch) (G : vg) (F : Nat) (x1 : Int32) (x2 : Int32) (x3 : Int32) (x4 : Int32) (x5 : Int32) (x6 : Int32) (S : vs) (k7 : Int32 → Int32 → Option Int32) (H7 : ∀ (z5 : Int32), ∀ (z6 : Int32), V l G mX8_countsOf none (phP S) (k7 z5 z6) 7 [(0, vR (0, 1)), (1, vI x1), (2, vI x2), (3, vI x3), (4, vI x4), (5, vI z5), (6, vI z6)] [] (enc S) 0 0) : V l G mX8_countsOf none (phP S) (jX8_countsOf_50 k7 F x1 x2 x3 x4 x5 x6 S) 50 [(0, vR (0, 1)), (1, vI x1), (2, vI x2), (3, vI x3), (4, vI x4), (5, vI x5), (6, vI x6)] [] (enc S) 0 0 := by
  unfold jX8_countsOf_50
  refine V.aload_n dX8_countsOf_50 0 rfl ?_
  refine V.sgR 8 27 dX8_countsOf_51 gf_X8_71 sh0_1 rfl rfl ?_
  refine V.iload dX8_countsOf_54 6 rfl ?_
  refine V.chk fun h_6 => ?_
  refine V.sia dX8_countsOf_56 h_6 ?_
  refine V.bipush (v := (-9)) dX8_countsOf_57 (by decide) ?_
  refine V.icmp_eq 73 dX8_countsOf_59 (by decide) ?_ ?_
  · exact (tjX8_countsOf_73 l G F x1 x2 x3 x4 x5 x6 S k7 H7)
  · refine V.aload_n dX8_countsOf_62 0 rfl ?_
    refine V.sgR 8 27 dX8_countsOf_63 gf_X8_71 sh0_1 rfl rfl ?_
    refine V.iload dX8_countsOf_66 6 rfl ?_
    refine V.sia dX8_countsOf_68 h_6 ?_
    refine V.iload_n dX8_countsOf_69 3 rfl ?_
    refine V.icmp_ne 89 dX8_countsOf_70 (by decide) ?_ ?_
    · exact (tjX8_countsOf_89 l G F x1 x2 x3 x4 x5 x6 S k7 H7)
    · exact (tjX8_countsOf_73 l G F x1 x2 x3 x4 x5 x6 S k7 H7)

theorem thX8_countsOf_7 (l : Launch) (G : vg) (F : Nat) (S : vs) (x1 : Int32) (x2 : Int32) (x3 : Int32) (x4 : Int32) : ∀ (n : Nat) (x5 : Int32) (x6 : Int32), V l G mX8_countsOf none (phP S) (hX8_countsOf_7 F S x1 x2 x3 x4 n x5 x6) 7 [(0, vR (0, 1)), (1, vI x1), (2, vI x2), (3, vI x3), (4, vI x4), (5, vI x5), (6, vI x6)] [] (enc S) 0 0
  | 0, _, _ => V.nil
  | n + 1, x5, x6 => by
    have ih := thX8_countsOf_7 l G F S x1 x2 x3 x4 n
    rw [hX8_countsOf_7]
    refine V.iload dX8_countsOf_7 6 rfl ?_
    refine V.aload_n dX8_countsOf_9 0 rfl ?_
    refine V.sgI 8 24 dX8_countsOf_10 gf_X8_212 sh0_1 rfl rfl ?_
    refine V.icmp_ge 136 dX8_countsOf_13 (by decide) ?_ ?_
    · refine V.iload dX8_countsOf_136 5 rfl ?_
      exact V.iret rfl dX8_countsOf_138 rfl (by decide) (by decide)
    · refine V.aload_n dX8_countsOf_16 0 rfl ?_
      refine V.sgR 8 25 dX8_countsOf_17 gf_X8_65 sh0_1 rfl rfl ?_
      refine V.iload dX8_countsOf_20 6 rfl ?_
      refine V.chk fun h_1 => ?_
      refine V.sia dX8_countsOf_22 h_1 ?_
      refine V.iload_n dX8_countsOf_23 1 rfl ?_
      refine V.icmp_ne 89 dX8_countsOf_24 (by decide) ?_ ?_
      · exact (tjX8_countsOf_89 l G F x1 x2 x3 x4 x5 x6 S (hX8_countsOf_7 F S x1 x2 x3 x4 n) ih)
      · refine V.aload_n dX8_countsOf_27 0 rfl ?_
        refine V.sgR 8 26 dX8_countsOf_28 gf_X8_68 sh0_1 rfl rfl ?_
        refine V.iload dX8_countsOf_31 6 rfl ?_
        refine V.chk fun h_5 => ?_
        refine V.sia dX8_countsOf_33 h_5 ?_
        refine V.bipush (v := (-9)) dX8_countsOf_34 (by decide) ?_
        refine V.icmp_eq 50 dX8_countsOf_36 (by decide) ?_ ?_
        · exact (tjX8_countsOf_50 l G F x1 x2 x3 x4 x5 x6 S (hX8_countsOf_7 F S x1 x2 x3 x4 n) ih)
        · refine V.aload_n dX8_countsOf_39 0 rfl ?_
          refine V.sgR 8 26 dX8_countsOf_40 gf_X8_68 sh0_1 rfl rfl ?_
          refine V.iload dX8_countsOf_43 6 rfl ?_
          refine V.sia dX8_countsOf_45 h_5 ?_
          refine V.iload_n dX8_countsOf_46 2 rfl ?_
          refine V.icmp_ne 89 dX8_countsOf_47 (by decide) ?_ ?_
          · exact (tjX8_countsOf_89 l G F x1 x2 x3 x4 x5 x6 S (hX8_countsOf_7 F S x1 x2 x3 x4 n) ih)
          · exact (tjX8_countsOf_50 l G F x1 x2 x3 x4 x5 x6 S (hX8_countsOf_7 F S x1 x2 x3 x4 n) ih)

theorem kX8_countsOf (l : Launch) (G : vg) (F : Nat) (x1 : Int32) (x2 : Int32) (x3 : Int32) (x4 : Int32) (S : vs) : Rt l G mX8_countsOf none (phP S) [vR (0, 1), vI x1, vI x2, vI x3, vI x4] (enc S) (fX8_countsOf F x1 x2 x3 x4 S) := Rt.of rfl (Nat.le_of_ble_eq_true rfl) (by
  show V l G mX8_countsOf none (phP S) _ 0 [(0, vR (0, 1)), (1, vI x1), (2, vI x2), (3, vI x3), (4, vI x4)] [] (enc S) 0 0
  unfold fX8_countsOf
  refine V.bipush (v := (-9)) dX8_countsOf_0 (by decide) ?_
  refine V.istore (L' := [(0, vR (0, 1)), (1, vI x1), (2, vI x2), (3, vI x3), (4, vI x4), (5, vI (-9))]) dX8_countsOf_2 (by decide) rfl rfl ?_
  refine V.iconst (v := 0) dX8_countsOf_4 (by decide) ?_
  refine V.istore (L' := [(0, vR (0, 1)), (1, vI x1), (2, vI x2), (3, vI x3), (4, vI x4), (5, vI (-9)), (6, vI 0)]) dX8_countsOf_5 (by decide) rfl rfl ?_
  exact (thX8_countsOf_7 l G F S x1 x2 x3 x4 F (-9) 0))

abbrev mX8_counts : vmt := (yX8_counts, cX8_counts, 5, (some .int), { frames := 2, cells := 0, slots := 0, locals := 45 })
theorem mfX8_counts : mfV mX8_counts 4 := ⟨im_X8_counts, se_X8_counts, ini_X8, co_X8_counts, by decide, by decide, by decide +kernel⟩
def fX8_counts (F : Nat) (x1 : Int32) (x2 : Int32) (x3 : Int32) (x4 : Int32) (S : vs) : Option (Int32 × vs) := stp (s2 S (0, 1) 0 0) (fun S_1 => (fX8_in F x1.toInt64 0 7 S_1).bind (fun a_2 => if a_2 = 0 then some ((-1), S_1) else (fX8_in F x2.toInt64 0 3 S_1).bind (fun a_3 => if a_3 = 0 then some ((-1), S_1) else (fX8_in F x3.toInt64 0 5 S_1).bind (fun a_4 => if a_4 = 0 then some ((-1), S_1) else (fX8_noDay F x4 S_1).bind (fun a_5 => if a_5 = 0 then (fX8_countsOf F x1 x2 x3 x4 S_1).bind (fun a_6 => some (a_6, S_1)) else some ((-2), S_1))))))
theorem kX8_counts (l : Launch) (G : vg) (F : Nat) (x1 : Int32) (x2 : Int32) (x3 : Int32) (x4 : Int32) (S : vs) : Rt l G mX8_counts none phI [vR (0, 1), vI x1, vI x2, vI x3, vI x4] (enc S) (fX8_counts F x1 x2 x3 x4 S) := Rt.of rfl (Nat.le_of_ble_eq_true rfl) (by
  show V l G mX8_counts none phI _ 0 [(0, vR (0, 1)), (1, vI x1), (2, vI x2), (3, vI x3), (4, vI x4)] [] (enc S) 0 0
  unfold fX8_counts
  refine V.aload_n dX8_counts_0 0 rfl ?_
  refine V.iconst (v := 0) dX8_counts_1 (by decide) ?_
  refine V.spI 8 0 dX8_counts_2 pf_X8_95 sh0_1 rfl rfl ?_
  refine V.sst fun S_1 => ?_
  refine V.iload_n dX8_counts_5 1 rfl ?_
  refine V.i2l dX8_counts_6 ?_
  refine V.lconst (v := 0) dX8_counts_7 (by decide) ?_
  refine V.ldc2 (v := 7) dX8_counts_8 ct_X8_205 ?_
  refine V.callS (M' := mX8_in) (As := [vJ x1.toInt64, vJ 0, vJ 7]) (ψ := (phP S_1)) dX8_counts_11 ml_X8_102 mfX8_in rfl ⟨by decide, by decide⟩ ⟨by decide, by decide⟩ (Nat.le_of_ble_eq_true rfl) rfl (kX8_in l G F x1.toInt64 0 7 S_1) (fun a_2 => ?_)
  show V l G mX8_counts none phI _ 14 [(0, vR (0, 1)), (1, vI x1), (2, vI x2), (3, vI x3), (4, vI x4)] [vI a_2] (enc S_1) 0 0
  refine V.if_eq 41 dX8_counts_14 (by decide) ?_ ?_
  · refine V.iconst (v := (-1)) dX8_counts_41 (by decide) ?_
    exact V.iret rfl dX8_counts_42 rfl (by decide) (by decide)
  · refine V.iload_n dX8_counts_17 2 rfl ?_
    refine V.i2l dX8_counts_18 ?_
    refine V.lconst (v := 0) dX8_counts_19 (by decide) ?_
    refine V.ldc2 (v := 3) dX8_counts_20 ct_X8_145 ?_
    refine V.callS (M' := mX8_in) (As := [vJ x2.toInt64, vJ 0, vJ 3]) (ψ := (phP S_1)) dX8_counts_23 ml_X8_102 mfX8_in rfl ⟨by decide, by decide⟩ ⟨by decide, by decide⟩ (Nat.le_of_ble_eq_true rfl) rfl (kX8_in l G F x2.toInt64 0 3 S_1) (fun a_3 => ?_)
    show V l G mX8_counts none phI _ 26 [(0, vR (0, 1)), (1, vI x1), (2, vI x2), (3, vI x3), (4, vI x4)] [vI a_3] (enc S_1) 0 0
    refine V.if_eq 41 dX8_counts_26 (by decide) ?_ ?_
    · refine V.iconst (v := (-1)) dX8_counts_41 (by decide) ?_
      exact V.iret rfl dX8_counts_42 rfl (by decide) (by decide)
    · refine V.iload_n dX8_counts_29 3 rfl ?_
      refine V.i2l dX8_counts_30 ?_
      refine V.lconst (v := 0) dX8_counts_31 (by decide) ?_
      refine V.ldc2 (v := 5) dX8_counts_32 ct_X8_207 ?_
      refine V.callS (M' := mX8_in) (As := [vJ x3.toInt64, vJ 0, vJ 5]) (ψ := (phP S_1)) dX8_counts_35 ml_X8_102 mfX8_in rfl ⟨by decide, by decide⟩ ⟨by decide, by decide⟩ (Nat.le_of_ble_eq_true rfl) rfl (kX8_in l G F x3.toInt64 0 5 S_1) (fun a_4 => ?_)
      show V l G mX8_counts none phI _ 38 [(0, vR (0, 1)), (1, vI x1), (2, vI x2), (3, vI x3), (4, vI x4)] [vI a_4] (enc S_1) 0 0
      refine V.if_ne 43 dX8_counts_38 (by decide) ?_ ?_
      · refine V.iload dX8_counts_43 4 rfl ?_
        refine V.callS (M' := mX8_noDay) (As := [vI x4]) (ψ := (phP S_1)) dX8_counts_45 ml_X8_209 mfX8_noDay rfl ⟨by decide, by decide⟩ ⟨by decide, by decide⟩ (Nat.le_of_ble_eq_true rfl) rfl (kX8_noDay l G F x4 S_1) (fun a_5 => ?_)
        show V l G mX8_counts none phI _ 48 [(0, vR (0, 1)), (1, vI x1), (2, vI x2), (3, vI x3), (4, vI x4)] [vI a_5] (enc S_1) 0 0
        refine V.if_eq 56 dX8_counts_48 (by decide) ?_ ?_
        · refine V.aload_n dX8_counts_56 0 rfl ?_
          refine V.iload_n dX8_counts_57 1 rfl ?_
          refine V.iload_n dX8_counts_58 2 rfl ?_
          refine V.iload_n dX8_counts_59 3 rfl ?_
          refine V.iload dX8_counts_60 4 rfl ?_
          refine V.callV (M' := mX8_countsOf) (As := [vI x1, vI x2, vI x3, vI x4]) (ψ := (phP S_1)) dX8_counts_62 ml_X8_215 mfX8_countsOf rfl ⟨by decide, by decide⟩ ⟨by decide, by decide⟩ (enc_at rfl sh0_1) rfl (Nat.le_of_ble_eq_true rfl) rfl (kX8_countsOf l G F x1 x2 x3 x4 S_1) (fun a_6 => ?_)
          show V l G mX8_counts none phI _ 65 [(0, vR (0, 1)), (1, vI x1), (2, vI x2), (3, vI x3), (4, vI x4)] [vI a_6] (enc S_1) 0 0
          exact V.iret rfl dX8_counts_65 rfl (by decide) (by decide)
        · refine V.bipush (v := (-2)) dX8_counts_51 (by decide) ?_
          refine V.goto 65 dX8_counts_53 (by decide) ?_
          exact V.iret rfl dX8_counts_65 rfl (by decide) (by decide)
      · refine V.iconst (v := (-1)) dX8_counts_41 (by decide) ?_
        exact V.iret rfl dX8_counts_42 rfl (by decide) (by decide))

abbrev mX8_mayHear : vmt := (yX8_mayHear, cX8_mayHear, 7, (some .boolean), { frames := 1, cells := 0, slots := 0, locals := 27 })
theorem mfX8_mayHear : mfV mX8_mayHear 3 := ⟨im_X8_mayHear, se_X8_mayHear, ini_X8, co_X8_mayHear, by decide, by decide, by decide +kernel⟩
def jX8_mayHear_73 (k6 : Int32 → Int32 → Option Int32) (F : Nat) (x1 : Int32) (x2 : Int32) (x3 : Int32) (x4 : Int32) (x5 : Int32) (S : vs) : Option Int32 := ltt (x5 + 1) (fun x_4 => k6 x4 x_4)

def jX8_mayHear_71 (k6 : Int32 → Int32 → Option Int32) (F : Nat) (x1 : Int32) (x2 : Int32) (x3 : Int32) (x5 : Int32) (sk0 : Int32) (S : vs) : Option Int32 := jX8_mayHear_73 k6 F x1 x2 x3 sk0 x5 S

def jX8_mayHear_70 (k6 : Int32 → Int32 → Option Int32) (F : Nat) (x1 : Int32) (x2 : Int32) (x3 : Int32) (x5 : Int32) (S : vs) : Option Int32 := jX8_mayHear_71 k6 F x1 x2 x3 x5 0 S

def hX8_mayHear_6 (F : Nat) (S : vs) (x1 : Int32) (x2 : Int32) (x3 : Int32) : Nat → Int32 → Int32 → Option Int32
  | 0, _, _ => none
  | n + 1, x4, x5 => if 8 ≤ x5 then gd (zb x4) (some x4) else if x4 = 0 then gd (zb x4) (some x4) else gd (inb x1 (alen 0 S.2.2 (0, 32))) (if (((S.1 (0, 32) x1.toNatClampNeg) >>> (x5 &&& 31)) &&& 1) = 1 then gd (inb x1 (alen 0 S.2.2 (0, 33))) ((fX8_countsOf F x5 (S.1 (0, 33) x1.toNatClampNeg) x2 x3 S).bind (fun a_6 => if a_6 = (-9) then jX8_mayHear_70 (hX8_mayHear_6 F S x1 x2 x3 n) F x1 x2 x3 x5 S else gd (inb a_6 (alen 1 S.2.2 (0, 45))) (if (S.1 (0, 45) a_6.toNatClampNeg) = 0 then jX8_mayHear_70 (hX8_mayHear_6 F S x1 x2 x3 n) F x1 x2 x3 x5 S else jX8_mayHear_71 (hX8_mayHear_6 F S x1 x2 x3 n) F x1 x2 x3 x5 1 S))) else jX8_mayHear_73 (hX8_mayHear_6 F S x1 x2 x3 n) F x1 x2 x3 x4 x5 S)

def fX8_mayHear (F : Nat) (x1 : Int32) (x2 : Int32) (x3 : Int32) (S : vs) : Option Int32 := hX8_mayHear_6 F S x1 x2 x3 F 1 0
theorem tjX8_mayHear_73 (l : Launch) (G : vg) (F : Nat) (x1 : Int32) (x2 : Int32) (x3 : Int32) (x4 : Int32) (x5 : Int32) (S : vs) (k6 : Int32 → Int32 → Option Int32) (H6 : ∀ (z4 : Int32), ∀ (z5 : Int32), V l G mX8_mayHear none (phP S) (k6 z4 z5) 6 [(0, vR (0, 1)), (1, vI x1), (2, vI x2), (3, vI x3), (4, vI z4), (5, vI z5)] [] (enc S) 0 0) : V l G mX8_mayHear none (phP S) (jX8_mayHear_73 k6 F x1 x2 x3 x4 x5 S) 73 [(0, vR (0, 1)), (1, vI x1), (2, vI x2), (3, vI x3), (4, vI x4), (5, vI x5)] [] (enc S) 0 0 := by
  unfold jX8_mayHear_73
  refine V.lti (e := x5 + 1) (fun x_4 he => ?_)
  refine V.iinc (v := x_4) (L' := [(0, vR (0, 1)), (1, vI x1), (2, vI x2), (3, vI x3), (4, vI x4), (5, vI x_4)]) dX8_mayHear_73 5 rfl he.symm (by decide) rfl rfl ?_
  refine V.goto 6 dX8_mayHear_76 (by decide) ?_
  exact (H6 x4 x_4)

theorem tjX8_mayHear_71 (l : Launch) (G : vg) (F : Nat) (x1 : Int32) (x2 : Int32) (x3 : Int32) (x5 : Int32) (sk0 : Int32) (S : vs) (k6 : Int32 → Int32 → Option Int32) (H6 : ∀ (z4 : Int32), ∀ (z5 : Int32), V l G mX8_mayHear none (phP S) (k6 z4 z5) 6 [(0, vR (0, 1)), (1, vI x1), (2, vI x2), (3, vI x3), (4, vI z4), (5, vI z5)] [] (enc S) 0 0) : V l G mX8_mayHear none (phP S) (jX8_mayHear_71 k6 F x1 x2 x3 x5 sk0 S) 71 [(0, vR (0, 1)), (1, vI x1), (2, vI x2), (3, vI x3), (5, vI x5)] [vI sk0] (enc S) 0 0 := by
  unfold jX8_mayHear_71
  refine V.istore (L' := [(0, vR (0, 1)), (1, vI x1), (2, vI x2), (3, vI x3), (5, vI x5), (4, vI sk0)]) dX8_mayHear_71 (by decide) rfl rfl ?_
  exact V.lsub [0, 1, 2, 3, 5, 4] rfl (tjX8_mayHear_73 l G F x1 x2 x3 sk0 x5 S k6 H6)

theorem tjX8_mayHear_70 (l : Launch) (G : vg) (F : Nat) (x1 : Int32) (x2 : Int32) (x3 : Int32) (x5 : Int32) (S : vs) (k6 : Int32 → Int32 → Option Int32) (H6 : ∀ (z4 : Int32), ∀ (z5 : Int32), V l G mX8_mayHear none (phP S) (k6 z4 z5) 6 [(0, vR (0, 1)), (1, vI x1), (2, vI x2), (3, vI x3), (4, vI z4), (5, vI z5)] [] (enc S) 0 0) : V l G mX8_mayHear none (phP S) (jX8_mayHear_70 k6 F x1 x2 x3 x5 S) 70 [(0, vR (0, 1)), (1, vI x1), (2, vI x2), (3, vI x3), (5, vI x5)] [] (enc S) 0 0 := by
  unfold jX8_mayHear_70
  refine V.iconst (v := 0) dX8_mayHear_70 (by decide) ?_
  exact (tjX8_mayHear_71 l G F x1 x2 x3 x5 0 S k6 H6)

theorem thX8_mayHear_6 (l : Launch) (G : vg) (F : Nat) (S : vs) (x1 : Int32) (x2 : Int32) (x3 : Int32) : ∀ (n : Nat) (x4 : Int32) (x5 : Int32), V l G mX8_mayHear none (phP S) (hX8_mayHear_6 F S x1 x2 x3 n x4 x5) 6 [(0, vR (0, 1)), (1, vI x1), (2, vI x2), (3, vI x3), (4, vI x4), (5, vI x5)] [] (enc S) 0 0
  | 0, _, _ => V.nil
  | n + 1, x4, x5 => by
    have ih := thX8_mayHear_6 l G F S x1 x2 x3 n
    rw [hX8_mayHear_6]
    refine V.iload dX8_mayHear_6 5 rfl ?_
    refine V.bipush (v := 8) dX8_mayHear_8 (by decide) ?_
    refine V.icmp_ge 79 dX8_mayHear_10 (by decide) ?_ ?_
    · refine V.iload dX8_mayHear_79 4 rfl ?_
      refine V.chk fun h_1 => ?_
      exact V.zret rfl dX8_mayHear_81 rfl (zb_n h_1) (by decide) (by decide)
    · refine V.iload dX8_mayHear_13 4 rfl ?_
      refine V.if_eq 79 dX8_mayHear_15 (by decide) ?_ ?_
      · refine V.iload dX8_mayHear_79 4 rfl ?_
        refine V.chk fun h_2 => ?_
        exact V.zret rfl dX8_mayHear_81 rfl (zb_n h_2) (by decide) (by decide)
      · refine V.aload_n dX8_mayHear_18 0 rfl ?_
        refine V.sgR 8 12 dX8_mayHear_19 gf_X8_37 sh0_1 rfl rfl ?_
        refine V.iload_n dX8_mayHear_22 1 rfl ?_
        refine V.chk fun h_3 => ?_
        refine V.sia dX8_mayHear_23 h_3 ?_
        refine V.iload dX8_mayHear_24 5 rfl ?_
        refine V.ishr dX8_mayHear_26 ?_
        refine V.iconst (v := 1) dX8_mayHear_27 (by decide) ?_
        refine V.iand dX8_mayHear_28 ?_
        refine V.iconst (v := 1) dX8_mayHear_29 (by decide) ?_
        refine V.icmp_ne 73 dX8_mayHear_30 (by decide) ?_ ?_
        · exact (tjX8_mayHear_73 l G F x1 x2 x3 x4 x5 S (hX8_mayHear_6 F S x1 x2 x3 n) ih)
        · refine V.aload_n dX8_mayHear_33 0 rfl ?_
          refine V.iload dX8_mayHear_34 5 rfl ?_
          refine V.aload_n dX8_mayHear_36 0 rfl ?_
          refine V.sgR 8 13 dX8_mayHear_37 gf_X8_40 sh0_1 rfl rfl ?_
          refine V.iload_n dX8_mayHear_40 1 rfl ?_
          refine V.chk fun h_5 => ?_
          refine V.sia dX8_mayHear_41 h_5 ?_
          refine V.iload_n dX8_mayHear_42 2 rfl ?_
          refine V.iload_n dX8_mayHear_43 3 rfl ?_
          refine V.callV (M' := mX8_countsOf) (As := [vI x5, vI (S.1 (0, 33) x1.toNatClampNeg), vI x2, vI x3]) (ψ := (phP S)) dX8_mayHear_44 ml_X8_215 mfX8_countsOf rfl ⟨by decide, by decide⟩ ⟨by decide, by decide⟩ (enc_at rfl sh0_1) rfl (Nat.le_of_ble_eq_true rfl) rfl (kX8_countsOf l G F x5 (S.1 (0, 33) x1.toNatClampNeg) x2 x3 S) (fun a_6 => ?_)
          show V l G mX8_mayHear none (phP S) _ 47 [(0, vR (0, 1)), (1, vI x1), (2, vI x2), (3, vI x3), (4, vI x4), (5, vI x5)] [vI a_6] (enc S) 0 0
          refine V.istore (L' := [(0, vR (0, 1)), (1, vI x1), (2, vI x2), (3, vI x3), (4, vI x4), (5, vI x5), (6, vI a_6)]) dX8_mayHear_47 (by decide) rfl rfl ?_
          refine V.iload dX8_mayHear_49 6 rfl ?_
          refine V.bipush (v := (-9)) dX8_mayHear_51 (by decide) ?_
          refine V.icmp_eq 70 dX8_mayHear_53 (by decide) ?_ ?_
          · exact V.lsub [0, 1, 2, 3, 5] rfl (tjX8_mayHear_70 l G F x1 x2 x3 x5 S (hX8_mayHear_6 F S x1 x2 x3 n) ih)
          · refine V.aload_n dX8_mayHear_56 0 rfl ?_
            refine V.sgR 8 29 dX8_mayHear_57 gf_X8_77 sh0_1 rfl rfl ?_
            refine V.iload dX8_mayHear_60 6 rfl ?_
            refine V.chk fun h_7 => ?_
            refine V.sza dX8_mayHear_62 h_7 ?_
            refine V.if_eq 70 dX8_mayHear_63 (by decide) ?_ ?_
            · exact V.lsub [0, 1, 2, 3, 5] rfl (tjX8_mayHear_70 l G F x1 x2 x3 x5 S (hX8_mayHear_6 F S x1 x2 x3 n) ih)
            · refine V.iconst (v := 1) dX8_mayHear_66 (by decide) ?_
              refine V.goto 71 dX8_mayHear_67 (by decide) ?_
              exact V.lsub [0, 1, 2, 3, 5] rfl (tjX8_mayHear_71 l G F x1 x2 x3 x5 1 S (hX8_mayHear_6 F S x1 x2 x3 n) ih)

theorem kX8_mayHear (l : Launch) (G : vg) (F : Nat) (x1 : Int32) (x2 : Int32) (x3 : Int32) (S : vs) : Rt l G mX8_mayHear none (phP S) [vR (0, 1), vI x1, vI x2, vI x3] (enc S) (fX8_mayHear F x1 x2 x3 S) := Rt.of rfl (Nat.le_of_ble_eq_true rfl) (by
  show V l G mX8_mayHear none (phP S) _ 0 [(0, vR (0, 1)), (1, vI x1), (2, vI x2), (3, vI x3)] [] (enc S) 0 0
  unfold fX8_mayHear
  refine V.iconst (v := 1) dX8_mayHear_0 (by decide) ?_
  refine V.istore (L' := [(0, vR (0, 1)), (1, vI x1), (2, vI x2), (3, vI x3), (4, vI 1)]) dX8_mayHear_1 (by decide) rfl rfl ?_
  refine V.iconst (v := 0) dX8_mayHear_3 (by decide) ?_
  refine V.istore (L' := [(0, vR (0, 1)), (1, vI x1), (2, vI x2), (3, vI x3), (4, vI 1), (5, vI 0)]) dX8_mayHear_4 (by decide) rfl rfl ?_
  exact (thX8_mayHear_6 l G F S x1 x2 x3 F 1 0))

abbrev mX8_may : vmt := (yX8_may, cX8_may, 4, (some .int), { frames := 2, cells := 0, slots := 0, locals := 53 })
theorem mfX8_may : mfV mX8_may 3 := ⟨im_X8_may, se_X8_may, ini_X8, co_X8_may, by decide, by decide, by decide +kernel⟩
def fX8_may (F : Nat) (x1 : Int32) (x2 : Int32) (x3 : Int32) (S : vs) : Option (Int32 × vs) := stp (s2 S (0, 1) 0 0) (fun S_1 => (fX8_noSide F x1 S_1).bind (fun a_2 => if a_2 = 0 then (fX8_in F x2.toInt64 0 5 S_1).bind (fun a_3 => if a_3 = 0 then some ((-1), S_1) else (fX8_noDay F x3 S_1).bind (fun a_4 => if a_4 = 0 then (fX8_mayHear F x1 x2 x3 S_1).bind (fun a_5 => if a_5 = 0 then some (0, S_1) else some (1, S_1)) else some ((-2), S_1))) else some ((-1), S_1)))
theorem kX8_may (l : Launch) (G : vg) (F : Nat) (x1 : Int32) (x2 : Int32) (x3 : Int32) (S : vs) : Rt l G mX8_may none phI [vR (0, 1), vI x1, vI x2, vI x3] (enc S) (fX8_may F x1 x2 x3 S) := Rt.of rfl (Nat.le_of_ble_eq_true rfl) (by
  show V l G mX8_may none phI _ 0 [(0, vR (0, 1)), (1, vI x1), (2, vI x2), (3, vI x3)] [] (enc S) 0 0
  unfold fX8_may
  refine V.aload_n dX8_may_0 0 rfl ?_
  refine V.iconst (v := 0) dX8_may_1 (by decide) ?_
  refine V.spI 8 0 dX8_may_2 pf_X8_95 sh0_1 rfl rfl ?_
  refine V.sst fun S_1 => ?_
  refine V.aload_n dX8_may_5 0 rfl ?_
  refine V.iload_n dX8_may_6 1 rfl ?_
  refine V.callV (M' := mX8_noSide) (As := [vI x1]) (ψ := (phP S_1)) dX8_may_7 ml_X8_110 mfX8_noSide rfl ⟨by decide, by decide⟩ ⟨by decide, by decide⟩ (enc_at rfl sh0_1) rfl (Nat.le_of_ble_eq_true rfl) rfl (kX8_noSide l G F x1 S_1) (fun a_2 => ?_)
  show V l G mX8_may none phI _ 10 [(0, vR (0, 1)), (1, vI x1), (2, vI x2), (3, vI x3)] [vI a_2] (enc S_1) 0 0
  refine V.if_ne 25 dX8_may_10 (by decide) ?_ ?_
  · refine V.iconst (v := (-1)) dX8_may_25 (by decide) ?_
    exact V.iret rfl dX8_may_26 rfl (by decide) (by decide)
  · refine V.iload_n dX8_may_13 2 rfl ?_
    refine V.i2l dX8_may_14 ?_
    refine V.lconst (v := 0) dX8_may_15 (by decide) ?_
    refine V.ldc2 (v := 5) dX8_may_16 ct_X8_207 ?_
    refine V.callS (M' := mX8_in) (As := [vJ x2.toInt64, vJ 0, vJ 5]) (ψ := (phP S_1)) dX8_may_19 ml_X8_102 mfX8_in rfl ⟨by decide, by decide⟩ ⟨by decide, by decide⟩ (Nat.le_of_ble_eq_true rfl) rfl (kX8_in l G F x2.toInt64 0 5 S_1) (fun a_3 => ?_)
    show V l G mX8_may none phI _ 22 [(0, vR (0, 1)), (1, vI x1), (2, vI x2), (3, vI x3)] [vI a_3] (enc S_1) 0 0
    refine V.if_ne 27 dX8_may_22 (by decide) ?_ ?_
    · refine V.iload_n dX8_may_27 3 rfl ?_
      refine V.callS (M' := mX8_noDay) (As := [vI x3]) (ψ := (phP S_1)) dX8_may_28 ml_X8_209 mfX8_noDay rfl ⟨by decide, by decide⟩ ⟨by decide, by decide⟩ (Nat.le_of_ble_eq_true rfl) rfl (kX8_noDay l G F x3 S_1) (fun a_4 => ?_)
      show V l G mX8_may none phI _ 31 [(0, vR (0, 1)), (1, vI x1), (2, vI x2), (3, vI x3)] [vI a_4] (enc S_1) 0 0
      refine V.if_eq 39 dX8_may_31 (by decide) ?_ ?_
      · refine V.aload_n dX8_may_39 0 rfl ?_
        refine V.iload_n dX8_may_40 1 rfl ?_
        refine V.iload_n dX8_may_41 2 rfl ?_
        refine V.iload_n dX8_may_42 3 rfl ?_
        refine V.callV (M' := mX8_mayHear) (As := [vI x1, vI x2, vI x3]) (ψ := (phP S_1)) dX8_may_43 ml_X8_219 mfX8_mayHear rfl ⟨by decide, by decide⟩ ⟨by decide, by decide⟩ (enc_at rfl sh0_1) rfl (Nat.le_of_ble_eq_true rfl) rfl (kX8_mayHear l G F x1 x2 x3 S_1) (fun a_5 => ?_)
        show V l G mX8_may none phI _ 46 [(0, vR (0, 1)), (1, vI x1), (2, vI x2), (3, vI x3)] [vI a_5] (enc S_1) 0 0
        refine V.if_eq 53 dX8_may_46 (by decide) ?_ ?_
        · refine V.iconst (v := 0) dX8_may_53 (by decide) ?_
          exact V.iret rfl dX8_may_54 rfl (by decide) (by decide)
        · refine V.iconst (v := 1) dX8_may_49 (by decide) ?_
          refine V.goto 54 dX8_may_50 (by decide) ?_
          exact V.iret rfl dX8_may_54 rfl (by decide) (by decide)
      · refine V.bipush (v := (-2)) dX8_may_34 (by decide) ?_
        refine V.goto 54 dX8_may_36 (by decide) ?_
        exact V.iret rfl dX8_may_54 rfl (by decide) (by decide)
    · refine V.iconst (v := (-1)) dX8_may_25 (by decide) ?_
      exact V.iret rfl dX8_may_26 rfl (by decide) (by decide))

abbrev mX8_heardOf : vmt := (yX8_heardOf, cX8_heardOf, 5, (some .int), { frames := 2, cells := 0, slots := 0, locals := 53 })
theorem mfX8_heardOf : mfV mX8_heardOf 2 := ⟨im_X8_heardOf, se_X8_heardOf, ini_X8, co_X8_heardOf, by decide, by decide, by decide +kernel⟩
def jX8_heardOf_34 (k5 : Int32 → Int32 → Option Int32) (F : Nat) (x1 : Int32) (x2 : Int32) (x4 : Int32) (sk0 : Int32) (sk1 : Int32) (S : vs) : Option Int32 := ltt (sk1 ||| sk0) (fun x_2 => ltt (x4 + 1) (fun x_3 => k5 x_2 x_3))

def hX8_heardOf_5 (F : Nat) (S : vs) (x1 : Int32) (x2 : Int32) : Nat → Int32 → Int32 → Option Int32
  | 0, _, _ => none
  | n + 1, x3, x4 => if (S.1 (0, 1) 1) ≤ x4 then some x3 else (fX8_mayHear F x4 x1 x2 S).bind (fun a_1 => if a_1 = 0 then jX8_heardOf_34 (hX8_heardOf_5 F S x1 x2 n) F x1 x2 x4 0 x3 S else jX8_heardOf_34 (hX8_heardOf_5 F S x1 x2 n) F x1 x2 x4 ((1 : Int32) <<< (x4 &&& 31)) x3 S)

def fX8_heardOf (F : Nat) (x1 : Int32) (x2 : Int32) (S : vs) : Option Int32 := hX8_heardOf_5 F S x1 x2 F 0 0
theorem tjX8_heardOf_34 (l : Launch) (G : vg) (F : Nat) (x1 : Int32) (x2 : Int32) (x4 : Int32) (sk0 : Int32) (sk1 : Int32) (S : vs) (k5 : Int32 → Int32 → Option Int32) (H5 : ∀ (z3 : Int32), ∀ (z4 : Int32), V l G mX8_heardOf none (phP S) (k5 z3 z4) 5 [(0, vR (0, 1)), (1, vI x1), (2, vI x2), (3, vI z3), (4, vI z4)] [] (enc S) 0 0) : V l G mX8_heardOf none (phP S) (jX8_heardOf_34 k5 F x1 x2 x4 sk0 sk1 S) 34 [(0, vR (0, 1)), (1, vI x1), (2, vI x2), (4, vI x4)] [vI sk0, vI sk1] (enc S) 0 0 := by
  unfold jX8_heardOf_34
  refine V.ior dX8_heardOf_34 ?_
  refine V.lett fun x_2 => ?_
  refine V.istore_n (L' := [(0, vR (0, 1)), (1, vI x1), (2, vI x2), (4, vI x4), (3, vI x_2)]) dX8_heardOf_35 (by decide) rfl rfl ?_
  refine V.lti (e := x4 + 1) (fun x_3 he => ?_)
  refine V.iinc (v := x_3) (L' := [(0, vR (0, 1)), (1, vI x1), (2, vI x2), (4, vI x_3), (3, vI x_2)]) dX8_heardOf_36 3 rfl he.symm (by decide) rfl rfl ?_
  refine V.goto 5 dX8_heardOf_39 (by decide) ?_
  exact V.lsub [0, 1, 2, 4, 3] rfl (H5 x_2 x_3)

theorem thX8_heardOf_5 (l : Launch) (G : vg) (F : Nat) (S : vs) (x1 : Int32) (x2 : Int32) : ∀ (n : Nat) (x3 : Int32) (x4 : Int32), V l G mX8_heardOf none (phP S) (hX8_heardOf_5 F S x1 x2 n x3 x4) 5 [(0, vR (0, 1)), (1, vI x1), (2, vI x2), (3, vI x3), (4, vI x4)] [] (enc S) 0 0
  | 0, _, _ => V.nil
  | n + 1, x3, x4 => by
    have ih := thX8_heardOf_5 l G F S x1 x2 n
    rw [hX8_heardOf_5]
    refine V.iload dX8_heardOf_5 4 rfl ?_
    refine V.aload_n dX8_heardOf_7 0 rfl ?_
    refine V.sgI 8 1 dX8_heardOf_8 gf_X8_99 sh0_1 rfl rfl ?_
    refine V.icmp_ge 42 dX8_heardOf_11 (by decide) ?_ ?_
    · refine V.iload_n dX8_heardOf_42 3 rfl ?_
      exact V.iret rfl dX8_heardOf_43 rfl (by decide) (by decide)
    · refine V.iload_n dX8_heardOf_14 3 rfl ?_
      refine V.aload_n dX8_heardOf_15 0 rfl ?_
      refine V.iload dX8_heardOf_16 4 rfl ?_
      refine V.iload_n dX8_heardOf_18 1 rfl ?_
      refine V.iload_n dX8_heardOf_19 2 rfl ?_
      refine V.callV (M' := mX8_mayHear) (As := [vI x4, vI x1, vI x2]) (ψ := (phP S)) dX8_heardOf_20 ml_X8_219 mfX8_mayHear rfl ⟨by decide, by decide⟩ ⟨by decide, by decide⟩ (enc_at rfl sh0_1) rfl (Nat.le_of_ble_eq_true rfl) rfl (kX8_mayHear l G F x4 x1 x2 S) (fun a_1 => ?_)
      show V l G mX8_heardOf none (phP S) _ 23 [(0, vR (0, 1)), (1, vI x1), (2, vI x2), (3, vI x3), (4, vI x4)] [vI a_1, vI x3] (enc S) 0 0
      refine V.if_eq 33 dX8_heardOf_23 (by decide) ?_ ?_
      · refine V.iconst (v := 0) dX8_heardOf_33 (by decide) ?_
        exact V.lsub [0, 1, 2, 4] rfl (tjX8_heardOf_34 l G F x1 x2 x4 0 x3 S (hX8_heardOf_5 F S x1 x2 n) ih)
      · refine V.iconst (v := 1) dX8_heardOf_26 (by decide) ?_
        refine V.iload dX8_heardOf_27 4 rfl ?_
        refine V.ishl dX8_heardOf_29 ?_
        refine V.goto 34 dX8_heardOf_30 (by decide) ?_
        exact V.lsub [0, 1, 2, 4] rfl (tjX8_heardOf_34 l G F x1 x2 x4 ((1 : Int32) <<< (x4 &&& 31)) x3 S (hX8_heardOf_5 F S x1 x2 n) ih)

theorem kX8_heardOf (l : Launch) (G : vg) (F : Nat) (x1 : Int32) (x2 : Int32) (S : vs) : Rt l G mX8_heardOf none (phP S) [vR (0, 1), vI x1, vI x2] (enc S) (fX8_heardOf F x1 x2 S) := Rt.of rfl (Nat.le_of_ble_eq_true rfl) (by
  show V l G mX8_heardOf none (phP S) _ 0 [(0, vR (0, 1)), (1, vI x1), (2, vI x2)] [] (enc S) 0 0
  unfold fX8_heardOf
  refine V.iconst (v := 0) dX8_heardOf_0 (by decide) ?_
  refine V.istore_n (L' := [(0, vR (0, 1)), (1, vI x1), (2, vI x2), (3, vI 0)]) dX8_heardOf_1 (by decide) rfl rfl ?_
  refine V.iconst (v := 0) dX8_heardOf_2 (by decide) ?_
  refine V.istore (L' := [(0, vR (0, 1)), (1, vI x1), (2, vI x2), (3, vI 0), (4, vI 0)]) dX8_heardOf_3 (by decide) rfl rfl ?_
  exact (thX8_heardOf_5 l G F S x1 x2 F 0 0))

abbrev mX8_heard : vmt := (yX8_heard, cX8_heard, 3, (some .int), { frames := 3, cells := 0, slots := 0, locals := 77 })
theorem mfX8_heard : mfV mX8_heard 2 := ⟨im_X8_heard, se_X8_heard, ini_X8, co_X8_heard, by decide, by decide, by decide +kernel⟩
def fX8_heard (F : Nat) (x1 : Int32) (x2 : Int32) (S : vs) : Option (Int32 × vs) := stp (s2 S (0, 1) 0 0) (fun S_1 => (fX8_in F x1.toInt64 0 5 S_1).bind (fun a_2 => if a_2 = 0 then some ((-1), S_1) else (fX8_noDay F x2 S_1).bind (fun a_3 => if a_3 = 0 then (fX8_heardOf F x1 x2 S_1).bind (fun a_4 => some (a_4, S_1)) else some ((-2), S_1))))
theorem kX8_heard (l : Launch) (G : vg) (F : Nat) (x1 : Int32) (x2 : Int32) (S : vs) : Rt l G mX8_heard none phI [vR (0, 1), vI x1, vI x2] (enc S) (fX8_heard F x1 x2 S) := Rt.of rfl (Nat.le_of_ble_eq_true rfl) (by
  show V l G mX8_heard none phI _ 0 [(0, vR (0, 1)), (1, vI x1), (2, vI x2)] [] (enc S) 0 0
  unfold fX8_heard
  refine V.aload_n dX8_heard_0 0 rfl ?_
  refine V.iconst (v := 0) dX8_heard_1 (by decide) ?_
  refine V.spI 8 0 dX8_heard_2 pf_X8_95 sh0_1 rfl rfl ?_
  refine V.sst fun S_1 => ?_
  refine V.iload_n dX8_heard_5 1 rfl ?_
  refine V.i2l dX8_heard_6 ?_
  refine V.lconst (v := 0) dX8_heard_7 (by decide) ?_
  refine V.ldc2 (v := 5) dX8_heard_8 ct_X8_207 ?_
  refine V.callS (M' := mX8_in) (As := [vJ x1.toInt64, vJ 0, vJ 5]) (ψ := (phP S_1)) dX8_heard_11 ml_X8_102 mfX8_in rfl ⟨by decide, by decide⟩ ⟨by decide, by decide⟩ (Nat.le_of_ble_eq_true rfl) rfl (kX8_in l G F x1.toInt64 0 5 S_1) (fun a_2 => ?_)
  show V l G mX8_heard none phI _ 14 [(0, vR (0, 1)), (1, vI x1), (2, vI x2)] [vI a_2] (enc S_1) 0 0
  refine V.if_ne 19 dX8_heard_14 (by decide) ?_ ?_
  · refine V.iload_n dX8_heard_19 2 rfl ?_
    refine V.callS (M' := mX8_noDay) (As := [vI x2]) (ψ := (phP S_1)) dX8_heard_20 ml_X8_209 mfX8_noDay rfl ⟨by decide, by decide⟩ ⟨by decide, by decide⟩ (Nat.le_of_ble_eq_true rfl) rfl (kX8_noDay l G F x2 S_1) (fun a_3 => ?_)
    show V l G mX8_heard none phI _ 23 [(0, vR (0, 1)), (1, vI x1), (2, vI x2)] [vI a_3] (enc S_1) 0 0
    refine V.if_eq 31 dX8_heard_23 (by decide) ?_ ?_
    · refine V.aload_n dX8_heard_31 0 rfl ?_
      refine V.iload_n dX8_heard_32 1 rfl ?_
      refine V.iload_n dX8_heard_33 2 rfl ?_
      refine V.callV (M' := mX8_heardOf) (As := [vI x1, vI x2]) (ψ := (phP S_1)) dX8_heard_34 ml_X8_222 mfX8_heardOf rfl ⟨by decide, by decide⟩ ⟨by decide, by decide⟩ (enc_at rfl sh0_1) rfl (Nat.le_of_ble_eq_true rfl) rfl (kX8_heardOf l G F x1 x2 S_1) (fun a_4 => ?_)
      show V l G mX8_heard none phI _ 37 [(0, vR (0, 1)), (1, vI x1), (2, vI x2)] [vI a_4] (enc S_1) 0 0
      exact V.iret rfl dX8_heard_37 rfl (by decide) (by decide)
    · refine V.bipush (v := (-2)) dX8_heard_26 (by decide) ?_
      refine V.goto 37 dX8_heard_28 (by decide) ?_
      exact V.iret rfl dX8_heard_37 rfl (by decide) (by decide)
  · refine V.iconst (v := (-1)) dX8_heard_17 (by decide) ?_
    exact V.iret rfl dX8_heard_18 rfl (by decide) (by decide))

