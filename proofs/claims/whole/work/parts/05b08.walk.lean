abbrev mX8_total : vmt := (yX8_total, cX8_total, 5, (some .int), { frames := 0, cells := 0, slots := 0, locals := 0 })
theorem mfX8_total : mfV mX8_total 1 := ⟨im_X8_total, se_X8_total, ini_X8, co_X8_total, by decide, by decide, by decide +kernel⟩
def hX8_total_48 (F : Nat) (x1 : Int32) (x2 : Int32) : Nat → Int32 → Int32 → vs → Option (Int32 × vs)
  | 0, _, _, _ => none
  | n + 1, x3, x4, S => if (S.1 (0, 1) 1) ≤ x4 then if x1 = 0 then some (S.1 (0, 1) 1, S) else if x1 = 1 then some (S.1 (0, 1) 2, S) else if x1 = 2 then some (x2, S) else if x1 = 3 then some (S.1 (0, 1) 20, S) else if x1 = 4 then some (S.1 (0, 1) 24, S) else if x1 = 5 then some (x3, S) else some ((-2), S) else gd (inb x4 (alen 0 S.2.2 (0, 24))) (ltt (x3 + (S.1 (0, 24) x4.toNatClampNeg)) (fun x_3 => ltt (x4 + 1) (fun x_4 => hX8_total_48 F x1 x2 n x_3 x_4 S)))

def jX8_total_37 (k12 : Int32 → Int32 → vs → Option (Int32 × vs)) (F : Nat) (x1 : Int32) (x3 : Int32) (x4 : Int32) (sk0 : Int32) (sk1 : Int32) (S : vs) : Option (Int32 × vs) := ltt (sk1 + sk0) (fun x_6 => ltt (x4 + 1) (fun x_7 => k12 x_6 x_7 S))

def hX8_total_12 (F : Nat) (x1 : Int32) (x3 : Int32) : Nat → Int32 → Int32 → vs → Option (Int32 × vs)
  | 0, _, _, _ => none
  | n + 1, x2, x4, S => if (S.1 (0, 1) 14) ≤ x4 then hX8_total_48 F x1 x2 F x3 0 S else gd (inb x4 (alen 1 S.2.2 (0, 38))) (if (S.1 (0, 38) x4.toNatClampNeg) = 0 then jX8_total_37 (hX8_total_12 F x1 x3 n) F x1 x3 x4 1 x2 S else jX8_total_37 (hX8_total_12 F x1 x3 n) F x1 x3 x4 0 x2 S)

def fX8_total (F : Nat) (x1 : Int32) (S : vs) : Option (Int32 × vs) := stp (s2 S (0, 1) 0 0) (fun S_1 => hX8_total_12 F x1 0 F 0 0 S_1)
theorem thX8_total_48 (l : Launch) (G : vg) (F : Nat) (x1 : Int32) (x2 : Int32) : ∀ (n : Nat) (x3 : Int32) (x4 : Int32) (S : vs), V l G mX8_total none phI (hX8_total_48 F x1 x2 n x3 x4 S) 48 [(0, vR (0, 1)), (1, vI x1), (2, vI x2), (3, vI x3), (4, vI x4)] [] (enc S) 0 0
  | 0, _, _, _ => V.nil
  | n + 1, x3, x4, S => by
    have ih := thX8_total_48 l G F x1 x2 n
    rw [hX8_total_48]
    refine V.iload dX8_total_48 4 rfl ?_
    refine V.aload_n dX8_total_50 0 rfl ?_
    refine V.sgI 8 1 dX8_total_51 gf_X8_99 sh0_1 rfl rfl ?_
    refine V.icmp_ge 73 dX8_total_54 (by decide) ?_ ?_
    · refine V.iload_n dX8_total_73 1 rfl ?_
      refine V.if_ne 84 dX8_total_74 (by decide) ?_ ?_
      · refine V.iload_n dX8_total_84 1 rfl ?_
        refine V.iconst (v := 1) dX8_total_85 (by decide) ?_
        refine V.icmp_ne 96 dX8_total_86 (by decide) ?_ ?_
        · refine V.iload_n dX8_total_96 1 rfl ?_
          refine V.iconst (v := 2) dX8_total_97 (by decide) ?_
          refine V.icmp_ne 105 dX8_total_98 (by decide) ?_ ?_
          · refine V.iload_n dX8_total_105 1 rfl ?_
            refine V.iconst (v := 3) dX8_total_106 (by decide) ?_
            refine V.icmp_ne 117 dX8_total_107 (by decide) ?_ ?_
            · refine V.iload_n dX8_total_117 1 rfl ?_
              refine V.iconst (v := 4) dX8_total_118 (by decide) ?_
              refine V.icmp_ne 129 dX8_total_119 (by decide) ?_ ?_
              · refine V.iload_n dX8_total_129 1 rfl ?_
                refine V.iconst (v := 5) dX8_total_130 (by decide) ?_
                refine V.icmp_ne 138 dX8_total_131 (by decide) ?_ ?_
                · refine V.bipush (v := (-2)) dX8_total_138 (by decide) ?_
                  exact V.iret rfl dX8_total_140 rfl (by decide) (by decide)
                · refine V.iload_n dX8_total_134 3 rfl ?_
                  refine V.goto 140 dX8_total_135 (by decide) ?_
                  exact V.iret rfl dX8_total_140 rfl (by decide) (by decide)
              · refine V.aload_n dX8_total_122 0 rfl ?_
                refine V.sgI 8 24 dX8_total_123 gf_X8_212 sh0_1 rfl rfl ?_
                refine V.goto 140 dX8_total_126 (by decide) ?_
                exact V.iret rfl dX8_total_140 rfl (by decide) (by decide)
            · refine V.aload_n dX8_total_110 0 rfl ?_
              refine V.sgI 8 20 dX8_total_111 gf_X8_182 sh0_1 rfl rfl ?_
              refine V.goto 140 dX8_total_114 (by decide) ?_
              exact V.iret rfl dX8_total_140 rfl (by decide) (by decide)
          · refine V.iload_n dX8_total_101 2 rfl ?_
            refine V.goto 140 dX8_total_102 (by decide) ?_
            exact V.iret rfl dX8_total_140 rfl (by decide) (by decide)
        · refine V.aload_n dX8_total_89 0 rfl ?_
          refine V.sgI 8 2 dX8_total_90 gf_X8_118 sh0_1 rfl rfl ?_
          refine V.goto 140 dX8_total_93 (by decide) ?_
          exact V.iret rfl dX8_total_140 rfl (by decide) (by decide)
      · refine V.aload_n dX8_total_77 0 rfl ?_
        refine V.sgI 8 1 dX8_total_78 gf_X8_99 sh0_1 rfl rfl ?_
        refine V.goto 140 dX8_total_81 (by decide) ?_
        exact V.iret rfl dX8_total_140 rfl (by decide) (by decide)
    · refine V.iload_n dX8_total_57 3 rfl ?_
      refine V.aload_n dX8_total_58 0 rfl ?_
      refine V.sgR 8 4 dX8_total_59 gf_X8_13 sh0_1 rfl rfl ?_
      refine V.iload dX8_total_62 4 rfl ?_
      refine V.chk fun h_2 => ?_
      refine V.sia dX8_total_64 h_2 ?_
      refine V.iadd dX8_total_65 ?_
      refine V.lett fun x_3 => ?_
      refine V.istore_n (L' := [(0, vR (0, 1)), (1, vI x1), (2, vI x2), (3, vI x_3), (4, vI x4)]) dX8_total_66 (by decide) rfl rfl ?_
      refine V.lti (e := x4 + 1) (fun x_4 he => ?_)
      refine V.iinc (v := x_4) (L' := [(0, vR (0, 1)), (1, vI x1), (2, vI x2), (3, vI x_3), (4, vI x_4)]) dX8_total_67 4 rfl he.symm (by decide) rfl rfl ?_
      refine V.goto 48 dX8_total_70 (by decide) ?_
      exact (ih x_3 x_4 S)

theorem tjX8_total_37 (l : Launch) (G : vg) (F : Nat) (x1 : Int32) (x3 : Int32) (x4 : Int32) (sk0 : Int32) (sk1 : Int32) (S : vs) (k12 : Int32 → Int32 → vs → Option (Int32 × vs)) (H12 : ∀ (z2 : Int32), ∀ (z4 : Int32), ∀ (Sz : vs), V l G mX8_total none phI (k12 z2 z4 Sz) 12 [(0, vR (0, 1)), (1, vI x1), (2, vI z2), (3, vI x3), (4, vI z4)] [] (enc Sz) 0 0) : V l G mX8_total none phI (jX8_total_37 k12 F x1 x3 x4 sk0 sk1 S) 37 [(0, vR (0, 1)), (1, vI x1), (3, vI x3), (4, vI x4)] [vI sk0, vI sk1] (enc S) 0 0 := by
  unfold jX8_total_37
  refine V.iadd dX8_total_37 ?_
  refine V.lett fun x_6 => ?_
  refine V.istore_n (L' := [(0, vR (0, 1)), (1, vI x1), (3, vI x3), (4, vI x4), (2, vI x_6)]) dX8_total_38 (by decide) rfl rfl ?_
  refine V.lti (e := x4 + 1) (fun x_7 he => ?_)
  refine V.iinc (v := x_7) (L' := [(0, vR (0, 1)), (1, vI x1), (3, vI x3), (4, vI x_7), (2, vI x_6)]) dX8_total_39 3 rfl he.symm (by decide) rfl rfl ?_
  refine V.goto 12 dX8_total_42 (by decide) ?_
  exact V.lsub [0, 1, 4, 2, 3] rfl (H12 x_6 x_7 S)

theorem thX8_total_12 (l : Launch) (G : vg) (F : Nat) (x1 : Int32) (x3 : Int32) : ∀ (n : Nat) (x2 : Int32) (x4 : Int32) (S : vs), V l G mX8_total none phI (hX8_total_12 F x1 x3 n x2 x4 S) 12 [(0, vR (0, 1)), (1, vI x1), (2, vI x2), (3, vI x3), (4, vI x4)] [] (enc S) 0 0
  | 0, _, _, _ => V.nil
  | n + 1, x2, x4, S => by
    have ih := thX8_total_12 l G F x1 x3 n
    rw [hX8_total_12]
    refine V.iload dX8_total_12 4 rfl ?_
    refine V.aload_n dX8_total_14 0 rfl ?_
    refine V.sgI 8 14 dX8_total_15 gf_X8_164 sh0_1 rfl rfl ?_
    refine V.icmp_ge 45 dX8_total_18 (by decide) ?_ ?_
    · refine V.iconst (v := 0) dX8_total_45 (by decide) ?_
      refine V.istore (L' := [(0, vR (0, 1)), (1, vI x1), (2, vI x2), (3, vI x3), (4, vI 0)]) dX8_total_46 (by decide) rfl rfl ?_
      exact (thX8_total_48 l G F x1 x2 F x3 0 S)
    · refine V.iload_n dX8_total_21 2 rfl ?_
      refine V.aload_n dX8_total_22 0 rfl ?_
      refine V.sgR 8 19 dX8_total_23 gf_X8_55 sh0_1 rfl rfl ?_
      refine V.iload dX8_total_26 4 rfl ?_
      refine V.chk fun h_5 => ?_
      refine V.sza dX8_total_28 h_5 ?_
      refine V.if_eq 36 dX8_total_29 (by decide) ?_ ?_
      · refine V.iconst (v := 1) dX8_total_36 (by decide) ?_
        exact V.lsub [0, 1, 3, 4] rfl (tjX8_total_37 l G F x1 x3 x4 1 x2 S (hX8_total_12 F x1 x3 n) ih)
      · refine V.iconst (v := 0) dX8_total_32 (by decide) ?_
        refine V.goto 37 dX8_total_33 (by decide) ?_
        exact V.lsub [0, 1, 3, 4] rfl (tjX8_total_37 l G F x1 x3 x4 0 x2 S (hX8_total_12 F x1 x3 n) ih)

theorem kX8_total (l : Launch) (G : vg) (F : Nat) (x1 : Int32) (S : vs) : Rt l G mX8_total none phI [vR (0, 1), vI x1] (enc S) (fX8_total F x1 S) := Rt.of rfl (Nat.le_of_ble_eq_true rfl) (by
  show V l G mX8_total none phI _ 0 [(0, vR (0, 1)), (1, vI x1)] [] (enc S) 0 0
  unfold fX8_total
  refine V.aload_n dX8_total_0 0 rfl ?_
  refine V.iconst (v := 0) dX8_total_1 (by decide) ?_
  refine V.spI 8 0 dX8_total_2 pf_X8_95 sh0_1 rfl rfl ?_
  refine V.sst fun S_1 => ?_
  refine V.iconst (v := 0) dX8_total_5 (by decide) ?_
  refine V.istore_n (L' := [(0, vR (0, 1)), (1, vI x1), (2, vI 0)]) dX8_total_6 (by decide) rfl rfl ?_
  refine V.iconst (v := 0) dX8_total_7 (by decide) ?_
  refine V.istore_n (L' := [(0, vR (0, 1)), (1, vI x1), (2, vI 0), (3, vI 0)]) dX8_total_8 (by decide) rfl rfl ?_
  refine V.iconst (v := 0) dX8_total_9 (by decide) ?_
  refine V.istore (L' := [(0, vR (0, 1)), (1, vI x1), (2, vI 0), (3, vI 0), (4, vI 0)]) dX8_total_10 (by decide) rfl rfl ?_
  exact (thX8_total_12 l G F x1 0 F 0 0 S_1))

