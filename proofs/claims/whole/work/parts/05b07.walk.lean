abbrev mX8_days : vmt := (yX8_days, cX8_days, 9, (some .int), { frames := 3, cells := 0, slots := 0, locals := 77 })
theorem mfX8_days : mfV mX8_days 4 := ⟨im_X8_days, se_X8_days, ini_X8, co_X8_days, by decide, by decide, by decide +kernel⟩
def jX8_days_151 (k57 : Int32 → Int32 → vs → Option (Int32 × vs)) (F : Nat) (x1 : Int32) (x2 : Int32) (x4 : Int32) (x7 : Int32) (sk0 : Int32) (sk1 : Int32) (S : vs) : Option (Int32 × vs) := ltt (sk1 + sk0) (fun x_8 => k57 x_8 x7 S)

def jX8_days_118 (k57 : Int32 → Int32 → vs → Option (Int32 × vs)) (k73 : Int32 → Int32 → vs → Option (Int32 × vs)) (F : Nat) (x1 : Int32) (x2 : Int32) (x4 : Int32) (x5 : Int32) (x6 : Int32) (x8 : Int32) (sk0 : Int32) (S : vs) : Option (Int32 × vs) := ltt (x8 + 1) (fun x_10 => k73 sk0 x_10 S)

def jX8_days_116 (k57 : Int32 → Int32 → vs → Option (Int32 × vs)) (k73 : Int32 → Int32 → vs → Option (Int32 × vs)) (F : Nat) (x1 : Int32) (x2 : Int32) (x4 : Int32) (x5 : Int32) (x6 : Int32) (x7 : Int32) (x8 : Int32) (S : vs) : Option (Int32 × vs) := jX8_days_118 k57 k73 F x1 x2 x4 x5 x6 x8 x7 S

def hX8_days_73 (k57 : Int32 → Int32 → vs → Option (Int32 × vs)) (F : Nat) (x1 : Int32) (x2 : Int32) (x4 : Int32) (x5 : Int32) (x6 : Int32) : Nat → Int32 → Int32 → vs → Option (Int32 × vs)
  | 0, _, _, _ => none
  | n + 1, x7, x8, S => if (S.1 (0, 1) 24) ≤ x8 then (fX8_heardOf F x2 x6 S).bind (fun a_7 => if (x1 &&& (a_7 ^^^ (-1))) = 0 then jX8_days_151 k57 F x1 x2 x4 x7 (x7 - x6) x5 S else jX8_days_151 k57 F x1 x2 x4 x7 0 x5 S) else gd (inb x8 (alen 0 S.2.2 (0, 44))) (if (S.1 (0, 44) x8.toNatClampNeg) ≤ x6 then jX8_days_116 k57 (hX8_days_73 k57 F x1 x2 x4 x5 x6 n) F x1 x2 x4 x5 x6 x7 x8 S else if x7 ≤ (S.1 (0, 44) x8.toNatClampNeg) then jX8_days_116 k57 (hX8_days_73 k57 F x1 x2 x4 x5 x6 n) F x1 x2 x4 x5 x6 x7 x8 S else jX8_days_118 k57 (hX8_days_73 k57 F x1 x2 x4 x5 x6 n) F x1 x2 x4 x5 x6 x8 (S.1 (0, 44) x8.toNatClampNeg) S)

def hX8_days_57 (F : Nat) (x1 : Int32) (x2 : Int32) (x4 : Int32) : Nat → Int32 → Int32 → vs → Option (Int32 × vs)
  | 0, _, _, _ => none
  | n + 1, x5, x6, S => if x4 < x6 then some (x5, S) else ltt (x4 + 1) (fun x_6 => hX8_days_73 (hX8_days_57 F x1 x2 x4 n) F x1 x2 x4 x5 x6 F x_6 0 S)

def fX8_days (F : Nat) (x1 : Int32) (x2 : Int32) (x3 : Int32) (x4 : Int32) (S : vs) : Option (Int32 × vs) := stp (s2 S (0, 1) 0 0) (fun S_1 => (fX8_noSet F x1 S_1).bind (fun a_2 => if a_2 = 0 then (fX8_in F x2.toInt64 0 5 S_1).bind (fun a_3 => if a_3 = 0 then some ((-1), S_1) else (fX8_noDay F x3 S_1).bind (fun a_4 => if a_4 = 0 then (fX8_noDay F x4 S_1).bind (fun a_5 => if a_5 = 0 then if x3 ≤ x4 then hX8_days_57 F x1 x2 x4 F 0 x3 S_1 else some ((-2), S_1) else some ((-2), S_1)) else some ((-2), S_1))) else some ((-1), S_1)))
theorem tjX8_days_151 (l : Launch) (G : vg) (F : Nat) (x1 : Int32) (x2 : Int32) (x4 : Int32) (x7 : Int32) (sk0 : Int32) (sk1 : Int32) (S : vs) (k57 : Int32 → Int32 → vs → Option (Int32 × vs)) (H57 : ∀ (z5 : Int32), ∀ (z6 : Int32), ∀ (Sz : vs), V l G mX8_days none phI (k57 z5 z6 Sz) 57 [(0, vR (0, 1)), (1, vI x1), (2, vI x2), (4, vI x4), (5, vI z5), (6, vI z6)] [] (enc Sz) 0 0) : V l G mX8_days none phI (jX8_days_151 k57 F x1 x2 x4 x7 sk0 sk1 S) 151 [(0, vR (0, 1)), (1, vI x1), (2, vI x2), (4, vI x4), (7, vI x7)] [vI sk0, vI sk1] (enc S) 0 0 := by
  unfold jX8_days_151
  refine V.iadd dX8_days_151 ?_
  refine V.lett fun x_8 => ?_
  refine V.istore (L' := [(0, vR (0, 1)), (1, vI x1), (2, vI x2), (4, vI x4), (7, vI x7), (5, vI x_8)]) dX8_days_152 (by decide) rfl rfl ?_
  refine V.iload dX8_days_154 4 rfl ?_
  refine V.istore (L' := [(0, vR (0, 1)), (1, vI x1), (2, vI x2), (4, vI x4), (7, vI x7), (5, vI x_8), (6, vI x7)]) dX8_days_156 (by decide) rfl rfl ?_
  refine V.goto 57 dX8_days_158 (by decide) ?_
  exact V.lsub [0, 1, 2, 3, 5, 6] rfl (H57 x_8 x7 S)

theorem tjX8_days_118 (l : Launch) (G : vg) (F : Nat) (x1 : Int32) (x2 : Int32) (x4 : Int32) (x5 : Int32) (x6 : Int32) (x8 : Int32) (sk0 : Int32) (S : vs) (k57 : Int32 → Int32 → vs → Option (Int32 × vs)) (H57 : ∀ (z5 : Int32), ∀ (z6 : Int32), ∀ (Sz : vs), V l G mX8_days none phI (k57 z5 z6 Sz) 57 [(0, vR (0, 1)), (1, vI x1), (2, vI x2), (4, vI x4), (5, vI z5), (6, vI z6)] [] (enc Sz) 0 0) (k73 : Int32 → Int32 → vs → Option (Int32 × vs)) (H73 : ∀ (z7 : Int32), ∀ (z8 : Int32), ∀ (Sz : vs), V l G mX8_days none phI (k73 z7 z8 Sz) 73 [(0, vR (0, 1)), (1, vI x1), (2, vI x2), (4, vI x4), (5, vI x5), (6, vI x6), (7, vI z7), (8, vI z8)] [] (enc Sz) 0 0) : V l G mX8_days none phI (jX8_days_118 k57 k73 F x1 x2 x4 x5 x6 x8 sk0 S) 118 [(0, vR (0, 1)), (1, vI x1), (2, vI x2), (4, vI x4), (5, vI x5), (6, vI x6), (8, vI x8)] [vI sk0] (enc S) 0 0 := by
  unfold jX8_days_118
  refine V.istore (L' := [(0, vR (0, 1)), (1, vI x1), (2, vI x2), (4, vI x4), (5, vI x5), (6, vI x6), (8, vI x8), (7, vI sk0)]) dX8_days_118 (by decide) rfl rfl ?_
  refine V.lti (e := x8 + 1) (fun x_10 he => ?_)
  refine V.iinc (v := x_10) (L' := [(0, vR (0, 1)), (1, vI x1), (2, vI x2), (4, vI x4), (5, vI x5), (6, vI x6), (8, vI x_10), (7, vI sk0)]) dX8_days_120 6 rfl he.symm (by decide) rfl rfl ?_
  refine V.goto 73 dX8_days_123 (by decide) ?_
  exact V.lsub [0, 1, 2, 3, 4, 5, 7, 6] rfl (H73 sk0 x_10 S)

theorem tjX8_days_116 (l : Launch) (G : vg) (F : Nat) (x1 : Int32) (x2 : Int32) (x4 : Int32) (x5 : Int32) (x6 : Int32) (x7 : Int32) (x8 : Int32) (S : vs) (k57 : Int32 → Int32 → vs → Option (Int32 × vs)) (H57 : ∀ (z5 : Int32), ∀ (z6 : Int32), ∀ (Sz : vs), V l G mX8_days none phI (k57 z5 z6 Sz) 57 [(0, vR (0, 1)), (1, vI x1), (2, vI x2), (4, vI x4), (5, vI z5), (6, vI z6)] [] (enc Sz) 0 0) (k73 : Int32 → Int32 → vs → Option (Int32 × vs)) (H73 : ∀ (z7 : Int32), ∀ (z8 : Int32), ∀ (Sz : vs), V l G mX8_days none phI (k73 z7 z8 Sz) 73 [(0, vR (0, 1)), (1, vI x1), (2, vI x2), (4, vI x4), (5, vI x5), (6, vI x6), (7, vI z7), (8, vI z8)] [] (enc Sz) 0 0) : V l G mX8_days none phI (jX8_days_116 k57 k73 F x1 x2 x4 x5 x6 x7 x8 S) 116 [(0, vR (0, 1)), (1, vI x1), (2, vI x2), (4, vI x4), (5, vI x5), (6, vI x6), (7, vI x7), (8, vI x8)] [] (enc S) 0 0 := by
  unfold jX8_days_116
  refine V.iload dX8_days_116 6 rfl ?_
  exact V.lsub [0, 1, 2, 3, 4, 5, 7] rfl (tjX8_days_118 l G F x1 x2 x4 x5 x6 x8 x7 S k57 H57 k73 H73)

theorem thX8_days_73 (l : Launch) (G : vg) (F : Nat) (x1 : Int32) (x2 : Int32) (x4 : Int32) (x5 : Int32) (x6 : Int32) (k57 : Int32 → Int32 → vs → Option (Int32 × vs)) (H57 : ∀ (z5 : Int32), ∀ (z6 : Int32), ∀ (Sz : vs), V l G mX8_days none phI (k57 z5 z6 Sz) 57 [(0, vR (0, 1)), (1, vI x1), (2, vI x2), (4, vI x4), (5, vI z5), (6, vI z6)] [] (enc Sz) 0 0) : ∀ (n : Nat) (x7 : Int32) (x8 : Int32) (S : vs), V l G mX8_days none phI (hX8_days_73 k57 F x1 x2 x4 x5 x6 n x7 x8 S) 73 [(0, vR (0, 1)), (1, vI x1), (2, vI x2), (4, vI x4), (5, vI x5), (6, vI x6), (7, vI x7), (8, vI x8)] [] (enc S) 0 0
  | 0, _, _, _ => V.nil
  | n + 1, x7, x8, S => by
    have ih := thX8_days_73 l G F x1 x2 x4 x5 x6 k57 H57 n
    rw [hX8_days_73]
    refine V.iload dX8_days_73 7 rfl ?_
    refine V.aload_n dX8_days_75 0 rfl ?_
    refine V.sgI 8 24 dX8_days_76 gf_X8_212 sh0_1 rfl rfl ?_
    refine V.icmp_ge 126 dX8_days_79 (by decide) ?_ ?_
    · refine V.iload dX8_days_126 4 rfl ?_
      refine V.iload_n dX8_days_128 1 rfl ?_
      refine V.aload_n dX8_days_129 0 rfl ?_
      refine V.iload_n dX8_days_130 2 rfl ?_
      refine V.iload dX8_days_131 5 rfl ?_
      refine V.callV (M' := mX8_heardOf) (As := [vI x2, vI x6]) (ψ := (phP S)) dX8_days_133 ml_X8_222 mfX8_heardOf rfl ⟨by decide, by decide⟩ ⟨by decide, by decide⟩ (enc_at rfl sh0_1) rfl (Nat.le_of_ble_eq_true rfl) rfl (kX8_heardOf l G F x2 x6 S) (fun a_7 => ?_)
      show V l G mX8_days none phI _ 136 [(0, vR (0, 1)), (1, vI x1), (2, vI x2), (4, vI x4), (5, vI x5), (6, vI x6), (7, vI x7), (8, vI x8)] [vI a_7, vI x1, vI x5] (enc S) 0 0
      refine V.iconst (v := (-1)) dX8_days_136 (by decide) ?_
      refine V.ixor dX8_days_137 ?_
      refine V.iand dX8_days_138 ?_
      refine V.if_ne 150 dX8_days_139 (by decide) ?_ ?_
      · refine V.iconst (v := 0) dX8_days_150 (by decide) ?_
        exact V.lsub [0, 1, 2, 3, 6] rfl (tjX8_days_151 l G F x1 x2 x4 x7 0 x5 S k57 H57)
      · refine V.iload dX8_days_142 6 rfl ?_
        refine V.iload dX8_days_144 5 rfl ?_
        refine V.isub dX8_days_146 ?_
        refine V.goto 151 dX8_days_147 (by decide) ?_
        exact V.lsub [0, 1, 2, 3, 6] rfl (tjX8_days_151 l G F x1 x2 x4 x7 (x7 - x6) x5 S k57 H57)
    · refine V.aload_n dX8_days_82 0 rfl ?_
      refine V.sgR 8 28 dX8_days_83 gf_X8_74 sh0_1 rfl rfl ?_
      refine V.iload dX8_days_86 7 rfl ?_
      refine V.chk fun h_9 => ?_
      refine V.sia dX8_days_88 h_9 ?_
      refine V.iload dX8_days_89 5 rfl ?_
      refine V.icmp_le 116 dX8_days_91 (by decide) ?_ ?_
      · exact (tjX8_days_116 l G F x1 x2 x4 x5 x6 x7 x8 S k57 H57 (hX8_days_73 k57 F x1 x2 x4 x5 x6 n) ih)
      · refine V.aload_n dX8_days_94 0 rfl ?_
        refine V.sgR 8 28 dX8_days_95 gf_X8_74 sh0_1 rfl rfl ?_
        refine V.iload dX8_days_98 7 rfl ?_
        refine V.sia dX8_days_100 h_9 ?_
        refine V.iload dX8_days_101 6 rfl ?_
        refine V.icmp_ge 116 dX8_days_103 (by decide) ?_ ?_
        · exact (tjX8_days_116 l G F x1 x2 x4 x5 x6 x7 x8 S k57 H57 (hX8_days_73 k57 F x1 x2 x4 x5 x6 n) ih)
        · refine V.aload_n dX8_days_106 0 rfl ?_
          refine V.sgR 8 28 dX8_days_107 gf_X8_74 sh0_1 rfl rfl ?_
          refine V.iload dX8_days_110 7 rfl ?_
          refine V.sia dX8_days_112 h_9 ?_
          refine V.goto 118 dX8_days_113 (by decide) ?_
          exact V.lsub [0, 1, 2, 3, 4, 5, 7] rfl (tjX8_days_118 l G F x1 x2 x4 x5 x6 x8 (S.1 (0, 44) x8.toNatClampNeg) S k57 H57 (hX8_days_73 k57 F x1 x2 x4 x5 x6 n) ih)

theorem thX8_days_57 (l : Launch) (G : vg) (F : Nat) (x1 : Int32) (x2 : Int32) (x4 : Int32) : ∀ (n : Nat) (x5 : Int32) (x6 : Int32) (S : vs), V l G mX8_days none phI (hX8_days_57 F x1 x2 x4 n x5 x6 S) 57 [(0, vR (0, 1)), (1, vI x1), (2, vI x2), (4, vI x4), (5, vI x5), (6, vI x6)] [] (enc S) 0 0
  | 0, _, _, _ => V.nil
  | n + 1, x5, x6, S => by
    have ih := thX8_days_57 l G F x1 x2 x4 n
    rw [hX8_days_57]
    refine V.iload dX8_days_57 5 rfl ?_
    refine V.iload dX8_days_59 3 rfl ?_
    refine V.icmp_gt 161 dX8_days_61 (by decide) ?_ ?_
    · refine V.iload dX8_days_161 4 rfl ?_
      exact V.iret rfl dX8_days_163 rfl (by decide) (by decide)
    · refine V.iload dX8_days_64 3 rfl ?_
      refine V.iconst (v := 1) dX8_days_66 (by decide) ?_
      refine V.iadd dX8_days_67 ?_
      refine V.lett fun x_6 => ?_
      refine V.istore (L' := [(0, vR (0, 1)), (1, vI x1), (2, vI x2), (4, vI x4), (5, vI x5), (6, vI x6), (7, vI x_6)]) dX8_days_68 (by decide) rfl rfl ?_
      refine V.iconst (v := 0) dX8_days_70 (by decide) ?_
      refine V.istore (L' := [(0, vR (0, 1)), (1, vI x1), (2, vI x2), (4, vI x4), (5, vI x5), (6, vI x6), (7, vI x_6), (8, vI 0)]) dX8_days_71 (by decide) rfl rfl ?_
      exact (thX8_days_73 l G F x1 x2 x4 x5 x6 (hX8_days_57 F x1 x2 x4 n) ih F x_6 0 S)

theorem kX8_days (l : Launch) (G : vg) (F : Nat) (x1 : Int32) (x2 : Int32) (x3 : Int32) (x4 : Int32) (S : vs) : Rt l G mX8_days none phI [vR (0, 1), vI x1, vI x2, vI x3, vI x4] (enc S) (fX8_days F x1 x2 x3 x4 S) := Rt.of rfl (Nat.le_of_ble_eq_true rfl) (by
  show V l G mX8_days none phI _ 0 [(0, vR (0, 1)), (1, vI x1), (2, vI x2), (3, vI x3), (4, vI x4)] [] (enc S) 0 0
  unfold fX8_days
  refine V.aload_n dX8_days_0 0 rfl ?_
  refine V.iconst (v := 0) dX8_days_1 (by decide) ?_
  refine V.spI 8 0 dX8_days_2 pf_X8_95 sh0_1 rfl rfl ?_
  refine V.sst fun S_1 => ?_
  refine V.aload_n dX8_days_5 0 rfl ?_
  refine V.iload_n dX8_days_6 1 rfl ?_
  refine V.callV (M' := mX8_noSet) (As := [vI x1]) (ψ := (phP S_1)) dX8_days_7 ml_X8_149 mfX8_noSet rfl ⟨by decide, by decide⟩ ⟨by decide, by decide⟩ (enc_at rfl sh0_1) rfl (Nat.le_of_ble_eq_true rfl) rfl (kX8_noSet l G F x1 S_1) (fun a_2 => ?_)
  show V l G mX8_days none phI _ 10 [(0, vR (0, 1)), (1, vI x1), (2, vI x2), (3, vI x3), (4, vI x4)] [vI a_2] (enc S_1) 0 0
  refine V.if_ne 25 dX8_days_10 (by decide) ?_ ?_
  · refine V.iconst (v := (-1)) dX8_days_25 (by decide) ?_
    exact V.iret rfl dX8_days_26 rfl (by decide) (by decide)
  · refine V.iload_n dX8_days_13 2 rfl ?_
    refine V.i2l dX8_days_14 ?_
    refine V.lconst (v := 0) dX8_days_15 (by decide) ?_
    refine V.ldc2 (v := 5) dX8_days_16 ct_X8_207 ?_
    refine V.callS (M' := mX8_in) (As := [vJ x2.toInt64, vJ 0, vJ 5]) (ψ := (phP S_1)) dX8_days_19 ml_X8_102 mfX8_in rfl ⟨by decide, by decide⟩ ⟨by decide, by decide⟩ (Nat.le_of_ble_eq_true rfl) rfl (kX8_in l G F x2.toInt64 0 5 S_1) (fun a_3 => ?_)
    show V l G mX8_days none phI _ 22 [(0, vR (0, 1)), (1, vI x1), (2, vI x2), (3, vI x3), (4, vI x4)] [vI a_3] (enc S_1) 0 0
    refine V.if_ne 27 dX8_days_22 (by decide) ?_ ?_
    · refine V.iload_n dX8_days_27 3 rfl ?_
      refine V.callS (M' := mX8_noDay) (As := [vI x3]) (ψ := (phP S_1)) dX8_days_28 ml_X8_209 mfX8_noDay rfl ⟨by decide, by decide⟩ ⟨by decide, by decide⟩ (Nat.le_of_ble_eq_true rfl) rfl (kX8_noDay l G F x3 S_1) (fun a_4 => ?_)
      show V l G mX8_days none phI _ 31 [(0, vR (0, 1)), (1, vI x1), (2, vI x2), (3, vI x3), (4, vI x4)] [vI a_4] (enc S_1) 0 0
      refine V.if_ne 48 dX8_days_31 (by decide) ?_ ?_
      · refine V.bipush (v := (-2)) dX8_days_48 (by decide) ?_
        exact V.iret rfl dX8_days_50 rfl (by decide) (by decide)
      · refine V.iload dX8_days_34 4 rfl ?_
        refine V.callS (M' := mX8_noDay) (As := [vI x4]) (ψ := (phP S_1)) dX8_days_36 ml_X8_209 mfX8_noDay rfl ⟨by decide, by decide⟩ ⟨by decide, by decide⟩ (Nat.le_of_ble_eq_true rfl) rfl (kX8_noDay l G F x4 S_1) (fun a_5 => ?_)
        show V l G mX8_days none phI _ 39 [(0, vR (0, 1)), (1, vI x1), (2, vI x2), (3, vI x3), (4, vI x4)] [vI a_5] (enc S_1) 0 0
        refine V.if_ne 48 dX8_days_39 (by decide) ?_ ?_
        · refine V.bipush (v := (-2)) dX8_days_48 (by decide) ?_
          exact V.iret rfl dX8_days_50 rfl (by decide) (by decide)
        · refine V.iload dX8_days_42 4 rfl ?_
          refine V.iload_n dX8_days_44 3 rfl ?_
          refine V.icmp_ge 51 dX8_days_45 (by decide) ?_ ?_
          · refine V.iconst (v := 0) dX8_days_51 (by decide) ?_
            refine V.istore (L' := [(0, vR (0, 1)), (1, vI x1), (2, vI x2), (3, vI x3), (4, vI x4), (5, vI 0)]) dX8_days_52 (by decide) rfl rfl ?_
            refine V.iload_n dX8_days_54 3 rfl ?_
            refine V.istore (L' := [(0, vR (0, 1)), (1, vI x1), (2, vI x2), (3, vI x3), (4, vI x4), (5, vI 0), (6, vI x3)]) dX8_days_55 (by decide) rfl rfl ?_
            exact V.lsub [0, 1, 2, 4, 5, 6] rfl (thX8_days_57 l G F x1 x2 x4 F 0 x3 S_1)
          · refine V.bipush (v := (-2)) dX8_days_48 (by decide) ?_
            exact V.iret rfl dX8_days_50 rfl (by decide) (by decide)
    · refine V.iconst (v := (-1)) dX8_days_25 (by decide) ?_
      exact V.iret rfl dX8_days_26 rfl (by decide) (by decide))

abbrev mX8_stepsTo : vmt := (yX8_stepsTo, cX8_stepsTo, 5, (some .int), { frames := 0, cells := 0, slots := 0, locals := 0 })
theorem mfX8_stepsTo : mfV mX8_stepsTo 2 := ⟨im_X8_stepsTo, se_X8_stepsTo, ini_X8, co_X8_stepsTo, by decide, by decide, by decide +kernel⟩
def jX8_stepsTo_33 (F : Nat) (x2 : Int32) (x3 : Int32) (x4 : Int32) (S : vs) : Option Int32 := if x4 = x2 then some x3 else some (-9)

def hX8_stepsTo_5 (F : Nat) (S : vs) (x2 : Int32) : Nat → Int32 → Int32 → Option Int32
  | 0, _, _ => none
  | n + 1, x3, x4 => if x4 = x2 then jX8_stepsTo_33 F x2 x3 x4 S else if x4 = (-9) then jX8_stepsTo_33 F x2 x3 x4 S else gd (inb x4 (alen 0 S.2.2 (0, 31))) (ltt (S.1 (0, 31) x4.toNatClampNeg) (fun x_2 => ltt (x3 + 1) (fun x_3 => hX8_stepsTo_5 F S x2 n x_3 x_2)))

def fX8_stepsTo (F : Nat) (x1 : Int32) (x2 : Int32) (S : vs) : Option Int32 := hX8_stepsTo_5 F S x2 F 0 x1
theorem tjX8_stepsTo_33 (l : Launch) (G : vg) (F : Nat) (x2 : Int32) (x3 : Int32) (x4 : Int32) (S : vs) : V l G mX8_stepsTo none (phP S) (jX8_stepsTo_33 F x2 x3 x4 S) 33 [(2, vI x2), (3, vI x3), (4, vI x4)] [] (enc S) 0 0 := by
  unfold jX8_stepsTo_33
  refine V.iload dX8_stepsTo_33 2 rfl ?_
  refine V.iload_n dX8_stepsTo_35 0 rfl ?_
  refine V.icmp_ne 43 dX8_stepsTo_36 (by decide) ?_ ?_
  · refine V.bipush (v := (-9)) dX8_stepsTo_43 (by decide) ?_
    exact V.iret rfl dX8_stepsTo_45 rfl (by decide) (by decide)
  · refine V.iload_n dX8_stepsTo_39 1 rfl ?_
    refine V.goto 45 dX8_stepsTo_40 (by decide) ?_
    exact V.iret rfl dX8_stepsTo_45 rfl (by decide) (by decide)

theorem thX8_stepsTo_5 (l : Launch) (G : vg) (F : Nat) (S : vs) (x2 : Int32) : ∀ (n : Nat) (x3 : Int32) (x4 : Int32), V l G mX8_stepsTo none (phP S) (hX8_stepsTo_5 F S x2 n x3 x4) 5 [(0, vR (0, 1)), (2, vI x2), (3, vI x3), (4, vI x4)] [] (enc S) 0 0
  | 0, _, _ => V.nil
  | n + 1, x3, x4 => by
    have ih := thX8_stepsTo_5 l G F S x2 n
    rw [hX8_stepsTo_5]
    refine V.iload dX8_stepsTo_5 3 rfl ?_
    refine V.iload_n dX8_stepsTo_7 1 rfl ?_
    refine V.icmp_eq 33 dX8_stepsTo_8 (by decide) ?_ ?_
    · exact V.lsub [1, 2, 3] rfl (tjX8_stepsTo_33 l G F x2 x3 x4 S)
    · refine V.iload dX8_stepsTo_11 3 rfl ?_
      refine V.bipush (v := (-9)) dX8_stepsTo_13 (by decide) ?_
      refine V.icmp_eq 33 dX8_stepsTo_15 (by decide) ?_ ?_
      · exact V.lsub [1, 2, 3] rfl (tjX8_stepsTo_33 l G F x2 x3 x4 S)
      · refine V.aload_n dX8_stepsTo_18 0 rfl ?_
        refine V.sgR 8 11 dX8_stepsTo_19 gf_X8_34 sh0_1 rfl rfl ?_
        refine V.iload dX8_stepsTo_22 3 rfl ?_
        refine V.chk fun h_1 => ?_
        refine V.sia dX8_stepsTo_24 h_1 ?_
        refine V.lett fun x_2 => ?_
        refine V.istore (L' := [(0, vR (0, 1)), (2, vI x2), (3, vI x3), (4, vI x_2)]) dX8_stepsTo_25 (by decide) rfl rfl ?_
        refine V.lti (e := x3 + 1) (fun x_3 he => ?_)
        refine V.iinc (v := x_3) (L' := [(0, vR (0, 1)), (2, vI x2), (3, vI x_3), (4, vI x_2)]) dX8_stepsTo_27 2 rfl he.symm (by decide) rfl rfl ?_
        refine V.goto 5 dX8_stepsTo_30 (by decide) ?_
        exact (ih x_3 x_2)

theorem kX8_stepsTo (l : Launch) (G : vg) (F : Nat) (x1 : Int32) (x2 : Int32) (S : vs) : Rt l G mX8_stepsTo none (phP S) [vR (0, 1), vI x1, vI x2] (enc S) (fX8_stepsTo F x1 x2 S) := Rt.of rfl (Nat.le_of_ble_eq_true rfl) (by
  show V l G mX8_stepsTo none (phP S) _ 0 [(0, vR (0, 1)), (1, vI x1), (2, vI x2)] [] (enc S) 0 0
  unfold fX8_stepsTo
  refine V.iconst (v := 0) dX8_stepsTo_0 (by decide) ?_
  refine V.istore_n (L' := [(0, vR (0, 1)), (1, vI x1), (2, vI x2), (3, vI 0)]) dX8_stepsTo_1 (by decide) rfl rfl ?_
  refine V.iload_n dX8_stepsTo_2 1 rfl ?_
  refine V.istore (L' := [(0, vR (0, 1)), (1, vI x1), (2, vI x2), (3, vI 0), (4, vI x1)]) dX8_stepsTo_3 (by decide) rfl rfl ?_
  exact V.lsub [0, 2, 3, 4] rfl (thX8_stepsTo_5 l G F S x2 F 0 x1))

abbrev mX8_copy : vmt := (yX8_copy, cX8_copy, 4, (some .int), { frames := 2, cells := 0, slots := 0, locals := 46 })
theorem mfX8_copy : mfV mX8_copy 2 := ⟨im_X8_copy, se_X8_copy, ini_X8, co_X8_copy, by decide, by decide, by decide +kernel⟩
def jX8_copy_49 (F : Nat) (x1 : Int32) (x2 : Int32) (S : vs) : Option (Int32 × vs) := gd (inb x1 (alen 0 S.2.2 (0, 31))) (ltt (S.1 (0, 31) x1.toNatClampNeg) (fun x_4 => stp (s2 S (0, 31) x1.toNatClampNeg x2) (fun S_5 => some (x_4, S_5))))

def jX8_copy_29 (F : Nat) (x1 : Int32) (x2 : Int32) (S : vs) : Option (Int32 × vs) := if x2 = (-9) then jX8_copy_49 F x1 x2 S else (fX8_stepsTo F x2 x1 S).bind (fun a_6 => if a_6 = (-9) then jX8_copy_49 F x1 x2 S else some ((-3), S))

def fX8_copy (F : Nat) (x1 : Int32) (x2 : Int32) (S : vs) : Option (Int32 × vs) := stp (s2 S (0, 1) 0 0) (fun S_1 => (fX8_noSide F x1 S_1).bind (fun a_2 => if a_2 = 0 then if x2 = (-9) then jX8_copy_29 F x1 x2 S_1 else (fX8_noSide F x2 S_1).bind (fun a_7 => if a_7 = 0 then jX8_copy_29 F x1 x2 S_1 else some ((-1), S_1)) else some ((-1), S_1)))
theorem tjX8_copy_49 (l : Launch) (G : vg) (F : Nat) (x1 : Int32) (x2 : Int32) (S : vs) : V l G mX8_copy none phI (jX8_copy_49 F x1 x2 S) 49 [(0, vR (0, 1)), (1, vI x1), (2, vI x2)] [] (enc S) 0 0 := by
  unfold jX8_copy_49
  refine V.aload_n dX8_copy_49 0 rfl ?_
  refine V.sgR 8 11 dX8_copy_50 gf_X8_34 sh0_1 rfl rfl ?_
  refine V.iload_n dX8_copy_53 1 rfl ?_
  refine V.chk fun h_3 => ?_
  refine V.sia dX8_copy_54 h_3 ?_
  refine V.lett fun x_4 => ?_
  refine V.istore_n (L' := [(0, vR (0, 1)), (1, vI x1), (2, vI x2), (3, vI x_4)]) dX8_copy_55 (by decide) rfl rfl ?_
  refine V.aload_n dX8_copy_56 0 rfl ?_
  refine V.sgR 8 11 dX8_copy_57 gf_X8_34 sh0_1 rfl rfl ?_
  refine V.iload_n dX8_copy_60 1 rfl ?_
  refine V.iload_n dX8_copy_61 2 rfl ?_
  refine V.sis dX8_copy_62 h_3 ?_
  refine V.sst fun S_5 => ?_
  refine V.iload_n dX8_copy_63 3 rfl ?_
  exact V.iret rfl dX8_copy_64 rfl (by decide) (by decide)

theorem tjX8_copy_29 (l : Launch) (G : vg) (F : Nat) (x1 : Int32) (x2 : Int32) (S : vs) : V l G mX8_copy none phI (jX8_copy_29 F x1 x2 S) 29 [(0, vR (0, 1)), (1, vI x1), (2, vI x2)] [] (enc S) 0 0 := by
  unfold jX8_copy_29
  refine V.iload_n dX8_copy_29 2 rfl ?_
  refine V.bipush (v := (-9)) dX8_copy_30 (by decide) ?_
  refine V.icmp_eq 49 dX8_copy_32 (by decide) ?_ ?_
  · exact (tjX8_copy_49 l G F x1 x2 S)
  · refine V.aload_n dX8_copy_35 0 rfl ?_
    refine V.iload_n dX8_copy_36 2 rfl ?_
    refine V.iload_n dX8_copy_37 1 rfl ?_
    refine V.callV (M' := mX8_stepsTo) (As := [vI x2, vI x1]) (ψ := (phP S)) dX8_copy_38 ml_X8_225 mfX8_stepsTo rfl ⟨by decide, by decide⟩ ⟨by decide, by decide⟩ (enc_at rfl sh0_1) rfl (Nat.le_of_ble_eq_true rfl) rfl (kX8_stepsTo l G F x2 x1 S) (fun a_6 => ?_)
    show V l G mX8_copy none phI _ 41 [(0, vR (0, 1)), (1, vI x1), (2, vI x2)] [vI a_6] (enc S) 0 0
    refine V.bipush (v := (-9)) dX8_copy_41 (by decide) ?_
    refine V.icmp_eq 49 dX8_copy_43 (by decide) ?_ ?_
    · exact (tjX8_copy_49 l G F x1 x2 S)
    · refine V.bipush (v := (-3)) dX8_copy_46 (by decide) ?_
      exact V.iret rfl dX8_copy_48 rfl (by decide) (by decide)

theorem kX8_copy (l : Launch) (G : vg) (F : Nat) (x1 : Int32) (x2 : Int32) (S : vs) : Rt l G mX8_copy none phI [vR (0, 1), vI x1, vI x2] (enc S) (fX8_copy F x1 x2 S) := Rt.of rfl (Nat.le_of_ble_eq_true rfl) (by
  show V l G mX8_copy none phI _ 0 [(0, vR (0, 1)), (1, vI x1), (2, vI x2)] [] (enc S) 0 0
  unfold fX8_copy
  refine V.aload_n dX8_copy_0 0 rfl ?_
  refine V.iconst (v := 0) dX8_copy_1 (by decide) ?_
  refine V.spI 8 0 dX8_copy_2 pf_X8_95 sh0_1 rfl rfl ?_
  refine V.sst fun S_1 => ?_
  refine V.aload_n dX8_copy_5 0 rfl ?_
  refine V.iload_n dX8_copy_6 1 rfl ?_
  refine V.callV (M' := mX8_noSide) (As := [vI x1]) (ψ := (phP S_1)) dX8_copy_7 ml_X8_110 mfX8_noSide rfl ⟨by decide, by decide⟩ ⟨by decide, by decide⟩ (enc_at rfl sh0_1) rfl (Nat.le_of_ble_eq_true rfl) rfl (kX8_noSide l G F x1 S_1) (fun a_2 => ?_)
  show V l G mX8_copy none phI _ 10 [(0, vR (0, 1)), (1, vI x1), (2, vI x2)] [vI a_2] (enc S_1) 0 0
  refine V.if_ne 27 dX8_copy_10 (by decide) ?_ ?_
  · refine V.iconst (v := (-1)) dX8_copy_27 (by decide) ?_
    exact V.iret rfl dX8_copy_28 rfl (by decide) (by decide)
  · refine V.iload_n dX8_copy_13 2 rfl ?_
    refine V.bipush (v := (-9)) dX8_copy_14 (by decide) ?_
    refine V.icmp_eq 29 dX8_copy_16 (by decide) ?_ ?_
    · exact (tjX8_copy_29 l G F x1 x2 S_1)
    · refine V.aload_n dX8_copy_19 0 rfl ?_
      refine V.iload_n dX8_copy_20 2 rfl ?_
      refine V.callV (M' := mX8_noSide) (As := [vI x2]) (ψ := (phP S_1)) dX8_copy_21 ml_X8_110 mfX8_noSide rfl ⟨by decide, by decide⟩ ⟨by decide, by decide⟩ (enc_at rfl sh0_1) rfl (Nat.le_of_ble_eq_true rfl) rfl (kX8_noSide l G F x2 S_1) (fun a_7 => ?_)
      show V l G mX8_copy none phI _ 24 [(0, vR (0, 1)), (1, vI x1), (2, vI x2)] [vI a_7] (enc S_1) 0 0
      refine V.if_eq 29 dX8_copy_24 (by decide) ?_ ?_
      · exact (tjX8_copy_29 l G F x1 x2 S_1)
      · refine V.iconst (v := (-1)) dX8_copy_27 (by decide) ?_
        exact V.iret rfl dX8_copy_28 rfl (by decide) (by decide))

abbrev mX8_copies : vmt := (yX8_copies, cX8_copies, 4, (some .int), { frames := 2, cells := 0, slots := 0, locals := 46 })
theorem mfX8_copies : mfV mX8_copies 1 := ⟨im_X8_copies, se_X8_copies, ini_X8, co_X8_copies, by decide, by decide, by decide +kernel⟩
def jX8_copies_46 (k19 : Int32 → Int32 → vs → Option (Int32 × vs)) (F : Nat) (x1 : Int32) (x3 : Int32) (sk0 : Int32) (sk1 : Int32) (S : vs) : Option (Int32 × vs) := ltt (sk1 ||| sk0) (fun x_4 => ltt (x3 + 1) (fun x_5 => k19 x_4 x_5 S))

def hX8_copies_19 (F : Nat) (x1 : Int32) : Nat → Int32 → Int32 → vs → Option (Int32 × vs)
  | 0, _, _, _ => none
  | n + 1, x2, x3, S => if (S.1 (0, 1) 1) ≤ x3 then some (x2, S) else (fX8_stepsTo F x3 x1 S).bind (fun a_3 => if a_3 = (-9) then jX8_copies_46 (hX8_copies_19 F x1 n) F x1 x3 0 x2 S else jX8_copies_46 (hX8_copies_19 F x1 n) F x1 x3 ((1 : Int32) <<< (x3 &&& 31)) x2 S)

def fX8_copies (F : Nat) (x1 : Int32) (S : vs) : Option (Int32 × vs) := stp (s2 S (0, 1) 0 0) (fun S_1 => (fX8_noSide F x1 S_1).bind (fun a_2 => if a_2 = 0 then hX8_copies_19 F x1 F 0 0 S_1 else some ((-1), S_1)))
theorem tjX8_copies_46 (l : Launch) (G : vg) (F : Nat) (x1 : Int32) (x3 : Int32) (sk0 : Int32) (sk1 : Int32) (S : vs) (k19 : Int32 → Int32 → vs → Option (Int32 × vs)) (H19 : ∀ (z2 : Int32), ∀ (z3 : Int32), ∀ (Sz : vs), V l G mX8_copies none phI (k19 z2 z3 Sz) 19 [(0, vR (0, 1)), (1, vI x1), (2, vI z2), (3, vI z3)] [] (enc Sz) 0 0) : V l G mX8_copies none phI (jX8_copies_46 k19 F x1 x3 sk0 sk1 S) 46 [(0, vR (0, 1)), (1, vI x1), (3, vI x3)] [vI sk0, vI sk1] (enc S) 0 0 := by
  unfold jX8_copies_46
  refine V.ior dX8_copies_46 ?_
  refine V.lett fun x_4 => ?_
  refine V.istore_n (L' := [(0, vR (0, 1)), (1, vI x1), (3, vI x3), (2, vI x_4)]) dX8_copies_47 (by decide) rfl rfl ?_
  refine V.lti (e := x3 + 1) (fun x_5 he => ?_)
  refine V.iinc (v := x_5) (L' := [(0, vR (0, 1)), (1, vI x1), (3, vI x_5), (2, vI x_4)]) dX8_copies_48 2 rfl he.symm (by decide) rfl rfl ?_
  refine V.goto 19 dX8_copies_51 (by decide) ?_
  exact V.lsub [0, 1, 3, 2] rfl (H19 x_4 x_5 S)

theorem thX8_copies_19 (l : Launch) (G : vg) (F : Nat) (x1 : Int32) : ∀ (n : Nat) (x2 : Int32) (x3 : Int32) (S : vs), V l G mX8_copies none phI (hX8_copies_19 F x1 n x2 x3 S) 19 [(0, vR (0, 1)), (1, vI x1), (2, vI x2), (3, vI x3)] [] (enc S) 0 0
  | 0, _, _, _ => V.nil
  | n + 1, x2, x3, S => by
    have ih := thX8_copies_19 l G F x1 n
    rw [hX8_copies_19]
    refine V.iload_n dX8_copies_19 3 rfl ?_
    refine V.aload_n dX8_copies_20 0 rfl ?_
    refine V.sgI 8 1 dX8_copies_21 gf_X8_99 sh0_1 rfl rfl ?_
    refine V.icmp_ge 54 dX8_copies_24 (by decide) ?_ ?_
    · refine V.iload_n dX8_copies_54 2 rfl ?_
      exact V.iret rfl dX8_copies_55 rfl (by decide) (by decide)
    · refine V.iload_n dX8_copies_27 2 rfl ?_
      refine V.aload_n dX8_copies_28 0 rfl ?_
      refine V.iload_n dX8_copies_29 3 rfl ?_
      refine V.iload_n dX8_copies_30 1 rfl ?_
      refine V.callV (M' := mX8_stepsTo) (As := [vI x3, vI x1]) (ψ := (phP S)) dX8_copies_31 ml_X8_225 mfX8_stepsTo rfl ⟨by decide, by decide⟩ ⟨by decide, by decide⟩ (enc_at rfl sh0_1) rfl (Nat.le_of_ble_eq_true rfl) rfl (kX8_stepsTo l G F x3 x1 S) (fun a_3 => ?_)
      show V l G mX8_copies none phI _ 34 [(0, vR (0, 1)), (1, vI x1), (2, vI x2), (3, vI x3)] [vI a_3, vI x2] (enc S) 0 0
      refine V.bipush (v := (-9)) dX8_copies_34 (by decide) ?_
      refine V.icmp_eq 45 dX8_copies_36 (by decide) ?_ ?_
      · refine V.iconst (v := 0) dX8_copies_45 (by decide) ?_
        exact V.lsub [0, 1, 3] rfl (tjX8_copies_46 l G F x1 x3 0 x2 S (hX8_copies_19 F x1 n) ih)
      · refine V.iconst (v := 1) dX8_copies_39 (by decide) ?_
        refine V.iload_n dX8_copies_40 3 rfl ?_
        refine V.ishl dX8_copies_41 ?_
        refine V.goto 46 dX8_copies_42 (by decide) ?_
        exact V.lsub [0, 1, 3] rfl (tjX8_copies_46 l G F x1 x3 ((1 : Int32) <<< (x3 &&& 31)) x2 S (hX8_copies_19 F x1 n) ih)

theorem kX8_copies (l : Launch) (G : vg) (F : Nat) (x1 : Int32) (S : vs) : Rt l G mX8_copies none phI [vR (0, 1), vI x1] (enc S) (fX8_copies F x1 S) := Rt.of rfl (Nat.le_of_ble_eq_true rfl) (by
  show V l G mX8_copies none phI _ 0 [(0, vR (0, 1)), (1, vI x1)] [] (enc S) 0 0
  unfold fX8_copies
  refine V.aload_n dX8_copies_0 0 rfl ?_
  refine V.iconst (v := 0) dX8_copies_1 (by decide) ?_
  refine V.spI 8 0 dX8_copies_2 pf_X8_95 sh0_1 rfl rfl ?_
  refine V.sst fun S_1 => ?_
  refine V.aload_n dX8_copies_5 0 rfl ?_
  refine V.iload_n dX8_copies_6 1 rfl ?_
  refine V.callV (M' := mX8_noSide) (As := [vI x1]) (ψ := (phP S_1)) dX8_copies_7 ml_X8_110 mfX8_noSide rfl ⟨by decide, by decide⟩ ⟨by decide, by decide⟩ (enc_at rfl sh0_1) rfl (Nat.le_of_ble_eq_true rfl) rfl (kX8_noSide l G F x1 S_1) (fun a_2 => ?_)
  show V l G mX8_copies none phI _ 10 [(0, vR (0, 1)), (1, vI x1)] [vI a_2] (enc S_1) 0 0
  refine V.if_eq 15 dX8_copies_10 (by decide) ?_ ?_
  · refine V.iconst (v := 0) dX8_copies_15 (by decide) ?_
    refine V.istore_n (L' := [(0, vR (0, 1)), (1, vI x1), (2, vI 0)]) dX8_copies_16 (by decide) rfl rfl ?_
    refine V.iconst (v := 0) dX8_copies_17 (by decide) ?_
    refine V.istore_n (L' := [(0, vR (0, 1)), (1, vI x1), (2, vI 0), (3, vI 0)]) dX8_copies_18 (by decide) rfl rfl ?_
    exact (thX8_copies_19 l G F x1 F 0 0 S_1)
  · refine V.iconst (v := (-1)) dX8_copies_13 (by decide) ?_
    exact V.iret rfl dX8_copies_14 rfl (by decide) (by decide))

abbrev mX8_clearest : vmt := (yX8_clearest, cX8_clearest, 6, (some .int), { frames := 2, cells := 0, slots := 0, locals := 46 })
theorem mfX8_clearest : mfV mX8_clearest 1 := ⟨im_X8_clearest, se_X8_clearest, ini_X8, co_X8_clearest, by decide, by decide, by decide +kernel⟩
def jX8_clearest_101 (k19 : Int32 → Int32 → vs → Option (Int32 × vs)) (F : Nat) (x1 : Int32) (x2 : Int32) (x3 : Int32) (S : vs) : Option (Int32 × vs) := ltt (x3 + 1) (fun x_5 => k19 x2 x_5 S)

def jX8_clearest_99 (k19 : Int32 → Int32 → vs → Option (Int32 × vs)) (F : Nat) (x1 : Int32) (x3 : Int32) (S : vs) : Option (Int32 × vs) := jX8_clearest_101 k19 F x1 x3 x3 S

def hX8_clearest_19 (F : Nat) (x1 : Int32) : Nat → Int32 → Int32 → vs → Option (Int32 × vs)
  | 0, _, _, _ => none
  | n + 1, x2, x3, S => if (S.1 (0, 1) 1) ≤ x3 then some (x2, S) else (fX8_stepsTo F x3 x1 S).bind (fun a_3 => (fX8_stepsTo F x2 x1 S).bind (fun a_4 => if a_3 = (-9) then jX8_clearest_101 (hX8_clearest_19 F x1 n) F x1 x2 x3 S else gd (inb x3 (alen 0 S.2.2 (0, 24))) (gd (inb x2 (alen 0 S.2.2 (0, 24))) (if (S.1 (0, 24) x2.toNatClampNeg) < (S.1 (0, 24) x3.toNatClampNeg) then jX8_clearest_99 (hX8_clearest_19 F x1 n) F x1 x3 S else if (S.1 (0, 24) x3.toNatClampNeg) = (S.1 (0, 24) x2.toNatClampNeg) then if a_3 < a_4 then jX8_clearest_99 (hX8_clearest_19 F x1 n) F x1 x3 S else if a_3 = a_4 then if x2 ≤ x3 then jX8_clearest_101 (hX8_clearest_19 F x1 n) F x1 x2 x3 S else jX8_clearest_99 (hX8_clearest_19 F x1 n) F x1 x3 S else jX8_clearest_101 (hX8_clearest_19 F x1 n) F x1 x2 x3 S else jX8_clearest_101 (hX8_clearest_19 F x1 n) F x1 x2 x3 S))))

def fX8_clearest (F : Nat) (x1 : Int32) (S : vs) : Option (Int32 × vs) := stp (s2 S (0, 1) 0 0) (fun S_1 => (fX8_noSide F x1 S_1).bind (fun a_2 => if a_2 = 0 then hX8_clearest_19 F x1 F x1 0 S_1 else some ((-1), S_1)))
theorem tjX8_clearest_101 (l : Launch) (G : vg) (F : Nat) (x1 : Int32) (x2 : Int32) (x3 : Int32) (S : vs) (k19 : Int32 → Int32 → vs → Option (Int32 × vs)) (H19 : ∀ (z2 : Int32), ∀ (z3 : Int32), ∀ (Sz : vs), V l G mX8_clearest none phI (k19 z2 z3 Sz) 19 [(0, vR (0, 1)), (1, vI x1), (2, vI z2), (3, vI z3)] [] (enc Sz) 0 0) : V l G mX8_clearest none phI (jX8_clearest_101 k19 F x1 x2 x3 S) 101 [(0, vR (0, 1)), (1, vI x1), (2, vI x2), (3, vI x3)] [] (enc S) 0 0 := by
  unfold jX8_clearest_101
  refine V.lti (e := x3 + 1) (fun x_5 he => ?_)
  refine V.iinc (v := x_5) (L' := [(0, vR (0, 1)), (1, vI x1), (2, vI x2), (3, vI x_5)]) dX8_clearest_101 3 rfl he.symm (by decide) rfl rfl ?_
  refine V.goto 19 dX8_clearest_104 (by decide) ?_
  exact (H19 x2 x_5 S)

theorem tjX8_clearest_99 (l : Launch) (G : vg) (F : Nat) (x1 : Int32) (x3 : Int32) (S : vs) (k19 : Int32 → Int32 → vs → Option (Int32 × vs)) (H19 : ∀ (z2 : Int32), ∀ (z3 : Int32), ∀ (Sz : vs), V l G mX8_clearest none phI (k19 z2 z3 Sz) 19 [(0, vR (0, 1)), (1, vI x1), (2, vI z2), (3, vI z3)] [] (enc Sz) 0 0) : V l G mX8_clearest none phI (jX8_clearest_99 k19 F x1 x3 S) 99 [(0, vR (0, 1)), (1, vI x1), (3, vI x3)] [] (enc S) 0 0 := by
  unfold jX8_clearest_99
  refine V.iload_n dX8_clearest_99 2 rfl ?_
  refine V.istore_n (L' := [(0, vR (0, 1)), (1, vI x1), (3, vI x3), (2, vI x3)]) dX8_clearest_100 (by decide) rfl rfl ?_
  exact V.lsub [0, 1, 3, 2] rfl (tjX8_clearest_101 l G F x1 x3 x3 S k19 H19)

theorem thX8_clearest_19 (l : Launch) (G : vg) (F : Nat) (x1 : Int32) : ∀ (n : Nat) (x2 : Int32) (x3 : Int32) (S : vs), V l G mX8_clearest none phI (hX8_clearest_19 F x1 n x2 x3 S) 19 [(0, vR (0, 1)), (1, vI x1), (2, vI x2), (3, vI x3)] [] (enc S) 0 0
  | 0, _, _, _ => V.nil
  | n + 1, x2, x3, S => by
    have ih := thX8_clearest_19 l G F x1 n
    rw [hX8_clearest_19]
    refine V.iload_n dX8_clearest_19 3 rfl ?_
    refine V.aload_n dX8_clearest_20 0 rfl ?_
    refine V.sgI 8 1 dX8_clearest_21 gf_X8_99 sh0_1 rfl rfl ?_
    refine V.icmp_ge 107 dX8_clearest_24 (by decide) ?_ ?_
    · refine V.iload_n dX8_clearest_107 2 rfl ?_
      exact V.iret rfl dX8_clearest_108 rfl (by decide) (by decide)
    · refine V.aload_n dX8_clearest_27 0 rfl ?_
      refine V.iload_n dX8_clearest_28 3 rfl ?_
      refine V.iload_n dX8_clearest_29 1 rfl ?_
      refine V.callV (M' := mX8_stepsTo) (As := [vI x3, vI x1]) (ψ := (phP S)) dX8_clearest_30 ml_X8_225 mfX8_stepsTo rfl ⟨by decide, by decide⟩ ⟨by decide, by decide⟩ (enc_at rfl sh0_1) rfl (Nat.le_of_ble_eq_true rfl) rfl (kX8_stepsTo l G F x3 x1 S) (fun a_3 => ?_)
      show V l G mX8_clearest none phI _ 33 [(0, vR (0, 1)), (1, vI x1), (2, vI x2), (3, vI x3)] [vI a_3] (enc S) 0 0
      refine V.istore (L' := [(0, vR (0, 1)), (1, vI x1), (2, vI x2), (3, vI x3), (4, vI a_3)]) dX8_clearest_33 (by decide) rfl rfl ?_
      refine V.aload_n dX8_clearest_35 0 rfl ?_
      refine V.iload_n dX8_clearest_36 2 rfl ?_
      refine V.iload_n dX8_clearest_37 1 rfl ?_
      refine V.callV (M' := mX8_stepsTo) (As := [vI x2, vI x1]) (ψ := (phP S)) dX8_clearest_38 ml_X8_225 mfX8_stepsTo rfl ⟨by decide, by decide⟩ ⟨by decide, by decide⟩ (enc_at rfl sh0_1) rfl (Nat.le_of_ble_eq_true rfl) rfl (kX8_stepsTo l G F x2 x1 S) (fun a_4 => ?_)
      show V l G mX8_clearest none phI _ 41 [(0, vR (0, 1)), (1, vI x1), (2, vI x2), (3, vI x3), (4, vI a_3)] [vI a_4] (enc S) 0 0
      refine V.istore (L' := [(0, vR (0, 1)), (1, vI x1), (2, vI x2), (3, vI x3), (4, vI a_3), (5, vI a_4)]) dX8_clearest_41 (by decide) rfl rfl ?_
      refine V.iload dX8_clearest_43 4 rfl ?_
      refine V.bipush (v := (-9)) dX8_clearest_45 (by decide) ?_
      refine V.icmp_eq 101 dX8_clearest_47 (by decide) ?_ ?_
      · exact V.lsub [0, 1, 2, 3] rfl (tjX8_clearest_101 l G F x1 x2 x3 S (hX8_clearest_19 F x1 n) ih)
      · refine V.aload_n dX8_clearest_50 0 rfl ?_
        refine V.sgR 8 4 dX8_clearest_51 gf_X8_13 sh0_1 rfl rfl ?_
        refine V.iload_n dX8_clearest_54 3 rfl ?_
        refine V.chk fun h_6 => ?_
        refine V.sia dX8_clearest_55 h_6 ?_
        refine V.aload_n dX8_clearest_56 0 rfl ?_
        refine V.sgR 8 4 dX8_clearest_57 gf_X8_13 sh0_1 rfl rfl ?_
        refine V.iload_n dX8_clearest_60 2 rfl ?_
        refine V.chk fun h_7 => ?_
        refine V.sia dX8_clearest_61 h_7 ?_
        refine V.icmp_gt 99 dX8_clearest_62 (by decide) ?_ ?_
        · exact V.lsub [0, 1, 3] rfl (tjX8_clearest_99 l G F x1 x3 S (hX8_clearest_19 F x1 n) ih)
        · refine V.aload_n dX8_clearest_65 0 rfl ?_
          refine V.sgR 8 4 dX8_clearest_66 gf_X8_13 sh0_1 rfl rfl ?_
          refine V.iload_n dX8_clearest_69 3 rfl ?_
          refine V.sia dX8_clearest_70 h_6 ?_
          refine V.aload_n dX8_clearest_71 0 rfl ?_
          refine V.sgR 8 4 dX8_clearest_72 gf_X8_13 sh0_1 rfl rfl ?_
          refine V.iload_n dX8_clearest_75 2 rfl ?_
          refine V.sia dX8_clearest_76 h_7 ?_
          refine V.icmp_ne 101 dX8_clearest_77 (by decide) ?_ ?_
          · exact V.lsub [0, 1, 2, 3] rfl (tjX8_clearest_101 l G F x1 x2 x3 S (hX8_clearest_19 F x1 n) ih)
          · refine V.iload dX8_clearest_80 4 rfl ?_
            refine V.iload dX8_clearest_82 5 rfl ?_
            refine V.icmp_lt 99 dX8_clearest_84 (by decide) ?_ ?_
            · exact V.lsub [0, 1, 3] rfl (tjX8_clearest_99 l G F x1 x3 S (hX8_clearest_19 F x1 n) ih)
            · refine V.iload dX8_clearest_87 4 rfl ?_
              refine V.iload dX8_clearest_89 5 rfl ?_
              refine V.icmp_ne 101 dX8_clearest_91 (by decide) ?_ ?_
              · exact V.lsub [0, 1, 2, 3] rfl (tjX8_clearest_101 l G F x1 x2 x3 S (hX8_clearest_19 F x1 n) ih)
              · refine V.iload_n dX8_clearest_94 3 rfl ?_
                refine V.iload_n dX8_clearest_95 2 rfl ?_
                refine V.icmp_ge 101 dX8_clearest_96 (by decide) ?_ ?_
                · exact V.lsub [0, 1, 2, 3] rfl (tjX8_clearest_101 l G F x1 x2 x3 S (hX8_clearest_19 F x1 n) ih)
                · exact V.lsub [0, 1, 3] rfl (tjX8_clearest_99 l G F x1 x3 S (hX8_clearest_19 F x1 n) ih)

theorem kX8_clearest (l : Launch) (G : vg) (F : Nat) (x1 : Int32) (S : vs) : Rt l G mX8_clearest none phI [vR (0, 1), vI x1] (enc S) (fX8_clearest F x1 S) := Rt.of rfl (Nat.le_of_ble_eq_true rfl) (by
  show V l G mX8_clearest none phI _ 0 [(0, vR (0, 1)), (1, vI x1)] [] (enc S) 0 0
  unfold fX8_clearest
  refine V.aload_n dX8_clearest_0 0 rfl ?_
  refine V.iconst (v := 0) dX8_clearest_1 (by decide) ?_
  refine V.spI 8 0 dX8_clearest_2 pf_X8_95 sh0_1 rfl rfl ?_
  refine V.sst fun S_1 => ?_
  refine V.aload_n dX8_clearest_5 0 rfl ?_
  refine V.iload_n dX8_clearest_6 1 rfl ?_
  refine V.callV (M' := mX8_noSide) (As := [vI x1]) (ψ := (phP S_1)) dX8_clearest_7 ml_X8_110 mfX8_noSide rfl ⟨by decide, by decide⟩ ⟨by decide, by decide⟩ (enc_at rfl sh0_1) rfl (Nat.le_of_ble_eq_true rfl) rfl (kX8_noSide l G F x1 S_1) (fun a_2 => ?_)
  show V l G mX8_clearest none phI _ 10 [(0, vR (0, 1)), (1, vI x1)] [vI a_2] (enc S_1) 0 0
  refine V.if_eq 15 dX8_clearest_10 (by decide) ?_ ?_
  · refine V.iload_n dX8_clearest_15 1 rfl ?_
    refine V.istore_n (L' := [(0, vR (0, 1)), (1, vI x1), (2, vI x1)]) dX8_clearest_16 (by decide) rfl rfl ?_
    refine V.iconst (v := 0) dX8_clearest_17 (by decide) ?_
    refine V.istore_n (L' := [(0, vR (0, 1)), (1, vI x1), (2, vI x1), (3, vI 0)]) dX8_clearest_18 (by decide) rfl rfl ?_
    exact (thX8_clearest_19 l G F x1 F x1 0 S_1)
  · refine V.iconst (v := (-1)) dX8_clearest_13 (by decide) ?_
    exact V.iret rfl dX8_clearest_14 rfl (by decide) (by decide))

