abbrev mX8_span : vmt := (yX8_span, cX8_span, 7, (some .int), { frames := 3, cells := 0, slots := 0, locals := 74 })
theorem mfX8_span : mfV mX8_span 1 := ⟨im_X8_span, se_X8_span, ini_X8, co_X8_span, by decide, by decide, by decide +kernel⟩
def jX8_span_170 (k40 : Int32 → vs → Option (Int32 × vs)) (k69 : Int32 → Int32 → vs → Option (Int32 × vs)) (F : Nat) (x1 : Int32) (x3 : Int32) (x4 : Int32) (x5 : Int32) (x6 : Int32) (S : vs) : Option (Int32 × vs) := ltt (x6 + 1) (fun x_7 => k69 x5 x_7 S)

def jX8_span_168 (k40 : Int32 → vs → Option (Int32 × vs)) (k69 : Int32 → Int32 → vs → Option (Int32 × vs)) (F : Nat) (x1 : Int32) (x3 : Int32) (x4 : Int32) (x6 : Int32) (sk0 : Int32) (S : vs) : Option (Int32 × vs) := jX8_span_170 k40 k69 F x1 x3 x4 sk0 x6 S

def jX8_span_166 (k40 : Int32 → vs → Option (Int32 × vs)) (k69 : Int32 → Int32 → vs → Option (Int32 × vs)) (F : Nat) (x1 : Int32) (x3 : Int32) (x4 : Int32) (x5 : Int32) (x6 : Int32) (S : vs) : Option (Int32 × vs) := jX8_span_168 k40 k69 F x1 x3 x4 x6 x5 S

def jX8_span_124 (k40 : Int32 → vs → Option (Int32 × vs)) (k69 : Int32 → Int32 → vs → Option (Int32 × vs)) (F : Nat) (x1 : Int32) (x3 : Int32) (x4 : Int32) (x6 : Int32) (sk0 : Int32) (S : vs) : Option (Int32 × vs) := gd (inb x6 (alen 0 S.2.2 (0, 35))) (if ((S.1 (0, 35) x6.toNatClampNeg) - 1) ≤ x4 then jX8_span_166 k40 k69 F x1 x3 x4 sk0 x6 S else if sk0 ≤ ((S.1 (0, 35) x6.toNatClampNeg) - 1) then jX8_span_166 k40 k69 F x1 x3 x4 sk0 x6 S else jX8_span_168 k40 k69 F x1 x3 x4 x6 ((S.1 (0, 35) x6.toNatClampNeg) - 1) S)

def jX8_span_122 (k40 : Int32 → vs → Option (Int32 × vs)) (k69 : Int32 → Int32 → vs → Option (Int32 × vs)) (F : Nat) (x1 : Int32) (x3 : Int32) (x4 : Int32) (x5 : Int32) (x6 : Int32) (S : vs) : Option (Int32 × vs) := jX8_span_124 k40 k69 F x1 x3 x4 x6 x5 S

def hX8_span_69 (k40 : Int32 → vs → Option (Int32 × vs)) (F : Nat) (x1 : Int32) (x3 : Int32) (x4 : Int32) : Nat → Int32 → Int32 → vs → Option (Int32 × vs)
  | 0, _, _, _ => none
  | n + 1, x5, x6, S => if (S.1 (0, 1) 14) ≤ x6 then k40 x5 S else (fX8_isOf F x6 x1 S).bind (fun a_6 => if a_6 = 0 then jX8_span_170 k40 (hX8_span_69 k40 F x1 x3 x4 n) F x1 x3 x4 x5 x6 S else gd (inb x6 (alen 0 S.2.2 (0, 36))) (if (S.1 (0, 36) x6.toNatClampNeg) ≤ x4 then jX8_span_122 k40 (hX8_span_69 k40 F x1 x3 x4 n) F x1 x3 x4 x5 x6 S else if x5 ≤ (S.1 (0, 36) x6.toNatClampNeg) then jX8_span_122 k40 (hX8_span_69 k40 F x1 x3 x4 n) F x1 x3 x4 x5 x6 S else jX8_span_124 k40 (hX8_span_69 k40 F x1 x3 x4 n) F x1 x3 x4 x6 (S.1 (0, 36) x6.toNatClampNeg) S))

def hX8_span_40 (F : Nat) (x1 : Int32) (x3 : Int32) : Nat → Int32 → vs → Option (Int32 × vs)
  | 0, _, _ => none
  | n + 1, x4, S => if 30000 ≤ x4 then some (x4, S) else (fX8_weighsOf F x1 (x4 + 1) S).bind (fun a_5 => if a_5 = x3 then hX8_span_69 (hX8_span_40 F x1 x3 n) F x1 x3 x4 F 30000 0 S else some (x4, S))

def fX8_span (F : Nat) (x1 : Int32) (S : vs) : Option (Int32 × vs) := stp (s2 S (0, 1) 0 0) (fun S_1 => (fX8_noSide F x1 S_1).bind (fun a_2 => if a_2 = 0 then (fX8_speedOf F x1 S_1).bind (fun a_3 => if a_3 = (-9) then some ((-9), S_1) else (fX8_weighsOf F x1 a_3 S_1).bind (fun a_4 => hX8_span_40 F x1 a_4 F a_3 S_1)) else some ((-1), S_1)))
theorem tjX8_span_170 (l : Launch) (G : vg) (F : Nat) (x1 : Int32) (x3 : Int32) (x4 : Int32) (x5 : Int32) (x6 : Int32) (S : vs) (k40 : Int32 → vs → Option (Int32 × vs)) (H40 : ∀ (z4 : Int32), ∀ (Sz : vs), V l G mX8_span none phI (k40 z4 Sz) 40 [(0, vR (0, 1)), (1, vI x1), (3, vI x3), (4, vI z4)] [] (enc Sz) 0 0) (k69 : Int32 → Int32 → vs → Option (Int32 × vs)) (H69 : ∀ (z5 : Int32), ∀ (z6 : Int32), ∀ (Sz : vs), V l G mX8_span none phI (k69 z5 z6 Sz) 69 [(0, vR (0, 1)), (1, vI x1), (3, vI x3), (4, vI x4), (5, vI z5), (6, vI z6)] [] (enc Sz) 0 0) : V l G mX8_span none phI (jX8_span_170 k40 k69 F x1 x3 x4 x5 x6 S) 170 [(0, vR (0, 1)), (1, vI x1), (3, vI x3), (4, vI x4), (5, vI x5), (6, vI x6)] [] (enc S) 0 0 := by
  unfold jX8_span_170
  refine V.lti (e := x6 + 1) (fun x_7 he => ?_)
  refine V.iinc (v := x_7) (L' := [(0, vR (0, 1)), (1, vI x1), (3, vI x3), (4, vI x4), (5, vI x5), (6, vI x_7)]) dX8_span_170 5 rfl he.symm (by decide) rfl rfl ?_
  refine V.goto 69 dX8_span_173 (by decide) ?_
  exact (H69 x5 x_7 S)

theorem tjX8_span_168 (l : Launch) (G : vg) (F : Nat) (x1 : Int32) (x3 : Int32) (x4 : Int32) (x6 : Int32) (sk0 : Int32) (S : vs) (k40 : Int32 → vs → Option (Int32 × vs)) (H40 : ∀ (z4 : Int32), ∀ (Sz : vs), V l G mX8_span none phI (k40 z4 Sz) 40 [(0, vR (0, 1)), (1, vI x1), (3, vI x3), (4, vI z4)] [] (enc Sz) 0 0) (k69 : Int32 → Int32 → vs → Option (Int32 × vs)) (H69 : ∀ (z5 : Int32), ∀ (z6 : Int32), ∀ (Sz : vs), V l G mX8_span none phI (k69 z5 z6 Sz) 69 [(0, vR (0, 1)), (1, vI x1), (3, vI x3), (4, vI x4), (5, vI z5), (6, vI z6)] [] (enc Sz) 0 0) : V l G mX8_span none phI (jX8_span_168 k40 k69 F x1 x3 x4 x6 sk0 S) 168 [(0, vR (0, 1)), (1, vI x1), (3, vI x3), (4, vI x4), (6, vI x6)] [vI sk0] (enc S) 0 0 := by
  unfold jX8_span_168
  refine V.istore (L' := [(0, vR (0, 1)), (1, vI x1), (3, vI x3), (4, vI x4), (6, vI x6), (5, vI sk0)]) dX8_span_168 (by decide) rfl rfl ?_
  exact V.lsub [0, 1, 2, 3, 5, 4] rfl (tjX8_span_170 l G F x1 x3 x4 sk0 x6 S k40 H40 k69 H69)

theorem tjX8_span_166 (l : Launch) (G : vg) (F : Nat) (x1 : Int32) (x3 : Int32) (x4 : Int32) (x5 : Int32) (x6 : Int32) (S : vs) (k40 : Int32 → vs → Option (Int32 × vs)) (H40 : ∀ (z4 : Int32), ∀ (Sz : vs), V l G mX8_span none phI (k40 z4 Sz) 40 [(0, vR (0, 1)), (1, vI x1), (3, vI x3), (4, vI z4)] [] (enc Sz) 0 0) (k69 : Int32 → Int32 → vs → Option (Int32 × vs)) (H69 : ∀ (z5 : Int32), ∀ (z6 : Int32), ∀ (Sz : vs), V l G mX8_span none phI (k69 z5 z6 Sz) 69 [(0, vR (0, 1)), (1, vI x1), (3, vI x3), (4, vI x4), (5, vI z5), (6, vI z6)] [] (enc Sz) 0 0) : V l G mX8_span none phI (jX8_span_166 k40 k69 F x1 x3 x4 x5 x6 S) 166 [(0, vR (0, 1)), (1, vI x1), (3, vI x3), (4, vI x4), (5, vI x5), (6, vI x6)] [] (enc S) 0 0 := by
  unfold jX8_span_166
  refine V.iload dX8_span_166 4 rfl ?_
  exact V.lsub [0, 1, 2, 3, 5] rfl (tjX8_span_168 l G F x1 x3 x4 x6 x5 S k40 H40 k69 H69)

theorem tjX8_span_124 (l : Launch) (G : vg) (F : Nat) (x1 : Int32) (x3 : Int32) (x4 : Int32) (x6 : Int32) (sk0 : Int32) (S : vs) (k40 : Int32 → vs → Option (Int32 × vs)) (H40 : ∀ (z4 : Int32), ∀ (Sz : vs), V l G mX8_span none phI (k40 z4 Sz) 40 [(0, vR (0, 1)), (1, vI x1), (3, vI x3), (4, vI z4)] [] (enc Sz) 0 0) (k69 : Int32 → Int32 → vs → Option (Int32 × vs)) (H69 : ∀ (z5 : Int32), ∀ (z6 : Int32), ∀ (Sz : vs), V l G mX8_span none phI (k69 z5 z6 Sz) 69 [(0, vR (0, 1)), (1, vI x1), (3, vI x3), (4, vI x4), (5, vI z5), (6, vI z6)] [] (enc Sz) 0 0) : V l G mX8_span none phI (jX8_span_124 k40 k69 F x1 x3 x4 x6 sk0 S) 124 [(0, vR (0, 1)), (1, vI x1), (3, vI x3), (4, vI x4), (6, vI x6)] [vI sk0] (enc S) 0 0 := by
  unfold jX8_span_124
  refine V.istore (L' := [(0, vR (0, 1)), (1, vI x1), (3, vI x3), (4, vI x4), (6, vI x6), (5, vI sk0)]) dX8_span_124 (by decide) rfl rfl ?_
  refine V.aload_n dX8_span_126 0 rfl ?_
  refine V.sgR 8 16 dX8_span_127 gf_X8_46 sh0_1 rfl rfl ?_
  refine V.iload dX8_span_130 4 rfl ?_
  refine V.chk fun h_9 => ?_
  refine V.sia dX8_span_132 h_9 ?_
  refine V.iconst (v := 1) dX8_span_133 (by decide) ?_
  refine V.isub dX8_span_134 ?_
  refine V.iload dX8_span_135 3 rfl ?_
  refine V.icmp_le 166 dX8_span_137 (by decide) ?_ ?_
  · exact V.lsub [0, 1, 2, 3, 5, 4] rfl (tjX8_span_166 l G F x1 x3 x4 sk0 x6 S k40 H40 k69 H69)
  · refine V.aload_n dX8_span_140 0 rfl ?_
    refine V.sgR 8 16 dX8_span_141 gf_X8_46 sh0_1 rfl rfl ?_
    refine V.iload dX8_span_144 4 rfl ?_
    refine V.sia dX8_span_146 h_9 ?_
    refine V.iconst (v := 1) dX8_span_147 (by decide) ?_
    refine V.isub dX8_span_148 ?_
    refine V.iload dX8_span_149 5 rfl ?_
    refine V.icmp_ge 166 dX8_span_151 (by decide) ?_ ?_
    · exact V.lsub [0, 1, 2, 3, 5, 4] rfl (tjX8_span_166 l G F x1 x3 x4 sk0 x6 S k40 H40 k69 H69)
    · refine V.aload_n dX8_span_154 0 rfl ?_
      refine V.sgR 8 16 dX8_span_155 gf_X8_46 sh0_1 rfl rfl ?_
      refine V.iload dX8_span_158 4 rfl ?_
      refine V.sia dX8_span_160 h_9 ?_
      refine V.iconst (v := 1) dX8_span_161 (by decide) ?_
      refine V.isub dX8_span_162 ?_
      refine V.goto 168 dX8_span_163 (by decide) ?_
      exact V.lsub [0, 1, 2, 3, 4] rfl (tjX8_span_168 l G F x1 x3 x4 x6 ((S.1 (0, 35) x6.toNatClampNeg) - 1) S k40 H40 k69 H69)

theorem tjX8_span_122 (l : Launch) (G : vg) (F : Nat) (x1 : Int32) (x3 : Int32) (x4 : Int32) (x5 : Int32) (x6 : Int32) (S : vs) (k40 : Int32 → vs → Option (Int32 × vs)) (H40 : ∀ (z4 : Int32), ∀ (Sz : vs), V l G mX8_span none phI (k40 z4 Sz) 40 [(0, vR (0, 1)), (1, vI x1), (3, vI x3), (4, vI z4)] [] (enc Sz) 0 0) (k69 : Int32 → Int32 → vs → Option (Int32 × vs)) (H69 : ∀ (z5 : Int32), ∀ (z6 : Int32), ∀ (Sz : vs), V l G mX8_span none phI (k69 z5 z6 Sz) 69 [(0, vR (0, 1)), (1, vI x1), (3, vI x3), (4, vI x4), (5, vI z5), (6, vI z6)] [] (enc Sz) 0 0) : V l G mX8_span none phI (jX8_span_122 k40 k69 F x1 x3 x4 x5 x6 S) 122 [(0, vR (0, 1)), (1, vI x1), (3, vI x3), (4, vI x4), (5, vI x5), (6, vI x6)] [] (enc S) 0 0 := by
  unfold jX8_span_122
  refine V.iload dX8_span_122 4 rfl ?_
  exact V.lsub [0, 1, 2, 3, 5] rfl (tjX8_span_124 l G F x1 x3 x4 x6 x5 S k40 H40 k69 H69)

theorem thX8_span_69 (l : Launch) (G : vg) (F : Nat) (x1 : Int32) (x3 : Int32) (x4 : Int32) (k40 : Int32 → vs → Option (Int32 × vs)) (H40 : ∀ (z4 : Int32), ∀ (Sz : vs), V l G mX8_span none phI (k40 z4 Sz) 40 [(0, vR (0, 1)), (1, vI x1), (3, vI x3), (4, vI z4)] [] (enc Sz) 0 0) : ∀ (n : Nat) (x5 : Int32) (x6 : Int32) (S : vs), V l G mX8_span none phI (hX8_span_69 k40 F x1 x3 x4 n x5 x6 S) 69 [(0, vR (0, 1)), (1, vI x1), (3, vI x3), (4, vI x4), (5, vI x5), (6, vI x6)] [] (enc S) 0 0
  | 0, _, _, _ => V.nil
  | n + 1, x5, x6, S => by
    have ih := thX8_span_69 l G F x1 x3 x4 k40 H40 n
    rw [hX8_span_69]
    refine V.iload dX8_span_69 5 rfl ?_
    refine V.aload_n dX8_span_71 0 rfl ?_
    refine V.sgI 8 14 dX8_span_72 gf_X8_164 sh0_1 rfl rfl ?_
    refine V.icmp_ge 176 dX8_span_75 (by decide) ?_ ?_
    · refine V.iload dX8_span_176 4 rfl ?_
      refine V.istore (L' := [(0, vR (0, 1)), (1, vI x1), (3, vI x3), (4, vI x5), (5, vI x5), (6, vI x6)]) dX8_span_178 (by decide) rfl rfl ?_
      refine V.goto 40 dX8_span_180 (by decide) ?_
      exact V.lsub [0, 1, 2, 3] rfl (H40 x5 S)
    · refine V.aload_n dX8_span_78 0 rfl ?_
      refine V.iload dX8_span_79 5 rfl ?_
      refine V.iload_n dX8_span_81 1 rfl ?_
      refine V.callV (M' := mX8_isOf) (As := [vI x6, vI x1]) (ψ := (phP S)) dX8_span_82 ml_X8_167 mfX8_isOf rfl ⟨by decide, by decide⟩ ⟨by decide, by decide⟩ (enc_at rfl sh0_1) rfl (Nat.le_of_ble_eq_true rfl) rfl (kX8_isOf l G F x6 x1 S) (fun a_6 => ?_)
      show V l G mX8_span none phI _ 85 [(0, vR (0, 1)), (1, vI x1), (3, vI x3), (4, vI x4), (5, vI x5), (6, vI x6)] [vI a_6] (enc S) 0 0
      refine V.if_eq 170 dX8_span_85 (by decide) ?_ ?_
      · exact (tjX8_span_170 l G F x1 x3 x4 x5 x6 S k40 H40 (hX8_span_69 k40 F x1 x3 x4 n) ih)
      · refine V.aload_n dX8_span_88 0 rfl ?_
        refine V.sgR 8 17 dX8_span_89 gf_X8_49 sh0_1 rfl rfl ?_
        refine V.iload dX8_span_92 5 rfl ?_
        refine V.chk fun h_8 => ?_
        refine V.sia dX8_span_94 h_8 ?_
        refine V.iload dX8_span_95 3 rfl ?_
        refine V.icmp_le 122 dX8_span_97 (by decide) ?_ ?_
        · exact (tjX8_span_122 l G F x1 x3 x4 x5 x6 S k40 H40 (hX8_span_69 k40 F x1 x3 x4 n) ih)
        · refine V.aload_n dX8_span_100 0 rfl ?_
          refine V.sgR 8 17 dX8_span_101 gf_X8_49 sh0_1 rfl rfl ?_
          refine V.iload dX8_span_104 5 rfl ?_
          refine V.sia dX8_span_106 h_8 ?_
          refine V.iload dX8_span_107 4 rfl ?_
          refine V.icmp_ge 122 dX8_span_109 (by decide) ?_ ?_
          · exact (tjX8_span_122 l G F x1 x3 x4 x5 x6 S k40 H40 (hX8_span_69 k40 F x1 x3 x4 n) ih)
          · refine V.aload_n dX8_span_112 0 rfl ?_
            refine V.sgR 8 17 dX8_span_113 gf_X8_49 sh0_1 rfl rfl ?_
            refine V.iload dX8_span_116 5 rfl ?_
            refine V.sia dX8_span_118 h_8 ?_
            refine V.goto 124 dX8_span_119 (by decide) ?_
            exact V.lsub [0, 1, 2, 3, 5] rfl (tjX8_span_124 l G F x1 x3 x4 x6 (S.1 (0, 36) x6.toNatClampNeg) S k40 H40 (hX8_span_69 k40 F x1 x3 x4 n) ih)

theorem thX8_span_40 (l : Launch) (G : vg) (F : Nat) (x1 : Int32) (x3 : Int32) : ∀ (n : Nat) (x4 : Int32) (S : vs), V l G mX8_span none phI (hX8_span_40 F x1 x3 n x4 S) 40 [(0, vR (0, 1)), (1, vI x1), (3, vI x3), (4, vI x4)] [] (enc S) 0 0
  | 0, _, _ => V.nil
  | n + 1, x4, S => by
    have ih := thX8_span_40 l G F x1 x3 n
    rw [hX8_span_40]
    refine V.iload dX8_span_40 3 rfl ?_
    refine V.sipush (v := 30000) dX8_span_42 (by decide) ?_
    refine V.icmp_ge 183 dX8_span_45 (by decide) ?_ ?_
    · refine V.iload dX8_span_183 3 rfl ?_
      exact V.iret rfl dX8_span_185 rfl (by decide) (by decide)
    · refine V.aload_n dX8_span_48 0 rfl ?_
      refine V.iload_n dX8_span_49 1 rfl ?_
      refine V.iload dX8_span_50 3 rfl ?_
      refine V.iconst (v := 1) dX8_span_52 (by decide) ?_
      refine V.iadd dX8_span_53 ?_
      refine V.callV (M' := mX8_weighsOf) (As := [vI x1, vI (x4 + 1)]) (ψ := (phP S)) dX8_span_54 ml_X8_171 mfX8_weighsOf rfl ⟨by decide, by decide⟩ ⟨by decide, by decide⟩ (enc_at rfl sh0_1) rfl (Nat.le_of_ble_eq_true rfl) rfl (kX8_weighsOf l G F x1 (x4 + 1) S) (fun a_5 => ?_)
      show V l G mX8_span none phI _ 57 [(0, vR (0, 1)), (1, vI x1), (3, vI x3), (4, vI x4)] [vI a_5] (enc S) 0 0
      refine V.iload_n dX8_span_57 2 rfl ?_
      refine V.icmp_ne 183 dX8_span_58 (by decide) ?_ ?_
      · refine V.iload dX8_span_183 3 rfl ?_
        exact V.iret rfl dX8_span_185 rfl (by decide) (by decide)
      · refine V.sipush (v := 30000) dX8_span_61 (by decide) ?_
        refine V.istore (L' := [(0, vR (0, 1)), (1, vI x1), (3, vI x3), (4, vI x4), (5, vI 30000)]) dX8_span_64 (by decide) rfl rfl ?_
        refine V.iconst (v := 0) dX8_span_66 (by decide) ?_
        refine V.istore (L' := [(0, vR (0, 1)), (1, vI x1), (3, vI x3), (4, vI x4), (5, vI 30000), (6, vI 0)]) dX8_span_67 (by decide) rfl rfl ?_
        exact (thX8_span_69 l G F x1 x3 x4 (hX8_span_40 F x1 x3 n) ih F 30000 0 S)

theorem kX8_span (l : Launch) (G : vg) (F : Nat) (x1 : Int32) (S : vs) : Rt l G mX8_span none phI [vR (0, 1), vI x1] (enc S) (fX8_span F x1 S) := Rt.of rfl (Nat.le_of_ble_eq_true rfl) (by
  show V l G mX8_span none phI _ 0 [(0, vR (0, 1)), (1, vI x1)] [] (enc S) 0 0
  unfold fX8_span
  refine V.aload_n dX8_span_0 0 rfl ?_
  refine V.iconst (v := 0) dX8_span_1 (by decide) ?_
  refine V.spI 8 0 dX8_span_2 pf_X8_95 sh0_1 rfl rfl ?_
  refine V.sst fun S_1 => ?_
  refine V.aload_n dX8_span_5 0 rfl ?_
  refine V.iload_n dX8_span_6 1 rfl ?_
  refine V.callV (M' := mX8_noSide) (As := [vI x1]) (ψ := (phP S_1)) dX8_span_7 ml_X8_110 mfX8_noSide rfl ⟨by decide, by decide⟩ ⟨by decide, by decide⟩ (enc_at rfl sh0_1) rfl (Nat.le_of_ble_eq_true rfl) rfl (kX8_noSide l G F x1 S_1) (fun a_2 => ?_)
  show V l G mX8_span none phI _ 10 [(0, vR (0, 1)), (1, vI x1)] [vI a_2] (enc S_1) 0 0
  refine V.if_eq 15 dX8_span_10 (by decide) ?_ ?_
  · refine V.aload_n dX8_span_15 0 rfl ?_
    refine V.iload_n dX8_span_16 1 rfl ?_
    refine V.callV (M' := mX8_speedOf) (As := [vI x1]) (ψ := (phP S_1)) dX8_span_17 ml_X8_175 mfX8_speedOf rfl ⟨by decide, by decide⟩ ⟨by decide, by decide⟩ (enc_at rfl sh0_1) rfl (Nat.le_of_ble_eq_true rfl) rfl (kX8_speedOf l G F x1 S_1) (fun a_3 => ?_)
    show V l G mX8_span none phI _ 20 [(0, vR (0, 1)), (1, vI x1)] [vI a_3] (enc S_1) 0 0
    refine V.istore_n (L' := [(0, vR (0, 1)), (1, vI x1), (2, vI a_3)]) dX8_span_20 (by decide) rfl rfl ?_
    refine V.iload_n dX8_span_21 2 rfl ?_
    refine V.bipush (v := (-9)) dX8_span_22 (by decide) ?_
    refine V.icmp_ne 30 dX8_span_24 (by decide) ?_ ?_
    · refine V.aload_n dX8_span_30 0 rfl ?_
      refine V.iload_n dX8_span_31 1 rfl ?_
      refine V.iload_n dX8_span_32 2 rfl ?_
      refine V.callV (M' := mX8_weighsOf) (As := [vI x1, vI a_3]) (ψ := (phP S_1)) dX8_span_33 ml_X8_171 mfX8_weighsOf rfl ⟨by decide, by decide⟩ ⟨by decide, by decide⟩ (enc_at rfl sh0_1) rfl (Nat.le_of_ble_eq_true rfl) rfl (kX8_weighsOf l G F x1 a_3 S_1) (fun a_4 => ?_)
      show V l G mX8_span none phI _ 36 [(0, vR (0, 1)), (1, vI x1), (2, vI a_3)] [vI a_4] (enc S_1) 0 0
      refine V.istore_n (L' := [(0, vR (0, 1)), (1, vI x1), (2, vI a_3), (3, vI a_4)]) dX8_span_36 (by decide) rfl rfl ?_
      refine V.iload_n dX8_span_37 2 rfl ?_
      refine V.istore (L' := [(0, vR (0, 1)), (1, vI x1), (2, vI a_3), (3, vI a_4), (4, vI a_3)]) dX8_span_38 (by decide) rfl rfl ?_
      exact V.lsub [0, 1, 3, 4] rfl (thX8_span_40 l G F x1 a_4 F a_3 S_1)
    · refine V.bipush (v := (-9)) dX8_span_27 (by decide) ?_
      exact V.iret rfl dX8_span_29 rfl (by decide) (by decide)
  · refine V.iconst (v := (-1)) dX8_span_13 (by decide) ?_
    exact V.iret rfl dX8_span_14 rfl (by decide) (by decide))

abbrev mX8_weighs : vmt := (yX8_weighs, cX8_weighs, 3, (some .int), { frames := 2, cells := 0, slots := 0, locals := 49 })
theorem mfX8_weighs : mfV mX8_weighs 2 := ⟨im_X8_weighs, se_X8_weighs, ini_X8, co_X8_weighs, by decide, by decide, by decide +kernel⟩
def fX8_weighs (F : Nat) (x1 : Int32) (x2 : Int32) (S : vs) : Option (Int32 × vs) := stp (s2 S (0, 1) 0 0) (fun S_1 => (fX8_noSide F x1 S_1).bind (fun a_2 => if a_2 = 0 then (fX8_in F x2.toInt64 1 30000 S_1).bind (fun a_3 => if a_3 = 0 then some ((-2), S_1) else (fX8_weighsOf F x1 x2 S_1).bind (fun a_4 => some (a_4, S_1))) else some ((-1), S_1)))
theorem kX8_weighs (l : Launch) (G : vg) (F : Nat) (x1 : Int32) (x2 : Int32) (S : vs) : Rt l G mX8_weighs none phI [vR (0, 1), vI x1, vI x2] (enc S) (fX8_weighs F x1 x2 S) := Rt.of rfl (Nat.le_of_ble_eq_true rfl) (by
  show V l G mX8_weighs none phI _ 0 [(0, vR (0, 1)), (1, vI x1), (2, vI x2)] [] (enc S) 0 0
  unfold fX8_weighs
  refine V.aload_n dX8_weighs_0 0 rfl ?_
  refine V.iconst (v := 0) dX8_weighs_1 (by decide) ?_
  refine V.spI 8 0 dX8_weighs_2 pf_X8_95 sh0_1 rfl rfl ?_
  refine V.sst fun S_1 => ?_
  refine V.aload_n dX8_weighs_5 0 rfl ?_
  refine V.iload_n dX8_weighs_6 1 rfl ?_
  refine V.callV (M' := mX8_noSide) (As := [vI x1]) (ψ := (phP S_1)) dX8_weighs_7 ml_X8_110 mfX8_noSide rfl ⟨by decide, by decide⟩ ⟨by decide, by decide⟩ (enc_at rfl sh0_1) rfl (Nat.le_of_ble_eq_true rfl) rfl (kX8_noSide l G F x1 S_1) (fun a_2 => ?_)
  show V l G mX8_weighs none phI _ 10 [(0, vR (0, 1)), (1, vI x1), (2, vI x2)] [vI a_2] (enc S_1) 0 0
  refine V.if_eq 15 dX8_weighs_10 (by decide) ?_ ?_
  · refine V.iload_n dX8_weighs_15 2 rfl ?_
    refine V.i2l dX8_weighs_16 ?_
    refine V.lconst (v := 1) dX8_weighs_17 (by decide) ?_
    refine V.ldc2 (v := 30000) dX8_weighs_18 ct_X8_178 ?_
    refine V.callS (M' := mX8_in) (As := [vJ x2.toInt64, vJ 1, vJ 30000]) (ψ := (phP S_1)) dX8_weighs_21 ml_X8_102 mfX8_in rfl ⟨by decide, by decide⟩ ⟨by decide, by decide⟩ (Nat.le_of_ble_eq_true rfl) rfl (kX8_in l G F x2.toInt64 1 30000 S_1) (fun a_3 => ?_)
    show V l G mX8_weighs none phI _ 24 [(0, vR (0, 1)), (1, vI x1), (2, vI x2)] [vI a_3] (enc S_1) 0 0
    refine V.if_eq 36 dX8_weighs_24 (by decide) ?_ ?_
    · refine V.bipush (v := (-2)) dX8_weighs_36 (by decide) ?_
      exact V.iret rfl dX8_weighs_38 rfl (by decide) (by decide)
    · refine V.aload_n dX8_weighs_27 0 rfl ?_
      refine V.iload_n dX8_weighs_28 1 rfl ?_
      refine V.iload_n dX8_weighs_29 2 rfl ?_
      refine V.callV (M' := mX8_weighsOf) (As := [vI x1, vI x2]) (ψ := (phP S_1)) dX8_weighs_30 ml_X8_171 mfX8_weighsOf rfl ⟨by decide, by decide⟩ ⟨by decide, by decide⟩ (enc_at rfl sh0_1) rfl (Nat.le_of_ble_eq_true rfl) rfl (kX8_weighsOf l G F x1 x2 S_1) (fun a_4 => ?_)
      show V l G mX8_weighs none phI _ 33 [(0, vR (0, 1)), (1, vI x1), (2, vI x2)] [vI a_4] (enc S_1) 0 0
      refine V.goto 38 dX8_weighs_33 (by decide) ?_
      exact V.iret rfl dX8_weighs_38 rfl (by decide) (by decide)
  · refine V.iconst (v := (-1)) dX8_weighs_13 (by decide) ?_
    exact V.iret rfl dX8_weighs_14 rfl (by decide) (by decide))

abbrev mX8_quarrels : vmt := (yX8_quarrels, cX8_quarrels, 5, (some .int), { frames := 2, cells := 0, slots := 0, locals := 46 })
theorem mfX8_quarrels : mfV mX8_quarrels 1 := ⟨im_X8_quarrels, se_X8_quarrels, ini_X8, co_X8_quarrels, by decide, by decide, by decide +kernel⟩
def jX8_quarrels_93 (k19 : Int32 → Int32 → vs → Option (Int32 × vs)) (k30 : Int32 → Int32 → vs → Option (Int32 × vs)) (F : Nat) (x1 : Int32) (x3 : Int32) (x4 : Int32) (sk0 : Int32) (sk1 : Int32) (S : vs) : Option (Int32 × vs) := ltt (sk1 + sk0) (fun x_5 => ltt (x4 + 1) (fun x_6 => k30 x_5 x_6 S))

def jX8_quarrels_92 (k19 : Int32 → Int32 → vs → Option (Int32 × vs)) (k30 : Int32 → Int32 → vs → Option (Int32 × vs)) (F : Nat) (x1 : Int32) (x3 : Int32) (x4 : Int32) (sk0 : Int32) (S : vs) : Option (Int32 × vs) := jX8_quarrels_93 k19 k30 F x1 x3 x4 0 sk0 S

def jX8_quarrels_88 (k19 : Int32 → Int32 → vs → Option (Int32 × vs)) (k30 : Int32 → Int32 → vs → Option (Int32 × vs)) (F : Nat) (x1 : Int32) (x3 : Int32) (x4 : Int32) (sk0 : Int32) (S : vs) : Option (Int32 × vs) := jX8_quarrels_93 k19 k30 F x1 x3 x4 1 sk0 S

def hX8_quarrels_30 (k19 : Int32 → Int32 → vs → Option (Int32 × vs)) (F : Nat) (x1 : Int32) (x3 : Int32) : Nat → Int32 → Int32 → vs → Option (Int32 × vs)
  | 0, _, _, _ => none
  | n + 1, x2, x4, S => if x3 ≤ x4 then ltt (x3 + 1) (fun x_3 => k19 x2 x_3 S) else (fX8_isOf F x3 x1 S).bind (fun a_4 => if a_4 = 0 then jX8_quarrels_92 k19 (hX8_quarrels_30 k19 F x1 x3 n) F x1 x3 x4 x2 S else (fX8_isOf F x4 x1 S).bind (fun a_7 => if a_7 = 0 then jX8_quarrels_92 k19 (hX8_quarrels_30 k19 F x1 x3 n) F x1 x3 x4 x2 S else gd (inb x3 (alen 0 S.2.2 (0, 36))) (gd (inb x4 (alen 0 S.2.2 (0, 35))) (if (S.1 (0, 36) x3.toNatClampNeg) < (S.1 (0, 35) x4.toNatClampNeg) then jX8_quarrels_88 k19 (hX8_quarrels_30 k19 F x1 x3 n) F x1 x3 x4 x2 S else gd (inb x4 (alen 0 S.2.2 (0, 36))) (gd (inb x3 (alen 0 S.2.2 (0, 35))) (if (S.1 (0, 35) x3.toNatClampNeg) ≤ (S.1 (0, 36) x4.toNatClampNeg) then jX8_quarrels_92 k19 (hX8_quarrels_30 k19 F x1 x3 n) F x1 x3 x4 x2 S else jX8_quarrels_88 k19 (hX8_quarrels_30 k19 F x1 x3 n) F x1 x3 x4 x2 S))))))

def hX8_quarrels_19 (F : Nat) (x1 : Int32) : Nat → Int32 → Int32 → vs → Option (Int32 × vs)
  | 0, _, _, _ => none
  | n + 1, x2, x3, S => if (S.1 (0, 1) 14) ≤ x3 then some (x2, S) else hX8_quarrels_30 (hX8_quarrels_19 F x1 n) F x1 x3 F x2 0 S

def fX8_quarrels (F : Nat) (x1 : Int32) (S : vs) : Option (Int32 × vs) := stp (s2 S (0, 1) 0 0) (fun S_1 => (fX8_noSide F x1 S_1).bind (fun a_2 => if a_2 = 0 then hX8_quarrels_19 F x1 F 0 0 S_1 else some ((-1), S_1)))
theorem tjX8_quarrels_93 (l : Launch) (G : vg) (F : Nat) (x1 : Int32) (x3 : Int32) (x4 : Int32) (sk0 : Int32) (sk1 : Int32) (S : vs) (k19 : Int32 → Int32 → vs → Option (Int32 × vs)) (H19 : ∀ (z2 : Int32), ∀ (z3 : Int32), ∀ (Sz : vs), V l G mX8_quarrels none phI (k19 z2 z3 Sz) 19 [(0, vR (0, 1)), (1, vI x1), (2, vI z2), (3, vI z3)] [] (enc Sz) 0 0) (k30 : Int32 → Int32 → vs → Option (Int32 × vs)) (H30 : ∀ (z2 : Int32), ∀ (z4 : Int32), ∀ (Sz : vs), V l G mX8_quarrels none phI (k30 z2 z4 Sz) 30 [(0, vR (0, 1)), (1, vI x1), (2, vI z2), (3, vI x3), (4, vI z4)] [] (enc Sz) 0 0) : V l G mX8_quarrels none phI (jX8_quarrels_93 k19 k30 F x1 x3 x4 sk0 sk1 S) 93 [(0, vR (0, 1)), (1, vI x1), (3, vI x3), (4, vI x4)] [vI sk0, vI sk1] (enc S) 0 0 := by
  unfold jX8_quarrels_93
  refine V.iadd dX8_quarrels_93 ?_
  refine V.lett fun x_5 => ?_
  refine V.istore_n (L' := [(0, vR (0, 1)), (1, vI x1), (3, vI x3), (4, vI x4), (2, vI x_5)]) dX8_quarrels_94 (by decide) rfl rfl ?_
  refine V.lti (e := x4 + 1) (fun x_6 he => ?_)
  refine V.iinc (v := x_6) (L' := [(0, vR (0, 1)), (1, vI x1), (3, vI x3), (4, vI x_6), (2, vI x_5)]) dX8_quarrels_95 3 rfl he.symm (by decide) rfl rfl ?_
  refine V.goto 30 dX8_quarrels_98 (by decide) ?_
  exact V.lsub [0, 1, 4, 2, 3] rfl (H30 x_5 x_6 S)

theorem tjX8_quarrels_92 (l : Launch) (G : vg) (F : Nat) (x1 : Int32) (x3 : Int32) (x4 : Int32) (sk0 : Int32) (S : vs) (k19 : Int32 → Int32 → vs → Option (Int32 × vs)) (H19 : ∀ (z2 : Int32), ∀ (z3 : Int32), ∀ (Sz : vs), V l G mX8_quarrels none phI (k19 z2 z3 Sz) 19 [(0, vR (0, 1)), (1, vI x1), (2, vI z2), (3, vI z3)] [] (enc Sz) 0 0) (k30 : Int32 → Int32 → vs → Option (Int32 × vs)) (H30 : ∀ (z2 : Int32), ∀ (z4 : Int32), ∀ (Sz : vs), V l G mX8_quarrels none phI (k30 z2 z4 Sz) 30 [(0, vR (0, 1)), (1, vI x1), (2, vI z2), (3, vI x3), (4, vI z4)] [] (enc Sz) 0 0) : V l G mX8_quarrels none phI (jX8_quarrels_92 k19 k30 F x1 x3 x4 sk0 S) 92 [(0, vR (0, 1)), (1, vI x1), (3, vI x3), (4, vI x4)] [vI sk0] (enc S) 0 0 := by
  unfold jX8_quarrels_92
  refine V.iconst (v := 0) dX8_quarrels_92 (by decide) ?_
  exact (tjX8_quarrels_93 l G F x1 x3 x4 0 sk0 S k19 H19 k30 H30)

theorem tjX8_quarrels_88 (l : Launch) (G : vg) (F : Nat) (x1 : Int32) (x3 : Int32) (x4 : Int32) (sk0 : Int32) (S : vs) (k19 : Int32 → Int32 → vs → Option (Int32 × vs)) (H19 : ∀ (z2 : Int32), ∀ (z3 : Int32), ∀ (Sz : vs), V l G mX8_quarrels none phI (k19 z2 z3 Sz) 19 [(0, vR (0, 1)), (1, vI x1), (2, vI z2), (3, vI z3)] [] (enc Sz) 0 0) (k30 : Int32 → Int32 → vs → Option (Int32 × vs)) (H30 : ∀ (z2 : Int32), ∀ (z4 : Int32), ∀ (Sz : vs), V l G mX8_quarrels none phI (k30 z2 z4 Sz) 30 [(0, vR (0, 1)), (1, vI x1), (2, vI z2), (3, vI x3), (4, vI z4)] [] (enc Sz) 0 0) : V l G mX8_quarrels none phI (jX8_quarrels_88 k19 k30 F x1 x3 x4 sk0 S) 88 [(0, vR (0, 1)), (1, vI x1), (3, vI x3), (4, vI x4)] [vI sk0] (enc S) 0 0 := by
  unfold jX8_quarrels_88
  refine V.iconst (v := 1) dX8_quarrels_88 (by decide) ?_
  refine V.goto 93 dX8_quarrels_89 (by decide) ?_
  exact (tjX8_quarrels_93 l G F x1 x3 x4 1 sk0 S k19 H19 k30 H30)

theorem thX8_quarrels_30 (l : Launch) (G : vg) (F : Nat) (x1 : Int32) (x3 : Int32) (k19 : Int32 → Int32 → vs → Option (Int32 × vs)) (H19 : ∀ (z2 : Int32), ∀ (z3 : Int32), ∀ (Sz : vs), V l G mX8_quarrels none phI (k19 z2 z3 Sz) 19 [(0, vR (0, 1)), (1, vI x1), (2, vI z2), (3, vI z3)] [] (enc Sz) 0 0) : ∀ (n : Nat) (x2 : Int32) (x4 : Int32) (S : vs), V l G mX8_quarrels none phI (hX8_quarrels_30 k19 F x1 x3 n x2 x4 S) 30 [(0, vR (0, 1)), (1, vI x1), (2, vI x2), (3, vI x3), (4, vI x4)] [] (enc S) 0 0
  | 0, _, _, _ => V.nil
  | n + 1, x2, x4, S => by
    have ih := thX8_quarrels_30 l G F x1 x3 k19 H19 n
    rw [hX8_quarrels_30]
    refine V.iload dX8_quarrels_30 4 rfl ?_
    refine V.iload_n dX8_quarrels_32 3 rfl ?_
    refine V.icmp_ge 101 dX8_quarrels_33 (by decide) ?_ ?_
    · refine V.lti (e := x3 + 1) (fun x_3 he => ?_)
      refine V.iinc (v := x_3) (L' := [(0, vR (0, 1)), (1, vI x1), (2, vI x2), (3, vI x_3), (4, vI x4)]) dX8_quarrels_101 3 rfl he.symm (by decide) rfl rfl ?_
      refine V.goto 19 dX8_quarrels_104 (by decide) ?_
      exact V.lsub [0, 1, 2, 3] rfl (H19 x2 x_3 S)
    · refine V.iload_n dX8_quarrels_36 2 rfl ?_
      refine V.aload_n dX8_quarrels_37 0 rfl ?_
      refine V.iload_n dX8_quarrels_38 3 rfl ?_
      refine V.iload_n dX8_quarrels_39 1 rfl ?_
      refine V.callV (M' := mX8_isOf) (As := [vI x3, vI x1]) (ψ := (phP S)) dX8_quarrels_40 ml_X8_167 mfX8_isOf rfl ⟨by decide, by decide⟩ ⟨by decide, by decide⟩ (enc_at rfl sh0_1) rfl (Nat.le_of_ble_eq_true rfl) rfl (kX8_isOf l G F x3 x1 S) (fun a_4 => ?_)
      show V l G mX8_quarrels none phI _ 43 [(0, vR (0, 1)), (1, vI x1), (2, vI x2), (3, vI x3), (4, vI x4)] [vI a_4, vI x2] (enc S) 0 0
      refine V.if_eq 92 dX8_quarrels_43 (by decide) ?_ ?_
      · exact V.lsub [0, 1, 3, 4] rfl (tjX8_quarrels_92 l G F x1 x3 x4 x2 S k19 H19 (hX8_quarrels_30 k19 F x1 x3 n) ih)
      · refine V.aload_n dX8_quarrels_46 0 rfl ?_
        refine V.iload dX8_quarrels_47 4 rfl ?_
        refine V.iload_n dX8_quarrels_49 1 rfl ?_
        refine V.callV (M' := mX8_isOf) (As := [vI x4, vI x1]) (ψ := (phP S)) dX8_quarrels_50 ml_X8_167 mfX8_isOf rfl ⟨by decide, by decide⟩ ⟨by decide, by decide⟩ (enc_at rfl sh0_1) rfl (Nat.le_of_ble_eq_true rfl) rfl (kX8_isOf l G F x4 x1 S) (fun a_7 => ?_)
        show V l G mX8_quarrels none phI _ 53 [(0, vR (0, 1)), (1, vI x1), (2, vI x2), (3, vI x3), (4, vI x4)] [vI a_7, vI x2] (enc S) 0 0
        refine V.if_eq 92 dX8_quarrels_53 (by decide) ?_ ?_
        · exact V.lsub [0, 1, 3, 4] rfl (tjX8_quarrels_92 l G F x1 x3 x4 x2 S k19 H19 (hX8_quarrels_30 k19 F x1 x3 n) ih)
        · refine V.aload_n dX8_quarrels_56 0 rfl ?_
          refine V.sgR 8 17 dX8_quarrels_57 gf_X8_49 sh0_1 rfl rfl ?_
          refine V.iload_n dX8_quarrels_60 3 rfl ?_
          refine V.chk fun h_8 => ?_
          refine V.sia dX8_quarrels_61 h_8 ?_
          refine V.aload_n dX8_quarrels_62 0 rfl ?_
          refine V.sgR 8 16 dX8_quarrels_63 gf_X8_46 sh0_1 rfl rfl ?_
          refine V.iload dX8_quarrels_66 4 rfl ?_
          refine V.chk fun h_9 => ?_
          refine V.sia dX8_quarrels_68 h_9 ?_
          refine V.icmp_lt 88 dX8_quarrels_69 (by decide) ?_ ?_
          · exact V.lsub [0, 1, 3, 4] rfl (tjX8_quarrels_88 l G F x1 x3 x4 x2 S k19 H19 (hX8_quarrels_30 k19 F x1 x3 n) ih)
          · refine V.aload_n dX8_quarrels_72 0 rfl ?_
            refine V.sgR 8 17 dX8_quarrels_73 gf_X8_49 sh0_1 rfl rfl ?_
            refine V.iload dX8_quarrels_76 4 rfl ?_
            refine V.chk fun h_10 => ?_
            refine V.sia dX8_quarrels_78 h_10 ?_
            refine V.aload_n dX8_quarrels_79 0 rfl ?_
            refine V.sgR 8 16 dX8_quarrels_80 gf_X8_46 sh0_1 rfl rfl ?_
            refine V.iload_n dX8_quarrels_83 3 rfl ?_
            refine V.chk fun h_11 => ?_
            refine V.sia dX8_quarrels_84 h_11 ?_
            refine V.icmp_ge 92 dX8_quarrels_85 (by decide) ?_ ?_
            · exact V.lsub [0, 1, 3, 4] rfl (tjX8_quarrels_92 l G F x1 x3 x4 x2 S k19 H19 (hX8_quarrels_30 k19 F x1 x3 n) ih)
            · exact V.lsub [0, 1, 3, 4] rfl (tjX8_quarrels_88 l G F x1 x3 x4 x2 S k19 H19 (hX8_quarrels_30 k19 F x1 x3 n) ih)

theorem thX8_quarrels_19 (l : Launch) (G : vg) (F : Nat) (x1 : Int32) : ∀ (n : Nat) (x2 : Int32) (x3 : Int32) (S : vs), V l G mX8_quarrels none phI (hX8_quarrels_19 F x1 n x2 x3 S) 19 [(0, vR (0, 1)), (1, vI x1), (2, vI x2), (3, vI x3)] [] (enc S) 0 0
  | 0, _, _, _ => V.nil
  | n + 1, x2, x3, S => by
    have ih := thX8_quarrels_19 l G F x1 n
    rw [hX8_quarrels_19]
    refine V.iload_n dX8_quarrels_19 3 rfl ?_
    refine V.aload_n dX8_quarrels_20 0 rfl ?_
    refine V.sgI 8 14 dX8_quarrels_21 gf_X8_164 sh0_1 rfl rfl ?_
    refine V.icmp_ge 107 dX8_quarrels_24 (by decide) ?_ ?_
    · refine V.iload_n dX8_quarrels_107 2 rfl ?_
      exact V.iret rfl dX8_quarrels_108 rfl (by decide) (by decide)
    · refine V.iconst (v := 0) dX8_quarrels_27 (by decide) ?_
      refine V.istore (L' := [(0, vR (0, 1)), (1, vI x1), (2, vI x2), (3, vI x3), (4, vI 0)]) dX8_quarrels_28 (by decide) rfl rfl ?_
      exact (thX8_quarrels_30 l G F x1 x3 (hX8_quarrels_19 F x1 n) ih F x2 0 S)

theorem kX8_quarrels (l : Launch) (G : vg) (F : Nat) (x1 : Int32) (S : vs) : Rt l G mX8_quarrels none phI [vR (0, 1), vI x1] (enc S) (fX8_quarrels F x1 S) := Rt.of rfl (Nat.le_of_ble_eq_true rfl) (by
  show V l G mX8_quarrels none phI _ 0 [(0, vR (0, 1)), (1, vI x1)] [] (enc S) 0 0
  unfold fX8_quarrels
  refine V.aload_n dX8_quarrels_0 0 rfl ?_
  refine V.iconst (v := 0) dX8_quarrels_1 (by decide) ?_
  refine V.spI 8 0 dX8_quarrels_2 pf_X8_95 sh0_1 rfl rfl ?_
  refine V.sst fun S_1 => ?_
  refine V.aload_n dX8_quarrels_5 0 rfl ?_
  refine V.iload_n dX8_quarrels_6 1 rfl ?_
  refine V.callV (M' := mX8_noSide) (As := [vI x1]) (ψ := (phP S_1)) dX8_quarrels_7 ml_X8_110 mfX8_noSide rfl ⟨by decide, by decide⟩ ⟨by decide, by decide⟩ (enc_at rfl sh0_1) rfl (Nat.le_of_ble_eq_true rfl) rfl (kX8_noSide l G F x1 S_1) (fun a_2 => ?_)
  show V l G mX8_quarrels none phI _ 10 [(0, vR (0, 1)), (1, vI x1)] [vI a_2] (enc S_1) 0 0
  refine V.if_eq 15 dX8_quarrels_10 (by decide) ?_ ?_
  · refine V.iconst (v := 0) dX8_quarrels_15 (by decide) ?_
    refine V.istore_n (L' := [(0, vR (0, 1)), (1, vI x1), (2, vI 0)]) dX8_quarrels_16 (by decide) rfl rfl ?_
    refine V.iconst (v := 0) dX8_quarrels_17 (by decide) ?_
    refine V.istore_n (L' := [(0, vR (0, 1)), (1, vI x1), (2, vI 0), (3, vI 0)]) dX8_quarrels_18 (by decide) rfl rfl ?_
    exact (thX8_quarrels_19 l G F x1 F 0 0 S_1)
  · refine V.iconst (v := (-1)) dX8_quarrels_13 (by decide) ?_
    exact V.iret rfl dX8_quarrels_14 rfl (by decide) (by decide))

abbrev mX8_piece : vmt := (yX8_piece, cX8_piece, 3, (some .int), { frames := 1, cells := 0, slots := 0, locals := 25 })
theorem mfX8_piece : mfV mX8_piece 2 := ⟨im_X8_piece, se_X8_piece, ini_X8, co_X8_piece, by decide, by decide, by decide +kernel⟩
def fX8_piece (F : Nat) (x1 : Int32) (x2 : Int32) (S : vs) : Option (Int32 × vs) := stp (s2 S (0, 1) 0 0) (fun S_1 => (fX8_in F x1.toInt64 0 99 S_1).bind (fun a_2 => if a_2 = 0 then some ((-2), S_1) else (fX8_in F x2.toInt64 0 99 S_1).bind (fun a_3 => if a_3 = 0 then some ((-2), S_1) else if (S_1.1 (0, 1) 20) = 7 then some ((-4), S_1) else gd (inb (S_1.1 (0, 1) 20) (alen 0 S_1.2.2 (0, 39))) (stp (s2 S_1 (0, 39) (S_1.1 (0, 1) 20).toNatClampNeg x1) (fun S_5 => gd (inb (S_5.1 (0, 1) 20) (alen 0 S_5.2.2 (0, 40))) (stp (s2 S_5 (0, 40) (S_5.1 (0, 1) 20).toNatClampNeg x2) (fun S_7 => stp (s2 S_7 (0, 1) 20 ((S_7.1 (0, 1) 20) + 1)) (fun S_8 => some ((S_8.1 (0, 1) 20) - 1, S_8)))))))))
theorem kX8_piece (l : Launch) (G : vg) (F : Nat) (x1 : Int32) (x2 : Int32) (S : vs) : Rt l G mX8_piece none phI [vR (0, 1), vI x1, vI x2] (enc S) (fX8_piece F x1 x2 S) := Rt.of rfl (Nat.le_of_ble_eq_true rfl) (by
  show V l G mX8_piece none phI _ 0 [(0, vR (0, 1)), (1, vI x1), (2, vI x2)] [] (enc S) 0 0
  unfold fX8_piece
  refine V.aload_n dX8_piece_0 0 rfl ?_
  refine V.iconst (v := 0) dX8_piece_1 (by decide) ?_
  refine V.spI 8 0 dX8_piece_2 pf_X8_95 sh0_1 rfl rfl ?_
  refine V.sst fun S_1 => ?_
  refine V.iload_n dX8_piece_5 1 rfl ?_
  refine V.i2l dX8_piece_6 ?_
  refine V.lconst (v := 0) dX8_piece_7 (by decide) ?_
  refine V.ldc2 (v := 99) dX8_piece_8 ct_X8_180 ?_
  refine V.callS (M' := mX8_in) (As := [vJ x1.toInt64, vJ 0, vJ 99]) (ψ := (phP S_1)) dX8_piece_11 ml_X8_102 mfX8_in rfl ⟨by decide, by decide⟩ ⟨by decide, by decide⟩ (Nat.le_of_ble_eq_true rfl) rfl (kX8_in l G F x1.toInt64 0 99 S_1) (fun a_2 => ?_)
  show V l G mX8_piece none phI _ 14 [(0, vR (0, 1)), (1, vI x1), (2, vI x2)] [vI a_2] (enc S_1) 0 0
  refine V.if_eq 29 dX8_piece_14 (by decide) ?_ ?_
  · refine V.bipush (v := (-2)) dX8_piece_29 (by decide) ?_
    exact V.iret rfl dX8_piece_31 rfl (by decide) (by decide)
  · refine V.iload_n dX8_piece_17 2 rfl ?_
    refine V.i2l dX8_piece_18 ?_
    refine V.lconst (v := 0) dX8_piece_19 (by decide) ?_
    refine V.ldc2 (v := 99) dX8_piece_20 ct_X8_180 ?_
    refine V.callS (M' := mX8_in) (As := [vJ x2.toInt64, vJ 0, vJ 99]) (ψ := (phP S_1)) dX8_piece_23 ml_X8_102 mfX8_in rfl ⟨by decide, by decide⟩ ⟨by decide, by decide⟩ (Nat.le_of_ble_eq_true rfl) rfl (kX8_in l G F x2.toInt64 0 99 S_1) (fun a_3 => ?_)
    show V l G mX8_piece none phI _ 26 [(0, vR (0, 1)), (1, vI x1), (2, vI x2)] [vI a_3] (enc S_1) 0 0
    refine V.if_ne 32 dX8_piece_26 (by decide) ?_ ?_
    · refine V.aload_n dX8_piece_32 0 rfl ?_
      refine V.sgI 8 20 dX8_piece_33 gf_X8_182 sh0_1 rfl rfl ?_
      refine V.bipush (v := 7) dX8_piece_36 (by decide) ?_
      refine V.icmp_ne 44 dX8_piece_38 (by decide) ?_ ?_
      · refine V.aload_n dX8_piece_44 0 rfl ?_
        refine V.sgR 8 22 dX8_piece_45 gf_X8_59 sh0_1 rfl rfl ?_
        refine V.aload_n dX8_piece_48 0 rfl ?_
        refine V.sgI 8 20 dX8_piece_49 gf_X8_182 sh0_1 rfl rfl ?_
        refine V.iload_n dX8_piece_52 1 rfl ?_
        refine V.chk fun h_4 => ?_
        refine V.sis dX8_piece_53 h_4 ?_
        refine V.sst fun S_5 => ?_
        refine V.aload_n dX8_piece_54 0 rfl ?_
        refine V.sgR 8 23 dX8_piece_55 gf_X8_62 sh0_1 rfl rfl ?_
        refine V.aload_n dX8_piece_58 0 rfl ?_
        refine V.sgI 8 20 dX8_piece_59 gf_X8_182 sh0_1 rfl rfl ?_
        refine V.iload_n dX8_piece_62 2 rfl ?_
        refine V.chk fun h_6 => ?_
        refine V.sis dX8_piece_63 h_6 ?_
        refine V.sst fun S_7 => ?_
        refine V.aload_n dX8_piece_64 0 rfl ?_
        refine V.dup dX8_piece_65 rfl ?_
        refine V.sgI 8 20 dX8_piece_66 gf_X8_182 sh0_1 rfl rfl ?_
        refine V.iconst (v := 1) dX8_piece_69 (by decide) ?_
        refine V.iadd dX8_piece_70 ?_
        refine V.spI 8 20 dX8_piece_71 pf_X8_182 sh0_1 rfl rfl ?_
        refine V.sst fun S_8 => ?_
        refine V.aload_n dX8_piece_74 0 rfl ?_
        refine V.sgI 8 20 dX8_piece_75 gf_X8_182 sh0_1 rfl rfl ?_
        refine V.iconst (v := 1) dX8_piece_78 (by decide) ?_
        refine V.isub dX8_piece_79 ?_
        exact V.iret rfl dX8_piece_80 rfl (by decide) (by decide)
      · refine V.bipush (v := (-4)) dX8_piece_41 (by decide) ?_
        exact V.iret rfl dX8_piece_43 rfl (by decide) (by decide)
    · refine V.bipush (v := (-2)) dX8_piece_29 (by decide) ?_
      exact V.iret rfl dX8_piece_31 rfl (by decide) (by decide))

abbrev mX8_sweep : vmt := (yX8_sweep, cX8_sweep, 2, (some .int), { frames := 0, cells := 0, slots := 0, locals := 0 })
theorem mfX8_sweep : mfV mX8_sweep 0 := ⟨im_X8_sweep, se_X8_sweep, ini_X8, co_X8_sweep, by decide, by decide, by decide +kernel⟩
def fX8_sweep (F : Nat) (S : vs) : Option (Int32 × vs) := stp (s2 S (0, 1) 0 0) (fun S_1 => ltt (S_1.1 (0, 1) 20) (fun x_2 => stp (s2 S_1 (0, 1) 20 0) (fun S_3 => some (x_2, S_3))))
theorem kX8_sweep (l : Launch) (G : vg) (F : Nat) (S : vs) : Rt l G mX8_sweep none phI [vR (0, 1)] (enc S) (fX8_sweep F S) := Rt.of rfl (Nat.le_of_ble_eq_true rfl) (by
  show V l G mX8_sweep none phI _ 0 [(0, vR (0, 1))] [] (enc S) 0 0
  unfold fX8_sweep
  refine V.aload_n dX8_sweep_0 0 rfl ?_
  refine V.iconst (v := 0) dX8_sweep_1 (by decide) ?_
  refine V.spI 8 0 dX8_sweep_2 pf_X8_95 sh0_1 rfl rfl ?_
  refine V.sst fun S_1 => ?_
  refine V.aload_n dX8_sweep_5 0 rfl ?_
  refine V.sgI 8 20 dX8_sweep_6 gf_X8_182 sh0_1 rfl rfl ?_
  refine V.lett fun x_2 => ?_
  refine V.istore_n (L' := [(0, vR (0, 1)), (1, vI x_2)]) dX8_sweep_9 (by decide) rfl rfl ?_
  refine V.aload_n dX8_sweep_10 0 rfl ?_
  refine V.iconst (v := 0) dX8_sweep_11 (by decide) ?_
  refine V.spI 8 20 dX8_sweep_12 pf_X8_182 sh0_1 rfl rfl ?_
  refine V.sst fun S_3 => ?_
  refine V.iload_n dX8_sweep_15 1 rfl ?_
  exact V.iret rfl dX8_sweep_16 rfl (by decide) (by decide))

abbrev mX8_tolerance : vmt := (yX8_tolerance, cX8_tolerance, 3, (some .int), { frames := 1, cells := 0, slots := 0, locals := 25 })
theorem mfX8_tolerance : mfV mX8_tolerance 1 := ⟨im_X8_tolerance, se_X8_tolerance, ini_X8, co_X8_tolerance, by decide, by decide, by decide +kernel⟩
def fX8_tolerance (F : Nat) (x1 : Int32) (S : vs) : Option (Int32 × vs) := stp (s2 S (0, 1) 0 0) (fun S_1 => (fX8_in F x1.toInt64 0 99 S_1).bind (fun a_2 => if a_2 = 0 then some ((-2), S_1) else ltt (S_1.1 (0, 1) 21) (fun x_3 => stp (s2 S_1 (0, 1) 21 x1) (fun S_4 => some (x_3, S_4)))))
theorem kX8_tolerance (l : Launch) (G : vg) (F : Nat) (x1 : Int32) (S : vs) : Rt l G mX8_tolerance none phI [vR (0, 1), vI x1] (enc S) (fX8_tolerance F x1 S) := Rt.of rfl (Nat.le_of_ble_eq_true rfl) (by
  show V l G mX8_tolerance none phI _ 0 [(0, vR (0, 1)), (1, vI x1)] [] (enc S) 0 0
  unfold fX8_tolerance
  refine V.aload_n dX8_tolerance_0 0 rfl ?_
  refine V.iconst (v := 0) dX8_tolerance_1 (by decide) ?_
  refine V.spI 8 0 dX8_tolerance_2 pf_X8_95 sh0_1 rfl rfl ?_
  refine V.sst fun S_1 => ?_
  refine V.iload_n dX8_tolerance_5 1 rfl ?_
  refine V.i2l dX8_tolerance_6 ?_
  refine V.lconst (v := 0) dX8_tolerance_7 (by decide) ?_
  refine V.ldc2 (v := 99) dX8_tolerance_8 ct_X8_180 ?_
  refine V.callS (M' := mX8_in) (As := [vJ x1.toInt64, vJ 0, vJ 99]) (ψ := (phP S_1)) dX8_tolerance_11 ml_X8_102 mfX8_in rfl ⟨by decide, by decide⟩ ⟨by decide, by decide⟩ (Nat.le_of_ble_eq_true rfl) rfl (kX8_in l G F x1.toInt64 0 99 S_1) (fun a_2 => ?_)
  show V l G mX8_tolerance none phI _ 14 [(0, vR (0, 1)), (1, vI x1)] [vI a_2] (enc S_1) 0 0
  refine V.if_ne 20 dX8_tolerance_14 (by decide) ?_ ?_
  · refine V.aload_n dX8_tolerance_20 0 rfl ?_
    refine V.sgI 8 21 dX8_tolerance_21 gf_X8_185 sh0_1 rfl rfl ?_
    refine V.lett fun x_3 => ?_
    refine V.istore_n (L' := [(0, vR (0, 1)), (1, vI x1), (2, vI x_3)]) dX8_tolerance_24 (by decide) rfl rfl ?_
    refine V.aload_n dX8_tolerance_25 0 rfl ?_
    refine V.iload_n dX8_tolerance_26 1 rfl ?_
    refine V.spI 8 21 dX8_tolerance_27 pf_X8_185 sh0_1 rfl rfl ?_
    refine V.sst fun S_4 => ?_
    refine V.iload_n dX8_tolerance_30 2 rfl ?_
    exact V.iret rfl dX8_tolerance_31 rfl (by decide) (by decide)
  · refine V.bipush (v := (-2)) dX8_tolerance_17 (by decide) ?_
    exact V.iret rfl dX8_tolerance_19 rfl (by decide) (by decide))

abbrev mX8_apart : vmt := (yX8_apart, cX8_apart, 4, (some .int), { frames := 0, cells := 0, slots := 0, locals := 0 })
theorem mfX8_apart : mfV mX8_apart 2 := ⟨im_X8_apart, se_X8_apart, ini_X8, co_X8_apart, by decide, by decide, by decide +kernel⟩
def jX8_apart_24 (F : Nat) (sk0 : Int32) (S : vs) : Option Int32 := if sk0 ≤ (S.1 (0, 1) 21) then some sk0 else some 1000000

def fX8_apart (F : Nat) (x1 : Int32) (x2 : Int32) (S : vs) : Option Int32 := gd (inb x1 (alen 0 S.2.2 (0, 40))) (gd (inb x2 (alen 0 S.2.2 (0, 39))) (ltt ((S.1 (0, 40) x1.toNatClampNeg) - (S.1 (0, 39) x2.toNatClampNeg)) (fun x_3 => if 0 ≤ x_3 then jX8_apart_24 F x_3 S else jX8_apart_24 F (-x_3) S)))
theorem tjX8_apart_24 (l : Launch) (G : vg) (F : Nat) (sk0 : Int32) (S : vs) : V l G mX8_apart none (phP S) (jX8_apart_24 F sk0 S) 24 [(0, vR (0, 1))] [vI sk0] (enc S) 0 0 := by
  unfold jX8_apart_24
  refine V.istore_n (L' := [(0, vR (0, 1)), (3, vI sk0)]) dX8_apart_24 (by decide) rfl rfl ?_
  refine V.iload_n dX8_apart_25 1 rfl ?_
  refine V.aload_n dX8_apart_26 0 rfl ?_
  refine V.sgI 8 21 dX8_apart_27 gf_X8_185 sh0_1 rfl rfl ?_
  refine V.icmp_le 38 dX8_apart_30 (by decide) ?_ ?_
  · refine V.iload_n dX8_apart_38 1 rfl ?_
    exact V.iret rfl dX8_apart_39 rfl (by decide) (by decide)
  · refine V.ldc (v := 1000000) dX8_apart_33 ct_X8_188 ?_
    refine V.goto 39 dX8_apart_35 (by decide) ?_
    exact V.iret rfl dX8_apart_39 rfl (by decide) (by decide)

theorem kX8_apart (l : Launch) (G : vg) (F : Nat) (x1 : Int32) (x2 : Int32) (S : vs) : Rt l G mX8_apart none (phP S) [vR (0, 1), vI x1, vI x2] (enc S) (fX8_apart F x1 x2 S) := Rt.of rfl (Nat.le_of_ble_eq_true rfl) (by
  show V l G mX8_apart none (phP S) _ 0 [(0, vR (0, 1)), (1, vI x1), (2, vI x2)] [] (enc S) 0 0
  unfold fX8_apart
  refine V.aload_n dX8_apart_0 0 rfl ?_
  refine V.sgR 8 23 dX8_apart_1 gf_X8_62 sh0_1 rfl rfl ?_
  refine V.iload_n dX8_apart_4 1 rfl ?_
  refine V.chk fun h_1 => ?_
  refine V.sia dX8_apart_5 h_1 ?_
  refine V.aload_n dX8_apart_6 0 rfl ?_
  refine V.sgR 8 22 dX8_apart_7 gf_X8_59 sh0_1 rfl rfl ?_
  refine V.iload_n dX8_apart_10 2 rfl ?_
  refine V.chk fun h_2 => ?_
  refine V.sia dX8_apart_11 h_2 ?_
  refine V.isub dX8_apart_12 ?_
  refine V.lett fun x_3 => ?_
  refine V.istore_n (L' := [(0, vR (0, 1)), (1, vI x1), (2, vI x2), (3, vI x_3)]) dX8_apart_13 (by decide) rfl rfl ?_
  refine V.iload_n dX8_apart_14 3 rfl ?_
  refine V.if_ge 23 dX8_apart_15 (by decide) ?_ ?_
  · refine V.iload_n dX8_apart_23 3 rfl ?_
    exact V.lsub [0] rfl (tjX8_apart_24 l G F x_3 S)
  · refine V.iload_n dX8_apart_18 3 rfl ?_
    refine V.ineg dX8_apart_19 ?_
    refine V.goto 24 dX8_apart_20 (by decide) ?_
    exact V.lsub [0] rfl (tjX8_apart_24 l G F (-x_3) S))

