abbrev mX8_weigh : vmt := (yX8_weigh, cX8_weigh, 8, none, { frames := 1, cells := 0, slots := 0, locals := 20 })
theorem mfX8_weigh : mfV mX8_weigh 2 := ⟨im_X8_weigh, se_X8_weigh, ini_X8, co_X8_weigh, by decide, by decide, by decide +kernel⟩
def jX8_weigh_205 (k35 : Int32 → Int32 → vs → Option vs) (F : Nat) (x2 : Int32) (x3 : Int32) (x4 : Int32) (S : vs) : Option vs := ltt (x4 + (-1)) (fun x_8 => k35 x3 x_8 S)

def jX8_weigh_203 (k35 : Int32 → Int32 → vs → Option vs) (F : Nat) (x2 : Int32) (x3 : Int32) (x4 : Int32) (sk0 : Int32) (sk1 : Int32) (sk2 : Int32) (S : vs) : Option vs := gd (inb sk2 (alen 0 S.2.2 (0, 48))) (stp (s2 S (0, 48) sk2.toNatClampNeg (sk1 + sk0)) (fun S_19 => jX8_weigh_205 k35 F x2 x3 x4 S_19))

def jX8_weigh_147 (k35 : Int32 → Int32 → vs → Option vs) (F : Nat) (x2 : Int32) (x3 : Int32) (x4 : Int32) (x5 : Int32) (x6 : Int32) (sk0 : Int32) (S : vs) : Option vs := gd (inb x6 (alen 0 S.2.2 (0, 23))) (stp (s2 S (0, 1) 33 ((S.1 (0, 1) 33) + ((S.1 (0, 23) x6.toNatClampNeg) * sk0))) (fun S_15 => gd (inb (x5 / 2) (alen 0 S_15.2.2 (0, 48))) (if (x5 - x5 / 2 * 2) = 1 then gd (inb x6 (alen 0 S_15.2.2 (0, 28))) (jX8_weigh_203 k35 F x2 x3 x4 (S_15.1 (0, 28) x6.toNatClampNeg) (S_15.1 (0, 48) (x5 / 2).toNatClampNeg) (x5 / 2) S_15) else gd (inb x6 (alen 0 S_15.2.2 (0, 27))) (jX8_weigh_203 k35 F x2 x3 x4 (S_15.1 (0, 27) x6.toNatClampNeg) (S_15.1 (0, 48) (x5 / 2).toNatClampNeg) (x5 / 2) S_15))))

def jX8_weigh_78 (k35 : Int32 → Int32 → vs → Option vs) (F : Nat) (x2 : Int32) (x3 : Int32) (x4 : Int32) (x5 : Int32) (sk0 : Int32) (sk1 : Int32) (S : vs) : Option vs := gd (inb sk1 (alen 0 S.2.2 (0, 47))) (stp (s2 S (0, 47) sk1.toNatClampNeg sk0) (fun S_7 => if (2 * x2) ≤ x5 then jX8_weigh_205 k35 F x2 x3 x4 S_7 else gd (inb x4 (alen 0 S_7.2.2 (0, 46))) (ltt (S_7.1 (0, 46) x4.toNatClampNeg) (fun x_10 => gd (inb x_10 (alen 0 S_7.2.2 (0, 24))) (gd (inb x_10 (alen 0 S_7.2.2 (0, 26))) ((fX8_atLeastNone F ((S_7.1 (0, 24) x_10.toNatClampNeg) - ((x5 / 2) * (S_7.1 (0, 26) x_10.toNatClampNeg))) S_7).bind (fun a_13 => if (x5 - x5 / 2 * 2) = 1 then gd (inb x_10 (alen 0 S_7.2.2 (0, 25))) ((fX8_atLeastNone F (a_13 - (S_7.1 (0, 25) x_10.toNatClampNeg)) S_7).bind (fun a_22 => jX8_weigh_147 k35 F x2 x3 x4 x5 x_10 a_22 S_7)) else jX8_weigh_147 k35 F x2 x3 x4 x5 x_10 a_13 S_7)))))))

def hX8_weigh_35 (F : Nat) (x2 : Int32) : Nat → Int32 → Int32 → vs → Option vs
  | 0, _, _, _ => none
  | n + 1, x3, x4, S => if x4 < 0 then some S else gd (nz ((2 * x2) + 1)) (ltt (x3 - x3 / ((2 * x2) + 1) * ((2 * x2) + 1)) (fun x_4 => ltt (x3 / ((2 * x2) + 1)) (fun x_5 => if x_4 = (2 * x2) then jX8_weigh_78 (hX8_weigh_35 F x2 n) F x2 x_5 x4 x_4 (-9) x4 S else jX8_weigh_78 (hX8_weigh_35 F x2 n) F x2 x_5 x4 x_4 x_4 x4 S)))

def hX8_weigh_7 (F : Nat) (x1 : Int32) (x2 : Int32) : Nat → Int32 → vs → Option vs
  | 0, _, _ => none
  | n + 1, x3, S => if 3 ≤ x3 then ltt ((S.1 (0, 1) 30) - 1) (fun x_2 => hX8_weigh_35 F x2 F x1 x_2 S) else gd (inb x3 (alen 0 S.2.2 (0, 48))) (stp (s2 S (0, 48) x3.toNatClampNeg 0) (fun S_24 => ltt (x3 + 1) (fun x_25 => hX8_weigh_7 F x1 x2 n x_25 S_24)))

def fX8_weigh (F : Nat) (x1 : Int32) (x2 : Int32) (S : vs) : Option vs := stp (s2 S (0, 1) 33 0) (fun S_1 => hX8_weigh_7 F x1 x2 F 0 S_1)
theorem tjX8_weigh_205 (l : Launch) (G : vg) (F : Nat) (x2 : Int32) (x3 : Int32) (x4 : Int32) (S : vs) (k35 : Int32 → Int32 → vs → Option vs) (H35 : ∀ (z3 : Int32), ∀ (z4 : Int32), ∀ (Sz : vs), V l G mX8_weigh none phV (k35 z3 z4 Sz) 35 [(0, vR (0, 1)), (2, vI x2), (3, vI z3), (4, vI z4)] [] (enc Sz) 0 0) : V l G mX8_weigh none phV (jX8_weigh_205 k35 F x2 x3 x4 S) 205 [(0, vR (0, 1)), (2, vI x2), (3, vI x3), (4, vI x4)] [] (enc S) 0 0 := by
  unfold jX8_weigh_205
  refine V.lti (e := x4 + (-1)) (fun x_8 he => ?_)
  refine V.iinc (v := x_8) (L' := [(0, vR (0, 1)), (2, vI x2), (3, vI x3), (4, vI x_8)]) dX8_weigh_205 3 rfl he.symm (by decide) rfl rfl ?_
  refine V.goto 35 dX8_weigh_208 (by decide) ?_
  exact (H35 x3 x_8 S)

theorem tjX8_weigh_203 (l : Launch) (G : vg) (F : Nat) (x2 : Int32) (x3 : Int32) (x4 : Int32) (sk0 : Int32) (sk1 : Int32) (sk2 : Int32) (S : vs) (k35 : Int32 → Int32 → vs → Option vs) (H35 : ∀ (z3 : Int32), ∀ (z4 : Int32), ∀ (Sz : vs), V l G mX8_weigh none phV (k35 z3 z4 Sz) 35 [(0, vR (0, 1)), (2, vI x2), (3, vI z3), (4, vI z4)] [] (enc Sz) 0 0) : V l G mX8_weigh none phV (jX8_weigh_203 k35 F x2 x3 x4 sk0 sk1 sk2 S) 203 [(0, vR (0, 1)), (2, vI x2), (3, vI x3), (4, vI x4)] [vI sk0, vI sk1, vI sk2, vR (0, 48)] (enc S) 0 0 := by
  unfold jX8_weigh_203
  refine V.iadd dX8_weigh_203 ?_
  refine V.chk fun h_18 => ?_
  refine V.sis dX8_weigh_204 h_18 ?_
  refine V.sst fun S_19 => ?_
  exact (tjX8_weigh_205 l G F x2 x3 x4 S_19 k35 H35)

theorem tjX8_weigh_147 (l : Launch) (G : vg) (F : Nat) (x2 : Int32) (x3 : Int32) (x4 : Int32) (x5 : Int32) (x6 : Int32) (sk0 : Int32) (S : vs) (k35 : Int32 → Int32 → vs → Option vs) (H35 : ∀ (z3 : Int32), ∀ (z4 : Int32), ∀ (Sz : vs), V l G mX8_weigh none phV (k35 z3 z4 Sz) 35 [(0, vR (0, 1)), (2, vI x2), (3, vI z3), (4, vI z4)] [] (enc Sz) 0 0) : V l G mX8_weigh none phV (jX8_weigh_147 k35 F x2 x3 x4 x5 x6 sk0 S) 147 [(0, vR (0, 1)), (2, vI x2), (3, vI x3), (4, vI x4), (5, vI x5), (6, vI x6)] [vI sk0] (enc S) 0 0 := by
  unfold jX8_weigh_147
  refine V.istore (L' := [(0, vR (0, 1)), (2, vI x2), (3, vI x3), (4, vI x4), (5, vI x5), (6, vI x6), (7, vI sk0)]) dX8_weigh_147 (by decide) rfl rfl ?_
  refine V.aload_n dX8_weigh_149 0 rfl ?_
  refine V.dup dX8_weigh_150 rfl ?_
  refine V.sgI 8 33 dX8_weigh_151 gf_X8_124 sh0_1 rfl rfl ?_
  refine V.aload_n dX8_weigh_154 0 rfl ?_
  refine V.sgR 8 3 dX8_weigh_155 gf_X8_7 sh0_1 rfl rfl ?_
  refine V.iload dX8_weigh_158 5 rfl ?_
  refine V.chk fun h_14 => ?_
  refine V.sia dX8_weigh_160 h_14 ?_
  refine V.iload dX8_weigh_161 6 rfl ?_
  refine V.imul dX8_weigh_163 ?_
  refine V.iadd dX8_weigh_164 ?_
  refine V.spI 8 33 dX8_weigh_165 pf_X8_124 sh0_1 rfl rfl ?_
  refine V.sst fun S_15 => ?_
  refine V.aload_n dX8_weigh_168 0 rfl ?_
  refine V.sgR 8 34 dX8_weigh_169 gf_X8_86 sh0_1 rfl rfl ?_
  refine V.iload dX8_weigh_172 4 rfl ?_
  refine V.iconst (v := 2) dX8_weigh_174 (by decide) ?_
  refine V.idiv dX8_weigh_175 (by decide) ?_
  refine V.dup2 dX8_weigh_176 rfl rfl ?_
  refine V.chk fun h_16 => ?_
  refine V.sia dX8_weigh_177 h_16 ?_
  refine V.iload dX8_weigh_178 4 rfl ?_
  refine V.iconst (v := 2) dX8_weigh_180 (by decide) ?_
  refine V.irem dX8_weigh_181 (by decide) ?_
  refine V.iconst (v := 1) dX8_weigh_182 (by decide) ?_
  refine V.icmp_ne 196 dX8_weigh_183 (by decide) ?_ ?_
  · refine V.aload_n dX8_weigh_196 0 rfl ?_
    refine V.sgR 8 7 dX8_weigh_197 gf_X8_22 sh0_1 rfl rfl ?_
    refine V.iload dX8_weigh_200 5 rfl ?_
    refine V.chk fun h_17 => ?_
    refine V.sia dX8_weigh_202 h_17 ?_
    exact V.lsub [0, 1, 2, 3] rfl (tjX8_weigh_203 l G F x2 x3 x4 (S_15.1 (0, 27) x6.toNatClampNeg) (S_15.1 (0, 48) (x5 / 2).toNatClampNeg) (x5 / 2) S_15 k35 H35)
  · refine V.aload_n dX8_weigh_186 0 rfl ?_
    refine V.sgR 8 8 dX8_weigh_187 gf_X8_25 sh0_1 rfl rfl ?_
    refine V.iload dX8_weigh_190 5 rfl ?_
    refine V.chk fun h_20 => ?_
    refine V.sia dX8_weigh_192 h_20 ?_
    refine V.goto 203 dX8_weigh_193 (by decide) ?_
    exact V.lsub [0, 1, 2, 3] rfl (tjX8_weigh_203 l G F x2 x3 x4 (S_15.1 (0, 28) x6.toNatClampNeg) (S_15.1 (0, 48) (x5 / 2).toNatClampNeg) (x5 / 2) S_15 k35 H35)

theorem tjX8_weigh_78 (l : Launch) (G : vg) (F : Nat) (x2 : Int32) (x3 : Int32) (x4 : Int32) (x5 : Int32) (sk0 : Int32) (sk1 : Int32) (S : vs) (k35 : Int32 → Int32 → vs → Option vs) (H35 : ∀ (z3 : Int32), ∀ (z4 : Int32), ∀ (Sz : vs), V l G mX8_weigh none phV (k35 z3 z4 Sz) 35 [(0, vR (0, 1)), (2, vI x2), (3, vI z3), (4, vI z4)] [] (enc Sz) 0 0) : V l G mX8_weigh none phV (jX8_weigh_78 k35 F x2 x3 x4 x5 sk0 sk1 S) 78 [(0, vR (0, 1)), (2, vI x2), (3, vI x3), (4, vI x4), (5, vI x5)] [vI sk0, vI sk1, vR (0, 47)] (enc S) 0 0 := by
  unfold jX8_weigh_78
  refine V.chk fun h_6 => ?_
  refine V.sis dX8_weigh_78 h_6 ?_
  refine V.sst fun S_7 => ?_
  refine V.iload dX8_weigh_79 4 rfl ?_
  refine V.iconst (v := 2) dX8_weigh_81 (by decide) ?_
  refine V.iload_n dX8_weigh_82 1 rfl ?_
  refine V.imul dX8_weigh_83 ?_
  refine V.icmp_ge 205 dX8_weigh_84 (by decide) ?_ ?_
  · exact V.lsub [0, 1, 2, 3] rfl (tjX8_weigh_205 l G F x2 x3 x4 S_7 k35 H35)
  · refine V.aload_n dX8_weigh_87 0 rfl ?_
    refine V.sgR 8 31 dX8_weigh_88 gf_X8_80 sh0_1 rfl rfl ?_
    refine V.iload dX8_weigh_91 3 rfl ?_
    refine V.chk fun h_9 => ?_
    refine V.sia dX8_weigh_93 h_9 ?_
    refine V.lett fun x_10 => ?_
    refine V.istore (L' := [(0, vR (0, 1)), (2, vI x2), (3, vI x3), (4, vI x4), (5, vI x5), (6, vI x_10)]) dX8_weigh_94 (by decide) rfl rfl ?_
    refine V.aload_n dX8_weigh_96 0 rfl ?_
    refine V.sgR 8 4 dX8_weigh_97 gf_X8_13 sh0_1 rfl rfl ?_
    refine V.iload dX8_weigh_100 5 rfl ?_
    refine V.chk fun h_11 => ?_
    refine V.sia dX8_weigh_102 h_11 ?_
    refine V.iload dX8_weigh_103 4 rfl ?_
    refine V.iconst (v := 2) dX8_weigh_105 (by decide) ?_
    refine V.idiv dX8_weigh_106 (by decide) ?_
    refine V.aload_n dX8_weigh_107 0 rfl ?_
    refine V.sgR 8 6 dX8_weigh_108 gf_X8_19 sh0_1 rfl rfl ?_
    refine V.iload dX8_weigh_111 5 rfl ?_
    refine V.chk fun h_12 => ?_
    refine V.sia dX8_weigh_113 h_12 ?_
    refine V.imul dX8_weigh_114 ?_
    refine V.isub dX8_weigh_115 ?_
    refine V.callS (M' := mX8_atLeastNone) (As := [vI ((S_7.1 (0, 24) x_10.toNatClampNeg) - ((x5 / 2) * (S_7.1 (0, 26) x_10.toNatClampNeg)))]) (ψ := (phP S_7)) dX8_weigh_116 ml_X8_114 mfX8_atLeastNone rfl ⟨by decide, by decide⟩ ⟨by decide, by decide⟩ (Nat.le_of_ble_eq_true rfl) rfl (kX8_atLeastNone l G F ((S_7.1 (0, 24) x_10.toNatClampNeg) - ((x5 / 2) * (S_7.1 (0, 26) x_10.toNatClampNeg))) S_7) (fun a_13 => ?_)
    show V l G mX8_weigh none phV _ 119 [(0, vR (0, 1)), (2, vI x2), (3, vI x3), (4, vI x4), (5, vI x5), (6, vI x_10)] [vI a_13] (enc S_7) 0 0
    refine V.istore (L' := [(0, vR (0, 1)), (2, vI x2), (3, vI x3), (4, vI x4), (5, vI x5), (6, vI x_10), (7, vI a_13)]) dX8_weigh_119 (by decide) rfl rfl ?_
    refine V.iload dX8_weigh_121 4 rfl ?_
    refine V.iconst (v := 2) dX8_weigh_123 (by decide) ?_
    refine V.irem dX8_weigh_124 (by decide) ?_
    refine V.iconst (v := 1) dX8_weigh_125 (by decide) ?_
    refine V.icmp_ne 145 dX8_weigh_126 (by decide) ?_ ?_
    · refine V.iload dX8_weigh_145 6 rfl ?_
      exact V.lsub [0, 1, 2, 3, 4, 5] rfl (tjX8_weigh_147 l G F x2 x3 x4 x5 x_10 a_13 S_7 k35 H35)
    · refine V.iload dX8_weigh_129 6 rfl ?_
      refine V.aload_n dX8_weigh_131 0 rfl ?_
      refine V.sgR 8 5 dX8_weigh_132 gf_X8_16 sh0_1 rfl rfl ?_
      refine V.iload dX8_weigh_135 5 rfl ?_
      refine V.chk fun h_21 => ?_
      refine V.sia dX8_weigh_137 h_21 ?_
      refine V.isub dX8_weigh_138 ?_
      refine V.callS (M' := mX8_atLeastNone) (As := [vI (a_13 - (S_7.1 (0, 25) x_10.toNatClampNeg))]) (ψ := (phP S_7)) dX8_weigh_139 ml_X8_114 mfX8_atLeastNone rfl ⟨by decide, by decide⟩ ⟨by decide, by decide⟩ (Nat.le_of_ble_eq_true rfl) rfl (kX8_atLeastNone l G F (a_13 - (S_7.1 (0, 25) x_10.toNatClampNeg)) S_7) (fun a_22 => ?_)
      show V l G mX8_weigh none phV _ 142 [(0, vR (0, 1)), (2, vI x2), (3, vI x3), (4, vI x4), (5, vI x5), (6, vI x_10), (7, vI a_13)] [vI a_22] (enc S_7) 0 0
      refine V.goto 147 dX8_weigh_142 (by decide) ?_
      exact V.lsub [0, 1, 2, 3, 4, 5] rfl (tjX8_weigh_147 l G F x2 x3 x4 x5 x_10 a_22 S_7 k35 H35)

theorem thX8_weigh_35 (l : Launch) (G : vg) (F : Nat) (x2 : Int32) : ∀ (n : Nat) (x3 : Int32) (x4 : Int32) (S : vs), V l G mX8_weigh none phV (hX8_weigh_35 F x2 n x3 x4 S) 35 [(0, vR (0, 1)), (2, vI x2), (3, vI x3), (4, vI x4)] [] (enc S) 0 0
  | 0, _, _, _ => V.nil
  | n + 1, x3, x4, S => by
    have ih := thX8_weigh_35 l G F x2 n
    rw [hX8_weigh_35]
    refine V.iload dX8_weigh_35 3 rfl ?_
    refine V.if_lt 211 dX8_weigh_37 (by decide) ?_ ?_
    · exact V.vret rfl dX8_weigh_211 rfl (by decide) (by decide)
    · refine V.iload_n dX8_weigh_40 2 rfl ?_
      refine V.iconst (v := 2) dX8_weigh_41 (by decide) ?_
      refine V.iload_n dX8_weigh_42 1 rfl ?_
      refine V.imul dX8_weigh_43 ?_
      refine V.iconst (v := 1) dX8_weigh_44 (by decide) ?_
      refine V.iadd dX8_weigh_45 ?_
      refine V.chk fun h_3 => ?_
      refine V.irem dX8_weigh_46 (nz_n h_3) ?_
      refine V.lett fun x_4 => ?_
      refine V.istore (L' := [(0, vR (0, 1)), (2, vI x2), (3, vI x3), (4, vI x4), (5, vI x_4)]) dX8_weigh_47 (by decide) rfl rfl ?_
      refine V.iload_n dX8_weigh_49 2 rfl ?_
      refine V.iconst (v := 2) dX8_weigh_50 (by decide) ?_
      refine V.iload_n dX8_weigh_51 1 rfl ?_
      refine V.imul dX8_weigh_52 ?_
      refine V.iconst (v := 1) dX8_weigh_53 (by decide) ?_
      refine V.iadd dX8_weigh_54 ?_
      refine V.idiv dX8_weigh_55 (nz_n h_3) ?_
      refine V.lett fun x_5 => ?_
      refine V.istore_n (L' := [(0, vR (0, 1)), (2, vI x2), (3, vI x_5), (4, vI x4), (5, vI x_4)]) dX8_weigh_56 (by decide) rfl rfl ?_
      refine V.aload_n dX8_weigh_57 0 rfl ?_
      refine V.sgR 8 32 dX8_weigh_58 gf_X8_83 sh0_1 rfl rfl ?_
      refine V.iload dX8_weigh_61 3 rfl ?_
      refine V.iload dX8_weigh_63 4 rfl ?_
      refine V.iconst (v := 2) dX8_weigh_65 (by decide) ?_
      refine V.iload_n dX8_weigh_66 1 rfl ?_
      refine V.imul dX8_weigh_67 ?_
      refine V.icmp_ne 76 dX8_weigh_68 (by decide) ?_ ?_
      · refine V.iload dX8_weigh_76 4 rfl ?_
        exact (tjX8_weigh_78 l G F x2 x_5 x4 x_4 x_4 x4 S (hX8_weigh_35 F x2 n) ih)
      · refine V.bipush (v := (-9)) dX8_weigh_71 (by decide) ?_
        refine V.goto 78 dX8_weigh_73 (by decide) ?_
        exact (tjX8_weigh_78 l G F x2 x_5 x4 x_4 (-9) x4 S (hX8_weigh_35 F x2 n) ih)

theorem thX8_weigh_7 (l : Launch) (G : vg) (F : Nat) (x1 : Int32) (x2 : Int32) : ∀ (n : Nat) (x3 : Int32) (S : vs), V l G mX8_weigh none phV (hX8_weigh_7 F x1 x2 n x3 S) 7 [(0, vR (0, 1)), (1, vI x1), (2, vI x2), (3, vI x3)] [] (enc S) 0 0
  | 0, _, _ => V.nil
  | n + 1, x3, S => by
    have ih := thX8_weigh_7 l G F x1 x2 n
    rw [hX8_weigh_7]
    refine V.iload_n dX8_weigh_7 3 rfl ?_
    refine V.iconst (v := 3) dX8_weigh_8 (by decide) ?_
    refine V.icmp_ge 25 dX8_weigh_9 (by decide) ?_ ?_
    · refine V.iload_n dX8_weigh_25 1 rfl ?_
      refine V.istore_n (L' := [(0, vR (0, 1)), (1, vI x1), (2, vI x2), (3, vI x1)]) dX8_weigh_26 (by decide) rfl rfl ?_
      refine V.aload_n dX8_weigh_27 0 rfl ?_
      refine V.sgI 8 30 dX8_weigh_28 gf_X8_121 sh0_1 rfl rfl ?_
      refine V.iconst (v := 1) dX8_weigh_31 (by decide) ?_
      refine V.isub dX8_weigh_32 ?_
      refine V.lett fun x_2 => ?_
      refine V.istore (L' := [(0, vR (0, 1)), (1, vI x1), (2, vI x2), (3, vI x1), (4, vI x_2)]) dX8_weigh_33 (by decide) rfl rfl ?_
      exact V.lsub [0, 2, 3, 4] rfl (thX8_weigh_35 l G F x2 F x1 x_2 S)
    · refine V.aload_n dX8_weigh_12 0 rfl ?_
      refine V.sgR 8 34 dX8_weigh_13 gf_X8_86 sh0_1 rfl rfl ?_
      refine V.iload_n dX8_weigh_16 3 rfl ?_
      refine V.iconst (v := 0) dX8_weigh_17 (by decide) ?_
      refine V.chk fun h_23 => ?_
      refine V.sis dX8_weigh_18 h_23 ?_
      refine V.sst fun S_24 => ?_
      refine V.lti (e := x3 + 1) (fun x_25 he => ?_)
      refine V.iinc (v := x_25) (L' := [(0, vR (0, 1)), (1, vI x1), (2, vI x2), (3, vI x_25)]) dX8_weigh_19 3 rfl he.symm (by decide) rfl rfl ?_
      refine V.goto 7 dX8_weigh_22 (by decide) ?_
      exact (ih x_25 S_24)

theorem kX8_weigh (l : Launch) (G : vg) (F : Nat) (x1 : Int32) (x2 : Int32) (S : vs) : Rt l G mX8_weigh none phV [vR (0, 1), vI x1, vI x2] (enc S) (fX8_weigh F x1 x2 S) := Rt.of rfl (Nat.le_of_ble_eq_true rfl) (by
  show V l G mX8_weigh none phV _ 0 [(0, vR (0, 1)), (1, vI x1), (2, vI x2)] [] (enc S) 0 0
  unfold fX8_weigh
  refine V.aload_n dX8_weigh_0 0 rfl ?_
  refine V.iconst (v := 0) dX8_weigh_1 (by decide) ?_
  refine V.spI 8 33 dX8_weigh_2 pf_X8_124 sh0_1 rfl rfl ?_
  refine V.sst fun S_1 => ?_
  refine V.iconst (v := 0) dX8_weigh_5 (by decide) ?_
  refine V.istore_n (L' := [(0, vR (0, 1)), (1, vI x1), (2, vI x2), (3, vI 0)]) dX8_weigh_6 (by decide) rfl rfl ?_
  exact (thX8_weigh_7 l G F x1 x2 F 0 S_1))

abbrev mX8_most : vmt := (yX8_most, cX8_most, 2, (some .int), { frames := 0, cells := 0, slots := 0, locals := 0 })
theorem mfX8_most : mfV mX8_most 0 := ⟨im_X8_most, se_X8_most, ini_X8, co_X8_most, by decide, by decide, by decide +kernel⟩
def jX8_most_30 (F : Nat) (sk0 : Int32) (S : vs) : Option Int32 := gd (inb 2 (alen 0 S.2.2 (0, 48))) (if sk0 ≤ (S.1 (0, 48) (Int32.toNatClampNeg 2)) then some (S.1 (0, 48) (Int32.toNatClampNeg 2)) else some sk0)

def fX8_most (F : Nat) (S : vs) : Option Int32 := gd (inb 0 (alen 0 S.2.2 (0, 48))) (gd (inb 1 (alen 0 S.2.2 (0, 48))) (if (S.1 (0, 48) (Int32.toNatClampNeg 0)) ≤ (S.1 (0, 48) (Int32.toNatClampNeg 1)) then jX8_most_30 F (S.1 (0, 48) (Int32.toNatClampNeg 1)) S else jX8_most_30 F (S.1 (0, 48) (Int32.toNatClampNeg 0)) S))
theorem tjX8_most_30 (l : Launch) (G : vg) (F : Nat) (sk0 : Int32) (S : vs) : V l G mX8_most none (phP S) (jX8_most_30 F sk0 S) 30 [(0, vR (0, 1))] [vI sk0] (enc S) 0 0 := by
  unfold jX8_most_30
  refine V.istore_n (L' := [(0, vR (0, 1)), (1, vI sk0)]) dX8_most_30 (by decide) rfl rfl ?_
  refine V.iload_n dX8_most_31 1 rfl ?_
  refine V.aload_n dX8_most_32 0 rfl ?_
  refine V.sgR 8 34 dX8_most_33 gf_X8_86 sh0_1 rfl rfl ?_
  refine V.iconst (v := 2) dX8_most_36 (by decide) ?_
  refine V.chk fun h_3 => ?_
  refine V.sia dX8_most_37 h_3 ?_
  refine V.icmp_le 45 dX8_most_38 (by decide) ?_ ?_
  · refine V.aload_n dX8_most_45 0 rfl ?_
    refine V.sgR 8 34 dX8_most_46 gf_X8_86 sh0_1 rfl rfl ?_
    refine V.iconst (v := 2) dX8_most_49 (by decide) ?_
    refine V.sia dX8_most_50 h_3 ?_
    exact V.iret rfl dX8_most_51 rfl (by decide) (by decide)
  · refine V.iload_n dX8_most_41 1 rfl ?_
    refine V.goto 51 dX8_most_42 (by decide) ?_
    exact V.iret rfl dX8_most_51 rfl (by decide) (by decide)

theorem kX8_most (l : Launch) (G : vg) (F : Nat) (S : vs) : Rt l G mX8_most none (phP S) [vR (0, 1)] (enc S) (fX8_most F S) := Rt.of rfl (Nat.le_of_ble_eq_true rfl) (by
  show V l G mX8_most none (phP S) _ 0 [(0, vR (0, 1))] [] (enc S) 0 0
  unfold fX8_most
  refine V.aload_n dX8_most_0 0 rfl ?_
  refine V.sgR 8 34 dX8_most_1 gf_X8_86 sh0_1 rfl rfl ?_
  refine V.iconst (v := 0) dX8_most_4 (by decide) ?_
  refine V.chk fun h_1 => ?_
  refine V.sia dX8_most_5 h_1 ?_
  refine V.aload_n dX8_most_6 0 rfl ?_
  refine V.sgR 8 34 dX8_most_7 gf_X8_86 sh0_1 rfl rfl ?_
  refine V.iconst (v := 1) dX8_most_10 (by decide) ?_
  refine V.chk fun h_2 => ?_
  refine V.sia dX8_most_11 h_2 ?_
  refine V.icmp_le 24 dX8_most_12 (by decide) ?_ ?_
  · refine V.aload_n dX8_most_24 0 rfl ?_
    refine V.sgR 8 34 dX8_most_25 gf_X8_86 sh0_1 rfl rfl ?_
    refine V.iconst (v := 1) dX8_most_28 (by decide) ?_
    refine V.sia dX8_most_29 h_2 ?_
    exact (tjX8_most_30 l G F (S.1 (0, 48) (Int32.toNatClampNeg 1)) S)
  · refine V.aload_n dX8_most_15 0 rfl ?_
    refine V.sgR 8 34 dX8_most_16 gf_X8_86 sh0_1 rfl rfl ?_
    refine V.iconst (v := 0) dX8_most_19 (by decide) ?_
    refine V.sia dX8_most_20 h_1 ?_
    refine V.goto 30 dX8_most_21 (by decide) ?_
    exact (tjX8_most_30 l G F (S.1 (0, 48) (Int32.toNatClampNeg 0)) S))

abbrev mX8_codes : vmt := (yX8_codes, cX8_codes, 4, (some .int), { frames := 0, cells := 0, slots := 0, locals := 0 })
theorem mfX8_codes : mfV mX8_codes 1 := ⟨im_X8_codes, se_X8_codes, ini_X8, co_X8_codes, by decide, by decide, by decide +kernel⟩
def hX8_codes_4 (F : Nat) (S : vs) (x1 : Int32) : Nat → Int32 → Int32 → Option Int32
  | 0, _, _ => none
  | n + 1, x2, x3 => if (S.1 (0, 1) 30) ≤ x3 then some x2 else ltt (x2 * ((2 * x1) + 1)) (fun x_1 => ltt (x3 + 1) (fun x_2 => hX8_codes_4 F S x1 n x_1 x_2))

def fX8_codes (F : Nat) (x1 : Int32) (S : vs) : Option Int32 := hX8_codes_4 F S x1 F 1 0
theorem thX8_codes_4 (l : Launch) (G : vg) (F : Nat) (S : vs) (x1 : Int32) : ∀ (n : Nat) (x2 : Int32) (x3 : Int32), V l G mX8_codes none (phP S) (hX8_codes_4 F S x1 n x2 x3) 4 [(0, vR (0, 1)), (1, vI x1), (2, vI x2), (3, vI x3)] [] (enc S) 0 0
  | 0, _, _ => V.nil
  | n + 1, x2, x3 => by
    have ih := thX8_codes_4 l G F S x1 n
    rw [hX8_codes_4]
    refine V.iload_n dX8_codes_4 3 rfl ?_
    refine V.aload_n dX8_codes_5 0 rfl ?_
    refine V.sgI 8 30 dX8_codes_6 gf_X8_121 sh0_1 rfl rfl ?_
    refine V.icmp_ge 26 dX8_codes_9 (by decide) ?_ ?_
    · refine V.iload_n dX8_codes_26 2 rfl ?_
      exact V.iret rfl dX8_codes_27 rfl (by decide) (by decide)
    · refine V.iload_n dX8_codes_12 2 rfl ?_
      refine V.iconst (v := 2) dX8_codes_13 (by decide) ?_
      refine V.iload_n dX8_codes_14 1 rfl ?_
      refine V.imul dX8_codes_15 ?_
      refine V.iconst (v := 1) dX8_codes_16 (by decide) ?_
      refine V.iadd dX8_codes_17 ?_
      refine V.imul dX8_codes_18 ?_
      refine V.lett fun x_1 => ?_
      refine V.istore_n (L' := [(0, vR (0, 1)), (1, vI x1), (2, vI x_1), (3, vI x3)]) dX8_codes_19 (by decide) rfl rfl ?_
      refine V.lti (e := x3 + 1) (fun x_2 he => ?_)
      refine V.iinc (v := x_2) (L' := [(0, vR (0, 1)), (1, vI x1), (2, vI x_1), (3, vI x_2)]) dX8_codes_20 3 rfl he.symm (by decide) rfl rfl ?_
      refine V.goto 4 dX8_codes_23 (by decide) ?_
      exact (ih x_1 x_2)

theorem kX8_codes (l : Launch) (G : vg) (F : Nat) (x1 : Int32) (S : vs) : Rt l G mX8_codes none (phP S) [vR (0, 1), vI x1] (enc S) (fX8_codes F x1 S) := Rt.of rfl (Nat.le_of_ble_eq_true rfl) (by
  show V l G mX8_codes none (phP S) _ 0 [(0, vR (0, 1)), (1, vI x1)] [] (enc S) 0 0
  unfold fX8_codes
  refine V.iconst (v := 1) dX8_codes_0 (by decide) ?_
  refine V.istore_n (L' := [(0, vR (0, 1)), (1, vI x1), (2, vI 1)]) dX8_codes_1 (by decide) rfl rfl ?_
  refine V.iconst (v := 0) dX8_codes_2 (by decide) ?_
  refine V.istore_n (L' := [(0, vR (0, 1)), (1, vI x1), (2, vI 1), (3, vI 0)]) dX8_codes_3 (by decide) rfl rfl ?_
  exact (thX8_codes_4 l G F S x1 F 1 0))

abbrev mX8_plan : vmt := (yX8_plan, cX8_plan, 7, none, { frames := 2, cells := 0, slots := 0, locals := 47 })
theorem mfX8_plan : mfV mX8_plan 3 := ⟨im_X8_plan, se_X8_plan, ini_X8, co_X8_plan, by decide, by decide, by decide +kernel⟩
def jX8_plan_66 (k15 : Int32 → Int32 → Int32 → vs → Option vs) (F : Nat) (x2 : Int32) (x3 : Int32) (x4 : Int32) (x5 : Int32) (x6 : Int32) (S : vs) : Option vs := ltt (x6 + 1) (fun x_6 => k15 x4 x5 x_6 S)

def jX8_plan_56 (k15 : Int32 → Int32 → Int32 → vs → Option vs) (F : Nat) (x2 : Int32) (x3 : Int32) (x6 : Int32) (S : vs) : Option vs := ltt (S.1 (0, 1) 33) (fun x_7 => jX8_plan_66 k15 F x2 x3 x6 x_7 x6 S)

def hX8_plan_15 (F : Nat) (x2 : Int32) (x3 : Int32) : Nat → Int32 → Int32 → Int32 → vs → Option vs
  | 0, _, _, _, _ => none
  | n + 1, x4, x5, x6, S => (fX8_codes F x2 S).bind (fun a_2 => if a_2 ≤ x6 then (fX8_weigh F x4 x2 S).bind (fun a_3 => some a_3) else (fX8_weigh F x6 x2 S).bind (fun a_4 => (fX8_most F a_4).bind (fun a_5 => if x3 < a_5 then jX8_plan_66 (hX8_plan_15 F x2 x3 n) F x2 x3 x4 x5 x6 a_4 else if x4 = (-9) then jX8_plan_56 (hX8_plan_15 F x2 x3 n) F x2 x3 x6 a_4 else if (a_4.1 (0, 1) 33) ≤ x5 then jX8_plan_66 (hX8_plan_15 F x2 x3 n) F x2 x3 x4 x5 x6 a_4 else jX8_plan_56 (hX8_plan_15 F x2 x3 n) F x2 x3 x6 a_4)))

def fX8_plan (F : Nat) (x1 : Int32) (x2 : Int32) (x3 : Int32) (S : vs) : Option vs := (fX8_gather F x1 S).bind (fun a_1 => hX8_plan_15 F x2 x3 F (-9) 0 0 a_1)
theorem tjX8_plan_66 (l : Launch) (G : vg) (F : Nat) (x2 : Int32) (x3 : Int32) (x4 : Int32) (x5 : Int32) (x6 : Int32) (S : vs) (k15 : Int32 → Int32 → Int32 → vs → Option vs) (H15 : ∀ (z4 : Int32), ∀ (z5 : Int32), ∀ (z6 : Int32), ∀ (Sz : vs), V l G mX8_plan none phV (k15 z4 z5 z6 Sz) 15 [(0, vR (0, 1)), (2, vI x2), (3, vI x3), (4, vI z4), (5, vI z5), (6, vI z6)] [] (enc Sz) 0 0) : V l G mX8_plan none phV (jX8_plan_66 k15 F x2 x3 x4 x5 x6 S) 66 [(0, vR (0, 1)), (2, vI x2), (3, vI x3), (4, vI x4), (5, vI x5), (6, vI x6)] [] (enc S) 0 0 := by
  unfold jX8_plan_66
  refine V.lti (e := x6 + 1) (fun x_6 he => ?_)
  refine V.iinc (v := x_6) (L' := [(0, vR (0, 1)), (2, vI x2), (3, vI x3), (4, vI x4), (5, vI x5), (6, vI x_6)]) dX8_plan_66 5 rfl he.symm (by decide) rfl rfl ?_
  refine V.goto 15 dX8_plan_69 (by decide) ?_
  exact (H15 x4 x5 x_6 S)

theorem tjX8_plan_56 (l : Launch) (G : vg) (F : Nat) (x2 : Int32) (x3 : Int32) (x6 : Int32) (S : vs) (k15 : Int32 → Int32 → Int32 → vs → Option vs) (H15 : ∀ (z4 : Int32), ∀ (z5 : Int32), ∀ (z6 : Int32), ∀ (Sz : vs), V l G mX8_plan none phV (k15 z4 z5 z6 Sz) 15 [(0, vR (0, 1)), (2, vI x2), (3, vI x3), (4, vI z4), (5, vI z5), (6, vI z6)] [] (enc Sz) 0 0) : V l G mX8_plan none phV (jX8_plan_56 k15 F x2 x3 x6 S) 56 [(0, vR (0, 1)), (2, vI x2), (3, vI x3), (6, vI x6)] [] (enc S) 0 0 := by
  unfold jX8_plan_56
  refine V.iload dX8_plan_56 3 rfl ?_
  refine V.istore (L' := [(0, vR (0, 1)), (2, vI x2), (3, vI x3), (6, vI x6), (4, vI x6)]) dX8_plan_58 (by decide) rfl rfl ?_
  refine V.aload_n dX8_plan_60 0 rfl ?_
  refine V.sgI 8 33 dX8_plan_61 gf_X8_124 sh0_1 rfl rfl ?_
  refine V.lett fun x_7 => ?_
  refine V.istore (L' := [(0, vR (0, 1)), (2, vI x2), (3, vI x3), (6, vI x6), (4, vI x6), (5, vI x_7)]) dX8_plan_64 (by decide) rfl rfl ?_
  exact V.lsub [0, 1, 2, 4, 5, 3] rfl (tjX8_plan_66 l G F x2 x3 x6 x_7 x6 S k15 H15)

theorem thX8_plan_15 (l : Launch) (G : vg) (F : Nat) (x2 : Int32) (x3 : Int32) : ∀ (n : Nat) (x4 : Int32) (x5 : Int32) (x6 : Int32) (S : vs), V l G mX8_plan none phV (hX8_plan_15 F x2 x3 n x4 x5 x6 S) 15 [(0, vR (0, 1)), (2, vI x2), (3, vI x3), (4, vI x4), (5, vI x5), (6, vI x6)] [] (enc S) 0 0
  | 0, _, _, _, _ => V.nil
  | n + 1, x4, x5, x6, S => by
    have ih := thX8_plan_15 l G F x2 x3 n
    rw [hX8_plan_15]
    refine V.iload dX8_plan_15 5 rfl ?_
    refine V.aload_n dX8_plan_17 0 rfl ?_
    refine V.iload_n dX8_plan_18 1 rfl ?_
    refine V.callV (M' := mX8_codes) (As := [vI x2]) (ψ := (phP S)) dX8_plan_19 ml_X8_131 mfX8_codes rfl ⟨by decide, by decide⟩ ⟨by decide, by decide⟩ (enc_at rfl sh0_1) rfl (Nat.le_of_ble_eq_true rfl) rfl (kX8_codes l G F x2 S) (fun a_2 => ?_)
    show V l G mX8_plan none phV _ 22 [(0, vR (0, 1)), (2, vI x2), (3, vI x3), (4, vI x4), (5, vI x5), (6, vI x6)] [vI a_2, vI x6] (enc S) 0 0
    refine V.icmp_ge 72 dX8_plan_22 (by decide) ?_ ?_
    · refine V.aload_n dX8_plan_72 0 rfl ?_
      refine V.iload dX8_plan_73 3 rfl ?_
      refine V.iload_n dX8_plan_75 1 rfl ?_
      refine V.callV (M' := mX8_weigh) (As := [vI x4, vI x2]) (ψ := phV) dX8_plan_76 ml_X8_134 mfX8_weigh rfl ⟨by decide, by decide⟩ ⟨by decide, by decide⟩ (enc_at rfl sh0_1) rfl (Nat.le_of_ble_eq_true rfl) rfl (kX8_weigh l G F x4 x2 S) (fun a_3 => ?_)
      show V l G mX8_plan none phV _ 79 [(0, vR (0, 1)), (2, vI x2), (3, vI x3), (4, vI x4), (5, vI x5), (6, vI x6)] [] (enc a_3) 0 0
      exact V.vret rfl dX8_plan_79 rfl (by decide) (by decide)
    · refine V.aload_n dX8_plan_25 0 rfl ?_
      refine V.iload dX8_plan_26 5 rfl ?_
      refine V.iload_n dX8_plan_28 1 rfl ?_
      refine V.callV (M' := mX8_weigh) (As := [vI x6, vI x2]) (ψ := phV) dX8_plan_29 ml_X8_134 mfX8_weigh rfl ⟨by decide, by decide⟩ ⟨by decide, by decide⟩ (enc_at rfl sh0_1) rfl (Nat.le_of_ble_eq_true rfl) rfl (kX8_weigh l G F x6 x2 S) (fun a_4 => ?_)
      show V l G mX8_plan none phV _ 32 [(0, vR (0, 1)), (2, vI x2), (3, vI x3), (4, vI x4), (5, vI x5), (6, vI x6)] [] (enc a_4) 0 0
      refine V.aload_n dX8_plan_32 0 rfl ?_
      refine V.callV (M' := mX8_most) (As := []) (ψ := (phP a_4)) dX8_plan_33 ml_X8_138 mfX8_most rfl ⟨by decide, by decide⟩ ⟨by decide, by decide⟩ (enc_at rfl sh0_1) rfl (Nat.le_of_ble_eq_true rfl) rfl (kX8_most l G F a_4) (fun a_5 => ?_)
      show V l G mX8_plan none phV _ 36 [(0, vR (0, 1)), (2, vI x2), (3, vI x3), (4, vI x4), (5, vI x5), (6, vI x6)] [vI a_5] (enc a_4) 0 0
      refine V.iload_n dX8_plan_36 2 rfl ?_
      refine V.icmp_gt 66 dX8_plan_37 (by decide) ?_ ?_
      · exact (tjX8_plan_66 l G F x2 x3 x4 x5 x6 a_4 (hX8_plan_15 F x2 x3 n) ih)
      · refine V.iload dX8_plan_40 3 rfl ?_
        refine V.bipush (v := (-9)) dX8_plan_42 (by decide) ?_
        refine V.icmp_eq 56 dX8_plan_44 (by decide) ?_ ?_
        · exact V.lsub [0, 1, 2, 5] rfl (tjX8_plan_56 l G F x2 x3 x6 a_4 (hX8_plan_15 F x2 x3 n) ih)
        · refine V.aload_n dX8_plan_47 0 rfl ?_
          refine V.sgI 8 33 dX8_plan_48 gf_X8_124 sh0_1 rfl rfl ?_
          refine V.iload dX8_plan_51 4 rfl ?_
          refine V.icmp_le 66 dX8_plan_53 (by decide) ?_ ?_
          · exact (tjX8_plan_66 l G F x2 x3 x4 x5 x6 a_4 (hX8_plan_15 F x2 x3 n) ih)
          · exact V.lsub [0, 1, 2, 5] rfl (tjX8_plan_56 l G F x2 x3 x6 a_4 (hX8_plan_15 F x2 x3 n) ih)

theorem kX8_plan (l : Launch) (G : vg) (F : Nat) (x1 : Int32) (x2 : Int32) (x3 : Int32) (S : vs) : Rt l G mX8_plan none phV [vR (0, 1), vI x1, vI x2, vI x3] (enc S) (fX8_plan F x1 x2 x3 S) := Rt.of rfl (Nat.le_of_ble_eq_true rfl) (by
  show V l G mX8_plan none phV _ 0 [(0, vR (0, 1)), (1, vI x1), (2, vI x2), (3, vI x3)] [] (enc S) 0 0
  unfold fX8_plan
  refine V.aload_n dX8_plan_0 0 rfl ?_
  refine V.iload_n dX8_plan_1 1 rfl ?_
  refine V.callV (M' := mX8_gather) (As := [vI x1]) (ψ := phV) dX8_plan_2 ml_X8_127 mfX8_gather rfl ⟨by decide, by decide⟩ ⟨by decide, by decide⟩ (enc_at rfl sh0_1) rfl (Nat.le_of_ble_eq_true rfl) rfl (kX8_gather l G F x1 S) (fun a_1 => ?_)
  show V l G mX8_plan none phV _ 5 [(0, vR (0, 1)), (1, vI x1), (2, vI x2), (3, vI x3)] [] (enc a_1) 0 0
  refine V.bipush (v := (-9)) dX8_plan_5 (by decide) ?_
  refine V.istore (L' := [(0, vR (0, 1)), (1, vI x1), (2, vI x2), (3, vI x3), (4, vI (-9))]) dX8_plan_7 (by decide) rfl rfl ?_
  refine V.iconst (v := 0) dX8_plan_9 (by decide) ?_
  refine V.istore (L' := [(0, vR (0, 1)), (1, vI x1), (2, vI x2), (3, vI x3), (4, vI (-9)), (5, vI 0)]) dX8_plan_10 (by decide) rfl rfl ?_
  refine V.iconst (v := 0) dX8_plan_12 (by decide) ?_
  refine V.istore (L' := [(0, vR (0, 1)), (1, vI x1), (2, vI x2), (3, vI x3), (4, vI (-9)), (5, vI 0), (6, vI 0)]) dX8_plan_13 (by decide) rfl rfl ?_
  exact V.lsub [0, 2, 3, 4, 5, 6] rfl (thX8_plan_15 l G F x2 x3 F (-9) 0 0 a_1))

abbrev mX8_badPlan : vmt := (yX8_badPlan, cX8_badPlan, 3, (some .boolean), { frames := 1, cells := 0, slots := 0, locals := 25 })
theorem mfX8_badPlan : mfS mX8_badPlan 3 := ⟨sm_X8_badPlan, ini_X8, co_X8_badPlan, by decide, by decide, by decide +kernel⟩
def jX8_badPlan_33 (F : Nat) (S : vs) : Option Int32 := some 1

def fX8_badPlan (F : Nat) (x0 : Int32) (x1 : Int32) (x2 : Int32) (S : vs) : Option Int32 := (fX8_bits F x0 S).bind (fun a_1 => if 6 < a_1 then jX8_badPlan_33 F S else (fX8_in F x1.toInt64 1 3 S).bind (fun a_2 => if a_2 = 0 then jX8_badPlan_33 F S else (fX8_in F x2.toInt64 0 3000 S).bind (fun a_3 => if a_3 = 0 then jX8_badPlan_33 F S else some 0)))
theorem tjX8_badPlan_33 (l : Launch) (G : vg) (F : Nat) (S : vs) : V l G mX8_badPlan none (phP S) (jX8_badPlan_33 F S) 33 [] [] (enc S) 0 0 := by
  unfold jX8_badPlan_33
  refine V.iconst (v := 1) dX8_badPlan_33 (by decide) ?_
  refine V.goto 38 dX8_badPlan_34 (by decide) ?_
  exact V.zret rfl dX8_badPlan_38 rfl (zb_n rfl) (by decide) (by decide)

theorem kX8_badPlan (l : Launch) (G : vg) (F : Nat) (x0 : Int32) (x1 : Int32) (x2 : Int32) (S : vs) : Rt l G mX8_badPlan none (phP S) [vI x0, vI x1, vI x2] (enc S) (fX8_badPlan F x0 x1 x2 S) := Rt.of rfl (Nat.le_of_ble_eq_true rfl) (by
  show V l G mX8_badPlan none (phP S) _ 0 [(0, vI x0), (1, vI x1), (2, vI x2)] [] (enc S) 0 0
  unfold fX8_badPlan
  refine V.iload_n dX8_badPlan_0 0 rfl ?_
  refine V.callS (M' := mX8_bits) (As := [vI x0]) (ψ := (phP S)) dX8_badPlan_1 ml_X8_142 mfX8_bits rfl ⟨by decide, by decide⟩ ⟨by decide, by decide⟩ (Nat.le_of_ble_eq_true rfl) rfl (kX8_bits l G F x0 S) (fun a_1 => ?_)
  show V l G mX8_badPlan none (phP S) _ 4 [(0, vI x0), (1, vI x1), (2, vI x2)] [vI a_1] (enc S) 0 0
  refine V.bipush (v := 6) dX8_badPlan_4 (by decide) ?_
  refine V.icmp_gt 33 dX8_badPlan_6 (by decide) ?_ ?_
  · exact V.lsub [] rfl (tjX8_badPlan_33 l G F S)
  · refine V.iload_n dX8_badPlan_9 1 rfl ?_
    refine V.i2l dX8_badPlan_10 ?_
    refine V.lconst (v := 1) dX8_badPlan_11 (by decide) ?_
    refine V.ldc2 (v := 3) dX8_badPlan_12 ct_X8_145 ?_
    refine V.callS (M' := mX8_in) (As := [vJ x1.toInt64, vJ 1, vJ 3]) (ψ := (phP S)) dX8_badPlan_15 ml_X8_102 mfX8_in rfl ⟨by decide, by decide⟩ ⟨by decide, by decide⟩ (Nat.le_of_ble_eq_true rfl) rfl (kX8_in l G F x1.toInt64 1 3 S) (fun a_2 => ?_)
    show V l G mX8_badPlan none (phP S) _ 18 [(0, vI x0), (1, vI x1), (2, vI x2)] [vI a_2] (enc S) 0 0
    refine V.if_eq 33 dX8_badPlan_18 (by decide) ?_ ?_
    · exact V.lsub [] rfl (tjX8_badPlan_33 l G F S)
    · refine V.iload_n dX8_badPlan_21 2 rfl ?_
      refine V.i2l dX8_badPlan_22 ?_
      refine V.lconst (v := 0) dX8_badPlan_23 (by decide) ?_
      refine V.ldc2 (v := 3000) dX8_badPlan_24 ct_X8_147 ?_
      refine V.callS (M' := mX8_in) (As := [vJ x2.toInt64, vJ 0, vJ 3000]) (ψ := (phP S)) dX8_badPlan_27 ml_X8_102 mfX8_in rfl ⟨by decide, by decide⟩ ⟨by decide, by decide⟩ (Nat.le_of_ble_eq_true rfl) rfl (kX8_in l G F x2.toInt64 0 3000 S) (fun a_3 => ?_)
      show V l G mX8_badPlan none (phP S) _ 30 [(0, vI x0), (1, vI x1), (2, vI x2)] [vI a_3] (enc S) 0 0
      refine V.if_ne 37 dX8_badPlan_30 (by decide) ?_ ?_
      · refine V.iconst (v := 0) dX8_badPlan_37 (by decide) ?_
        exact V.zret rfl dX8_badPlan_38 rfl (zb_n rfl) (by decide) (by decide)
      · exact V.lsub [] rfl (tjX8_badPlan_33 l G F S))

abbrev mX8_best : vmt := (yX8_best, cX8_best, 4, (some .int), { frames := 3, cells := 0, slots := 0, locals := 73 })
theorem mfX8_best : mfV mX8_best 3 := ⟨im_X8_best, se_X8_best, ini_X8, co_X8_best, by decide, by decide, by decide +kernel⟩
def fX8_best (F : Nat) (x1 : Int32) (x2 : Int32) (x3 : Int32) (S : vs) : Option (Int32 × vs) := stp (s2 S (0, 1) 0 0) (fun S_1 => (fX8_noSet F x1 S_1).bind (fun a_2 => if a_2 = 0 then (fX8_badPlan F x1 x2 x3 S_1).bind (fun a_3 => if a_3 = 0 then (fX8_plan F x1 x2 x3 S_1).bind (fun a_4 => some (a_4.1 (0, 1) 33, a_4)) else some ((-2), S_1)) else some ((-1), S_1)))
theorem kX8_best (l : Launch) (G : vg) (F : Nat) (x1 : Int32) (x2 : Int32) (x3 : Int32) (S : vs) : Rt l G mX8_best none phI [vR (0, 1), vI x1, vI x2, vI x3] (enc S) (fX8_best F x1 x2 x3 S) := Rt.of rfl (Nat.le_of_ble_eq_true rfl) (by
  show V l G mX8_best none phI _ 0 [(0, vR (0, 1)), (1, vI x1), (2, vI x2), (3, vI x3)] [] (enc S) 0 0
  unfold fX8_best
  refine V.aload_n dX8_best_0 0 rfl ?_
  refine V.iconst (v := 0) dX8_best_1 (by decide) ?_
  refine V.spI 8 0 dX8_best_2 pf_X8_95 sh0_1 rfl rfl ?_
  refine V.sst fun S_1 => ?_
  refine V.aload_n dX8_best_5 0 rfl ?_
  refine V.iload_n dX8_best_6 1 rfl ?_
  refine V.callV (M' := mX8_noSet) (As := [vI x1]) (ψ := (phP S_1)) dX8_best_7 ml_X8_149 mfX8_noSet rfl ⟨by decide, by decide⟩ ⟨by decide, by decide⟩ (enc_at rfl sh0_1) rfl (Nat.le_of_ble_eq_true rfl) rfl (kX8_noSet l G F x1 S_1) (fun a_2 => ?_)
  show V l G mX8_best none phI _ 10 [(0, vR (0, 1)), (1, vI x1), (2, vI x2), (3, vI x3)] [vI a_2] (enc S_1) 0 0
  refine V.if_eq 15 dX8_best_10 (by decide) ?_ ?_
  · refine V.iload_n dX8_best_15 1 rfl ?_
    refine V.iload_n dX8_best_16 2 rfl ?_
    refine V.iload_n dX8_best_17 3 rfl ?_
    refine V.callS (M' := mX8_badPlan) (As := [vI x1, vI x2, vI x3]) (ψ := (phP S_1)) dX8_best_18 ml_X8_152 mfX8_badPlan rfl ⟨by decide, by decide⟩ ⟨by decide, by decide⟩ (Nat.le_of_ble_eq_true rfl) rfl (kX8_badPlan l G F x1 x2 x3 S_1) (fun a_3 => ?_)
    show V l G mX8_best none phI _ 21 [(0, vR (0, 1)), (1, vI x1), (2, vI x2), (3, vI x3)] [vI a_3] (enc S_1) 0 0
    refine V.if_eq 27 dX8_best_21 (by decide) ?_ ?_
    · refine V.aload_n dX8_best_27 0 rfl ?_
      refine V.iload_n dX8_best_28 1 rfl ?_
      refine V.iload_n dX8_best_29 2 rfl ?_
      refine V.iload_n dX8_best_30 3 rfl ?_
      refine V.callV (M' := mX8_plan) (As := [vI x1, vI x2, vI x3]) (ψ := phV) dX8_best_31 ml_X8_156 mfX8_plan rfl ⟨by decide, by decide⟩ ⟨by decide, by decide⟩ (enc_at rfl sh0_1) rfl (Nat.le_of_ble_eq_true rfl) rfl (kX8_plan l G F x1 x2 x3 S_1) (fun a_4 => ?_)
      show V l G mX8_best none phI _ 34 [(0, vR (0, 1)), (1, vI x1), (2, vI x2), (3, vI x3)] [] (enc a_4) 0 0
      refine V.aload_n dX8_best_34 0 rfl ?_
      refine V.sgI 8 33 dX8_best_35 gf_X8_124 sh0_1 rfl rfl ?_
      exact V.iret rfl dX8_best_38 rfl (by decide) (by decide)
    · refine V.bipush (v := (-2)) dX8_best_24 (by decide) ?_
      exact V.iret rfl dX8_best_26 rfl (by decide) (by decide)
  · refine V.iconst (v := (-1)) dX8_best_13 (by decide) ?_
    exact V.iret rfl dX8_best_14 rfl (by decide) (by decide))

abbrev mX8_does : vmt := (yX8_does, cX8_does, 7, (some .int), { frames := 3, cells := 0, slots := 0, locals := 73 })
theorem mfX8_does : mfV mX8_does 4 := ⟨im_X8_does, se_X8_does, ini_X8, co_X8_does, by decide, by decide, by decide +kernel⟩
def jX8_does_85 (k52 : Int32 → Int32 → vs → Option (Int32 × vs)) (F : Nat) (x4 : Int32) (x6 : Int32) (sk0 : Int32) (S : vs) : Option (Int32 × vs) := ltt (x6 + 1) (fun x_7 => k52 sk0 x_7 S)

def hX8_does_52 (F : Nat) (x4 : Int32) : Nat → Int32 → Int32 → vs → Option (Int32 × vs)
  | 0, _, _, _ => none
  | n + 1, x5, x6, S => if (S.1 (0, 1) 30) ≤ x6 then some (x5, S) else gd (inb x6 (alen 0 S.2.2 (0, 46))) (if (S.1 (0, 46) x6.toNatClampNeg) = x4 then gd (inb x6 (alen 0 S.2.2 (0, 47))) (jX8_does_85 (hX8_does_52 F x4 n) F x4 x6 (S.1 (0, 47) x6.toNatClampNeg) S) else jX8_does_85 (hX8_does_52 F x4 n) F x4 x6 x5 S)

def fX8_does (F : Nat) (x1 : Int32) (x2 : Int32) (x3 : Int32) (x4 : Int32) (S : vs) : Option (Int32 × vs) := stp (s2 S (0, 1) 0 0) (fun S_1 => (fX8_noSet F x1 S_1).bind (fun a_2 => if a_2 = 0 then (fX8_badPlan F x1 x2 x3 S_1).bind (fun a_3 => if a_3 = 0 then (fX8_noSide F x4 S_1).bind (fun a_4 => if a_4 = 0 then (fX8_plan F x1 x2 x3 S_1).bind (fun a_5 => hX8_does_52 F x4 F (-9) 0 a_5) else some ((-1), S_1)) else some ((-2), S_1)) else some ((-1), S_1)))
theorem tjX8_does_85 (l : Launch) (G : vg) (F : Nat) (x4 : Int32) (x6 : Int32) (sk0 : Int32) (S : vs) (k52 : Int32 → Int32 → vs → Option (Int32 × vs)) (H52 : ∀ (z5 : Int32), ∀ (z6 : Int32), ∀ (Sz : vs), V l G mX8_does none phI (k52 z5 z6 Sz) 52 [(0, vR (0, 1)), (4, vI x4), (5, vI z5), (6, vI z6)] [] (enc Sz) 0 0) : V l G mX8_does none phI (jX8_does_85 k52 F x4 x6 sk0 S) 85 [(0, vR (0, 1)), (4, vI x4), (6, vI x6)] [vI sk0] (enc S) 0 0 := by
  unfold jX8_does_85
  refine V.istore (L' := [(0, vR (0, 1)), (4, vI x4), (6, vI x6), (5, vI sk0)]) dX8_does_85 (by decide) rfl rfl ?_
  refine V.lti (e := x6 + 1) (fun x_7 he => ?_)
  refine V.iinc (v := x_7) (L' := [(0, vR (0, 1)), (4, vI x4), (6, vI x_7), (5, vI sk0)]) dX8_does_87 2 rfl he.symm (by decide) rfl rfl ?_
  refine V.goto 52 dX8_does_90 (by decide) ?_
  exact V.lsub [0, 1, 3, 2] rfl (H52 sk0 x_7 S)

theorem thX8_does_52 (l : Launch) (G : vg) (F : Nat) (x4 : Int32) : ∀ (n : Nat) (x5 : Int32) (x6 : Int32) (S : vs), V l G mX8_does none phI (hX8_does_52 F x4 n x5 x6 S) 52 [(0, vR (0, 1)), (4, vI x4), (5, vI x5), (6, vI x6)] [] (enc S) 0 0
  | 0, _, _, _ => V.nil
  | n + 1, x5, x6, S => by
    have ih := thX8_does_52 l G F x4 n
    rw [hX8_does_52]
    refine V.iload dX8_does_52 3 rfl ?_
    refine V.aload_n dX8_does_54 0 rfl ?_
    refine V.sgI 8 30 dX8_does_55 gf_X8_121 sh0_1 rfl rfl ?_
    refine V.icmp_ge 93 dX8_does_58 (by decide) ?_ ?_
    · refine V.iload dX8_does_93 2 rfl ?_
      exact V.iret rfl dX8_does_95 rfl (by decide) (by decide)
    · refine V.aload_n dX8_does_61 0 rfl ?_
      refine V.sgR 8 31 dX8_does_62 gf_X8_80 sh0_1 rfl rfl ?_
      refine V.iload dX8_does_65 3 rfl ?_
      refine V.chk fun h_6 => ?_
      refine V.sia dX8_does_67 h_6 ?_
      refine V.iload dX8_does_68 1 rfl ?_
      refine V.icmp_ne 83 dX8_does_70 (by decide) ?_ ?_
      · refine V.iload dX8_does_83 2 rfl ?_
        exact V.lsub [0, 1, 3] rfl (tjX8_does_85 l G F x4 x6 x5 S (hX8_does_52 F x4 n) ih)
      · refine V.aload_n dX8_does_73 0 rfl ?_
        refine V.sgR 8 32 dX8_does_74 gf_X8_83 sh0_1 rfl rfl ?_
        refine V.iload dX8_does_77 3 rfl ?_
        refine V.chk fun h_8 => ?_
        refine V.sia dX8_does_79 h_8 ?_
        refine V.goto 85 dX8_does_80 (by decide) ?_
        exact V.lsub [0, 1, 3] rfl (tjX8_does_85 l G F x4 x6 (S.1 (0, 47) x6.toNatClampNeg) S (hX8_does_52 F x4 n) ih)

theorem kX8_does (l : Launch) (G : vg) (F : Nat) (x1 : Int32) (x2 : Int32) (x3 : Int32) (x4 : Int32) (S : vs) : Rt l G mX8_does none phI [vR (0, 1), vI x1, vI x2, vI x3, vI x4] (enc S) (fX8_does F x1 x2 x3 x4 S) := Rt.of rfl (Nat.le_of_ble_eq_true rfl) (by
  show V l G mX8_does none phI _ 0 [(0, vR (0, 1)), (1, vI x1), (2, vI x2), (3, vI x3), (4, vI x4)] [] (enc S) 0 0
  unfold fX8_does
  refine V.aload_n dX8_does_0 0 rfl ?_
  refine V.iconst (v := 0) dX8_does_1 (by decide) ?_
  refine V.spI 8 0 dX8_does_2 pf_X8_95 sh0_1 rfl rfl ?_
  refine V.sst fun S_1 => ?_
  refine V.aload_n dX8_does_5 0 rfl ?_
  refine V.iload_n dX8_does_6 1 rfl ?_
  refine V.callV (M' := mX8_noSet) (As := [vI x1]) (ψ := (phP S_1)) dX8_does_7 ml_X8_149 mfX8_noSet rfl ⟨by decide, by decide⟩ ⟨by decide, by decide⟩ (enc_at rfl sh0_1) rfl (Nat.le_of_ble_eq_true rfl) rfl (kX8_noSet l G F x1 S_1) (fun a_2 => ?_)
  show V l G mX8_does none phI _ 10 [(0, vR (0, 1)), (1, vI x1), (2, vI x2), (3, vI x3), (4, vI x4)] [vI a_2] (enc S_1) 0 0
  refine V.if_eq 15 dX8_does_10 (by decide) ?_ ?_
  · refine V.iload_n dX8_does_15 1 rfl ?_
    refine V.iload_n dX8_does_16 2 rfl ?_
    refine V.iload_n dX8_does_17 3 rfl ?_
    refine V.callS (M' := mX8_badPlan) (As := [vI x1, vI x2, vI x3]) (ψ := (phP S_1)) dX8_does_18 ml_X8_152 mfX8_badPlan rfl ⟨by decide, by decide⟩ ⟨by decide, by decide⟩ (Nat.le_of_ble_eq_true rfl) rfl (kX8_badPlan l G F x1 x2 x3 S_1) (fun a_3 => ?_)
    show V l G mX8_does none phI _ 21 [(0, vR (0, 1)), (1, vI x1), (2, vI x2), (3, vI x3), (4, vI x4)] [vI a_3] (enc S_1) 0 0
    refine V.if_eq 27 dX8_does_21 (by decide) ?_ ?_
    · refine V.aload_n dX8_does_27 0 rfl ?_
      refine V.iload dX8_does_28 4 rfl ?_
      refine V.callV (M' := mX8_noSide) (As := [vI x4]) (ψ := (phP S_1)) dX8_does_30 ml_X8_110 mfX8_noSide rfl ⟨by decide, by decide⟩ ⟨by decide, by decide⟩ (enc_at rfl sh0_1) rfl (Nat.le_of_ble_eq_true rfl) rfl (kX8_noSide l G F x4 S_1) (fun a_4 => ?_)
      show V l G mX8_does none phI _ 33 [(0, vR (0, 1)), (1, vI x1), (2, vI x2), (3, vI x3), (4, vI x4)] [vI a_4] (enc S_1) 0 0
      refine V.if_eq 38 dX8_does_33 (by decide) ?_ ?_
      · refine V.aload_n dX8_does_38 0 rfl ?_
        refine V.iload_n dX8_does_39 1 rfl ?_
        refine V.iload_n dX8_does_40 2 rfl ?_
        refine V.iload_n dX8_does_41 3 rfl ?_
        refine V.callV (M' := mX8_plan) (As := [vI x1, vI x2, vI x3]) (ψ := phV) dX8_does_42 ml_X8_156 mfX8_plan rfl ⟨by decide, by decide⟩ ⟨by decide, by decide⟩ (enc_at rfl sh0_1) rfl (Nat.le_of_ble_eq_true rfl) rfl (kX8_plan l G F x1 x2 x3 S_1) (fun a_5 => ?_)
        show V l G mX8_does none phI _ 45 [(0, vR (0, 1)), (1, vI x1), (2, vI x2), (3, vI x3), (4, vI x4)] [] (enc a_5) 0 0
        refine V.bipush (v := (-9)) dX8_does_45 (by decide) ?_
        refine V.istore (L' := [(0, vR (0, 1)), (1, vI x1), (2, vI x2), (3, vI x3), (4, vI x4), (5, vI (-9))]) dX8_does_47 (by decide) rfl rfl ?_
        refine V.iconst (v := 0) dX8_does_49 (by decide) ?_
        refine V.istore (L' := [(0, vR (0, 1)), (1, vI x1), (2, vI x2), (3, vI x3), (4, vI x4), (5, vI (-9)), (6, vI 0)]) dX8_does_50 (by decide) rfl rfl ?_
        exact V.lsub [0, 4, 5, 6] rfl (thX8_does_52 l G F x4 F (-9) 0 a_5)
      · refine V.iconst (v := (-1)) dX8_does_36 (by decide) ?_
        exact V.iret rfl dX8_does_37 rfl (by decide) (by decide)
    · refine V.bipush (v := (-2)) dX8_does_24 (by decide) ?_
      exact V.iret rfl dX8_does_26 rfl (by decide) (by decide)
  · refine V.iconst (v := (-1)) dX8_does_13 (by decide) ?_
    exact V.iret rfl dX8_does_14 rfl (by decide) (by decide))

