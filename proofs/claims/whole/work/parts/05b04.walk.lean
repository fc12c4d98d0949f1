abbrev mX8_join : vmt := (yX8_join, cX8_join, 7, none, { frames := 1, cells := 0, slots := 0, locals := 23 })
theorem mfX8_join : mfV mX8_join 0 := ⟨im_X8_join, se_X8_join, ini_X8, co_X8_join, by decide, by decide, by decide +kernel⟩
def jX8_join_143 (k2 : Int32 → vs → Option vs) (k14 : Int32 → vs → Option vs) (k47 : Int32 → Int32 → Int32 → vs → Option vs) (F : Nat) (x1 : Int32) (x2 : Int32) (x3 : Int32) (x4 : Int32) (x5 : Int32) (S : vs) : Option vs := ltt (x5 + 1) (fun x_7 => k47 x3 x4 x_7 S)

def jX8_join_142 (k2 : Int32 → vs → Option vs) (k14 : Int32 → vs → Option vs) (k47 : Int32 → Int32 → Int32 → vs → Option vs) (F : Nat) (x1 : Int32) (x2 : Int32) (x4 : Int32) (x5 : Int32) (sk0 : Int32) (S : vs) : Option vs := jX8_join_143 k2 k14 k47 F x1 x2 sk0 x4 x5 S

def hX8_join_47 (k2 : Int32 → vs → Option vs) (k14 : Int32 → vs → Option vs) (F : Nat) (x1 : Int32) (x2 : Int32) : Nat → Int32 → Int32 → Int32 → vs → Option vs
  | 0, _, _, _, _ => none
  | n + 1, x3, x4, x5, S => if (S.1 (0, 1) 20) ≤ x5 then gd (inb ((7 * x1) + x2) (alen 0 S.2.2 (0, 49))) (stp (s2 S (0, 49) ((7 * x1) + x2).toNatClampNeg x3) (fun S_3 => gd (inb ((7 * x1) + x2) (alen 0 S_3.2.2 (0, 50))) (stp (s2 S_3 (0, 50) ((7 * x1) + x2).toNatClampNeg x4) (fun S_5 => ltt (x2 + 1) (fun x_6 => k14 x_6 S_5))))) else if ((x1 >>> (x5 &&& 31)) &&& 1) = 1 then (fX8_apart F x2 x5 S).bind (fun a_8 => if 1000000 ≤ a_8 then jX8_join_143 k2 k14 (hX8_join_47 k2 k14 F x1 x2 n) F x1 x2 x3 x4 x5 S else ltt ((7 * (x1 ^^^ ((1 : Int32) <<< (x5 &&& 31)))) + x5) (fun x_9 => gd (inb x_9 (alen 0 S.2.2 (0, 50))) (ltt (x4 + (S.1 (0, 50) x_9.toNatClampNeg)) (fun x_11 => (fX8_apart F x2 x5 S).bind (fun a_12 => gd (inb x_9 (alen 0 S.2.2 (0, 49))) (if x3 ≤ (a_12 + (S.1 (0, 49) x_9.toNatClampNeg)) then jX8_join_142 k2 k14 (hX8_join_47 k2 k14 F x1 x2 n) F x1 x2 x_11 x5 x3 S else (fX8_apart F x2 x5 S).bind (fun a_14 => jX8_join_142 k2 k14 (hX8_join_47 k2 k14 F x1 x2 n) F x1 x2 x_11 x5 (a_14 + (S.1 (0, 49) x_9.toNatClampNeg)) S))))))) else jX8_join_143 k2 k14 (hX8_join_47 k2 k14 F x1 x2 n) F x1 x2 x3 x4 x5 S

def jX8_join_42 (k2 : Int32 → vs → Option vs) (k14 : Int32 → vs → Option vs) (F : Nat) (x1 : Int32) (x2 : Int32) (x3 : Int32) (sk0 : Int32) (S : vs) : Option vs := hX8_join_47 k2 k14 F x1 x2 F x3 sk0 0 S

def jX8_join_32 (k2 : Int32 → vs → Option vs) (k14 : Int32 → vs → Option vs) (F : Nat) (x1 : Int32) (x2 : Int32) (sk0 : Int32) (S : vs) : Option vs := if x1 = 0 then jX8_join_42 k2 k14 F x1 x2 sk0 1 S else jX8_join_42 k2 k14 F x1 x2 sk0 0 S

def hX8_join_14 (k2 : Int32 → vs → Option vs) (F : Nat) (x1 : Int32) : Nat → Int32 → vs → Option vs
  | 0, _, _ => none
  | n + 1, x2, S => if (S.1 (0, 1) 20) ≤ x2 then ltt (x1 + 1) (fun x_1 => k2 x_1 S) else if x1 = 0 then jX8_join_32 k2 (hX8_join_14 k2 F x1 n) F x1 x2 0 S else jX8_join_32 k2 (hX8_join_14 k2 F x1 n) F x1 x2 1000000 S

def hX8_join_2 (F : Nat) : Nat → Int32 → vs → Option vs
  | 0, _, _ => none
  | n + 1, x1, S => if ((1 : Int32) <<< ((S.1 (0, 1) 20) &&& 31)) ≤ x1 then some S else hX8_join_14 (hX8_join_2 F n) F x1 F 0 S

def fX8_join (F : Nat) (S : vs) : Option vs := hX8_join_2 F F 0 S
theorem tjX8_join_143 (l : Launch) (G : vg) (F : Nat) (x1 : Int32) (x2 : Int32) (x3 : Int32) (x4 : Int32) (x5 : Int32) (S : vs) (k2 : Int32 → vs → Option vs) (H2 : ∀ (z1 : Int32), ∀ (Sz : vs), V l G mX8_join none phV (k2 z1 Sz) 2 [(0, vR (0, 1)), (1, vI z1)] [] (enc Sz) 0 0) (k14 : Int32 → vs → Option vs) (H14 : ∀ (z2 : Int32), ∀ (Sz : vs), V l G mX8_join none phV (k14 z2 Sz) 14 [(0, vR (0, 1)), (1, vI x1), (2, vI z2)] [] (enc Sz) 0 0) (k47 : Int32 → Int32 → Int32 → vs → Option vs) (H47 : ∀ (z3 : Int32), ∀ (z4 : Int32), ∀ (z5 : Int32), ∀ (Sz : vs), V l G mX8_join none phV (k47 z3 z4 z5 Sz) 47 [(0, vR (0, 1)), (1, vI x1), (2, vI x2), (3, vI z3), (4, vI z4), (5, vI z5)] [] (enc Sz) 0 0) : V l G mX8_join none phV (jX8_join_143 k2 k14 k47 F x1 x2 x3 x4 x5 S) 143 [(0, vR (0, 1)), (1, vI x1), (2, vI x2), (3, vI x3), (4, vI x4), (5, vI x5)] [] (enc S) 0 0 := by
  unfold jX8_join_143
  refine V.lti (e := x5 + 1) (fun x_7 he => ?_)
  refine V.iinc (v := x_7) (L' := [(0, vR (0, 1)), (1, vI x1), (2, vI x2), (3, vI x3), (4, vI x4), (5, vI x_7)]) dX8_join_143 5 rfl he.symm (by decide) rfl rfl ?_
  refine V.goto 47 dX8_join_146 (by decide) ?_
  exact (H47 x3 x4 x_7 S)

theorem tjX8_join_142 (l : Launch) (G : vg) (F : Nat) (x1 : Int32) (x2 : Int32) (x4 : Int32) (x5 : Int32) (sk0 : Int32) (S : vs) (k2 : Int32 → vs → Option vs) (H2 : ∀ (z1 : Int32), ∀ (Sz : vs), V l G mX8_join none phV (k2 z1 Sz) 2 [(0, vR (0, 1)), (1, vI z1)] [] (enc Sz) 0 0) (k14 : Int32 → vs → Option vs) (H14 : ∀ (z2 : Int32), ∀ (Sz : vs), V l G mX8_join none phV (k14 z2 Sz) 14 [(0, vR (0, 1)), (1, vI x1), (2, vI z2)] [] (enc Sz) 0 0) (k47 : Int32 → Int32 → Int32 → vs → Option vs) (H47 : ∀ (z3 : Int32), ∀ (z4 : Int32), ∀ (z5 : Int32), ∀ (Sz : vs), V l G mX8_join none phV (k47 z3 z4 z5 Sz) 47 [(0, vR (0, 1)), (1, vI x1), (2, vI x2), (3, vI z3), (4, vI z4), (5, vI z5)] [] (enc Sz) 0 0) : V l G mX8_join none phV (jX8_join_142 k2 k14 k47 F x1 x2 x4 x5 sk0 S) 142 [(0, vR (0, 1)), (1, vI x1), (2, vI x2), (4, vI x4), (5, vI x5)] [vI sk0] (enc S) 0 0 := by
  unfold jX8_join_142
  refine V.istore_n (L' := [(0, vR (0, 1)), (1, vI x1), (2, vI x2), (4, vI x4), (5, vI x5), (3, vI sk0)]) dX8_join_142 (by decide) rfl rfl ?_
  exact V.lsub [0, 1, 2, 5, 3, 4] rfl (tjX8_join_143 l G F x1 x2 sk0 x4 x5 S k2 H2 k14 H14 k47 H47)

theorem thX8_join_47 (l : Launch) (G : vg) (F : Nat) (x1 : Int32) (x2 : Int32) (k2 : Int32 → vs → Option vs) (H2 : ∀ (z1 : Int32), ∀ (Sz : vs), V l G mX8_join none phV (k2 z1 Sz) 2 [(0, vR (0, 1)), (1, vI z1)] [] (enc Sz) 0 0) (k14 : Int32 → vs → Option vs) (H14 : ∀ (z2 : Int32), ∀ (Sz : vs), V l G mX8_join none phV (k14 z2 Sz) 14 [(0, vR (0, 1)), (1, vI x1), (2, vI z2)] [] (enc Sz) 0 0) : ∀ (n : Nat) (x3 : Int32) (x4 : Int32) (x5 : Int32) (S : vs), V l G mX8_join none phV (hX8_join_47 k2 k14 F x1 x2 n x3 x4 x5 S) 47 [(0, vR (0, 1)), (1, vI x1), (2, vI x2), (3, vI x3), (4, vI x4), (5, vI x5)] [] (enc S) 0 0
  | 0, _, _, _, _ => V.nil
  | n + 1, x3, x4, x5, S => by
    have ih := thX8_join_47 l G F x1 x2 k2 H2 k14 H14 n
    rw [hX8_join_47]
    refine V.iload dX8_join_47 5 rfl ?_
    refine V.aload_n dX8_join_49 0 rfl ?_
    refine V.sgI 8 20 dX8_join_50 gf_X8_182 sh0_1 rfl rfl ?_
    refine V.icmp_ge 149 dX8_join_53 (by decide) ?_ ?_
    · refine V.aload_n dX8_join_149 0 rfl ?_
      refine V.sgR 8 35 dX8_join_150 gf_X8_89 sh0_1 rfl rfl ?_
      refine V.bipush (v := 7) dX8_join_153 (by decide) ?_
      refine V.iload_n dX8_join_155 1 rfl ?_
      refine V.imul dX8_join_156 ?_
      refine V.iload_n dX8_join_157 2 rfl ?_
      refine V.iadd dX8_join_158 ?_
      refine V.iload_n dX8_join_159 3 rfl ?_
      refine V.chk fun h_2 => ?_
      refine V.sis dX8_join_160 h_2 ?_
      refine V.sst fun S_3 => ?_
      refine V.aload_n dX8_join_161 0 rfl ?_
      refine V.sgR 8 36 dX8_join_162 gf_X8_92 sh0_1 rfl rfl ?_
      refine V.bipush (v := 7) dX8_join_165 (by decide) ?_
      refine V.iload_n dX8_join_167 1 rfl ?_
      refine V.imul dX8_join_168 ?_
      refine V.iload_n dX8_join_169 2 rfl ?_
      refine V.iadd dX8_join_170 ?_
      refine V.iload dX8_join_171 4 rfl ?_
      refine V.chk fun h_4 => ?_
      refine V.sis dX8_join_173 h_4 ?_
      refine V.sst fun S_5 => ?_
      refine V.lti (e := x2 + 1) (fun x_6 he => ?_)
      refine V.iinc (v := x_6) (L' := [(0, vR (0, 1)), (1, vI x1), (2, vI x_6), (3, vI x3), (4, vI x4), (5, vI x5)]) dX8_join_174 2 rfl he.symm (by decide) rfl rfl ?_
      refine V.goto 14 dX8_join_177 (by decide) ?_
      exact V.lsub [0, 1, 2] rfl (H14 x_6 S_5)
    · refine V.iload_n dX8_join_56 1 rfl ?_
      refine V.iload dX8_join_57 5 rfl ?_
      refine V.ishr dX8_join_59 ?_
      refine V.iconst (v := 1) dX8_join_60 (by decide) ?_
      refine V.iand dX8_join_61 ?_
      refine V.iconst (v := 1) dX8_join_62 (by decide) ?_
      refine V.icmp_ne 143 dX8_join_63 (by decide) ?_ ?_
      · exact (tjX8_join_143 l G F x1 x2 x3 x4 x5 S k2 H2 k14 H14 (hX8_join_47 k2 k14 F x1 x2 n) ih)
      · refine V.aload_n dX8_join_66 0 rfl ?_
        refine V.iload_n dX8_join_67 2 rfl ?_
        refine V.iload dX8_join_68 5 rfl ?_
        refine V.callV (M' := mX8_apart) (As := [vI x2, vI x5]) (ψ := (phP S)) dX8_join_70 ml_X8_189 mfX8_apart rfl ⟨by decide, by decide⟩ ⟨by decide, by decide⟩ (enc_at rfl sh0_1) rfl (Nat.le_of_ble_eq_true rfl) rfl (kX8_apart l G F x2 x5 S) (fun a_8 => ?_)
        show V l G mX8_join none phV _ 73 [(0, vR (0, 1)), (1, vI x1), (2, vI x2), (3, vI x3), (4, vI x4), (5, vI x5)] [vI a_8] (enc S) 0 0
        refine V.ldc (v := 1000000) dX8_join_73 ct_X8_188 ?_
        refine V.icmp_ge 143 dX8_join_75 (by decide) ?_ ?_
        · exact (tjX8_join_143 l G F x1 x2 x3 x4 x5 S k2 H2 k14 H14 (hX8_join_47 k2 k14 F x1 x2 n) ih)
        · refine V.bipush (v := 7) dX8_join_78 (by decide) ?_
          refine V.iload_n dX8_join_80 1 rfl ?_
          refine V.iconst (v := 1) dX8_join_81 (by decide) ?_
          refine V.iload dX8_join_82 5 rfl ?_
          refine V.ishl dX8_join_84 ?_
          refine V.ixor dX8_join_85 ?_
          refine V.imul dX8_join_86 ?_
          refine V.iload dX8_join_87 5 rfl ?_
          refine V.iadd dX8_join_89 ?_
          refine V.lett fun x_9 => ?_
          refine V.istore (L' := [(0, vR (0, 1)), (1, vI x1), (2, vI x2), (3, vI x3), (4, vI x4), (5, vI x5), (6, vI x_9)]) dX8_join_90 (by decide) rfl rfl ?_
          refine V.iload dX8_join_92 4 rfl ?_
          refine V.aload_n dX8_join_94 0 rfl ?_
          refine V.sgR 8 36 dX8_join_95 gf_X8_92 sh0_1 rfl rfl ?_
          refine V.iload dX8_join_98 6 rfl ?_
          refine V.chk fun h_10 => ?_
          refine V.sia dX8_join_100 h_10 ?_
          refine V.iadd dX8_join_101 ?_
          refine V.lett fun x_11 => ?_
          refine V.istore (L' := [(0, vR (0, 1)), (1, vI x1), (2, vI x2), (3, vI x3), (4, vI x_11), (5, vI x5), (6, vI x_9)]) dX8_join_102 (by decide) rfl rfl ?_
          refine V.aload_n dX8_join_104 0 rfl ?_
          refine V.iload_n dX8_join_105 2 rfl ?_
          refine V.iload dX8_join_106 5 rfl ?_
          refine V.callV (M' := mX8_apart) (As := [vI x2, vI x5]) (ψ := (phP S)) dX8_join_108 ml_X8_189 mfX8_apart rfl ⟨by decide, by decide⟩ ⟨by decide, by decide⟩ (enc_at rfl sh0_1) rfl (Nat.le_of_ble_eq_true rfl) rfl (kX8_apart l G F x2 x5 S) (fun a_12 => ?_)
          show V l G mX8_join none phV _ 111 [(0, vR (0, 1)), (1, vI x1), (2, vI x2), (3, vI x3), (4, vI x_11), (5, vI x5), (6, vI x_9)] [vI a_12] (enc S) 0 0
          refine V.aload_n dX8_join_111 0 rfl ?_
          refine V.sgR 8 35 dX8_join_112 gf_X8_89 sh0_1 rfl rfl ?_
          refine V.iload dX8_join_115 6 rfl ?_
          refine V.chk fun h_13 => ?_
          refine V.sia dX8_join_117 h_13 ?_
          refine V.iadd dX8_join_118 ?_
          refine V.iload_n dX8_join_119 3 rfl ?_
          refine V.icmp_ge 141 dX8_join_120 (by decide) ?_ ?_
          · refine V.iload_n dX8_join_141 3 rfl ?_
            exact V.lsub [0, 1, 2, 4, 5] rfl (tjX8_join_142 l G F x1 x2 x_11 x5 x3 S k2 H2 k14 H14 (hX8_join_47 k2 k14 F x1 x2 n) ih)
          · refine V.aload_n dX8_join_123 0 rfl ?_
            refine V.iload_n dX8_join_124 2 rfl ?_
            refine V.iload dX8_join_125 5 rfl ?_
            refine V.callV (M' := mX8_apart) (As := [vI x2, vI x5]) (ψ := (phP S)) dX8_join_127 ml_X8_189 mfX8_apart rfl ⟨by decide, by decide⟩ ⟨by decide, by decide⟩ (enc_at rfl sh0_1) rfl (Nat.le_of_ble_eq_true rfl) rfl (kX8_apart l G F x2 x5 S) (fun a_14 => ?_)
            show V l G mX8_join none phV _ 130 [(0, vR (0, 1)), (1, vI x1), (2, vI x2), (3, vI x3), (4, vI x_11), (5, vI x5), (6, vI x_9)] [vI a_14] (enc S) 0 0
            refine V.aload_n dX8_join_130 0 rfl ?_
            refine V.sgR 8 35 dX8_join_131 gf_X8_89 sh0_1 rfl rfl ?_
            refine V.iload dX8_join_134 6 rfl ?_
            refine V.sia dX8_join_136 h_13 ?_
            refine V.iadd dX8_join_137 ?_
            refine V.goto 142 dX8_join_138 (by decide) ?_
            exact V.lsub [0, 1, 2, 4, 5] rfl (tjX8_join_142 l G F x1 x2 x_11 x5 (a_14 + (S.1 (0, 49) x_9.toNatClampNeg)) S k2 H2 k14 H14 (hX8_join_47 k2 k14 F x1 x2 n) ih)

theorem tjX8_join_42 (l : Launch) (G : vg) (F : Nat) (x1 : Int32) (x2 : Int32) (x3 : Int32) (sk0 : Int32) (S : vs) (k2 : Int32 → vs → Option vs) (H2 : ∀ (z1 : Int32), ∀ (Sz : vs), V l G mX8_join none phV (k2 z1 Sz) 2 [(0, vR (0, 1)), (1, vI z1)] [] (enc Sz) 0 0) (k14 : Int32 → vs → Option vs) (H14 : ∀ (z2 : Int32), ∀ (Sz : vs), V l G mX8_join none phV (k14 z2 Sz) 14 [(0, vR (0, 1)), (1, vI x1), (2, vI z2)] [] (enc Sz) 0 0) : V l G mX8_join none phV (jX8_join_42 k2 k14 F x1 x2 x3 sk0 S) 42 [(0, vR (0, 1)), (1, vI x1), (2, vI x2), (3, vI x3)] [vI sk0] (enc S) 0 0 := by
  unfold jX8_join_42
  refine V.istore (L' := [(0, vR (0, 1)), (1, vI x1), (2, vI x2), (3, vI x3), (4, vI sk0)]) dX8_join_42 (by decide) rfl rfl ?_
  refine V.iconst (v := 0) dX8_join_44 (by decide) ?_
  refine V.istore (L' := [(0, vR (0, 1)), (1, vI x1), (2, vI x2), (3, vI x3), (4, vI sk0), (5, vI 0)]) dX8_join_45 (by decide) rfl rfl ?_
  exact (thX8_join_47 l G F x1 x2 k2 H2 k14 H14 F x3 sk0 0 S)

theorem tjX8_join_32 (l : Launch) (G : vg) (F : Nat) (x1 : Int32) (x2 : Int32) (sk0 : Int32) (S : vs) (k2 : Int32 → vs → Option vs) (H2 : ∀ (z1 : Int32), ∀ (Sz : vs), V l G mX8_join none phV (k2 z1 Sz) 2 [(0, vR (0, 1)), (1, vI z1)] [] (enc Sz) 0 0) (k14 : Int32 → vs → Option vs) (H14 : ∀ (z2 : Int32), ∀ (Sz : vs), V l G mX8_join none phV (k14 z2 Sz) 14 [(0, vR (0, 1)), (1, vI x1), (2, vI z2)] [] (enc Sz) 0 0) : V l G mX8_join none phV (jX8_join_32 k2 k14 F x1 x2 sk0 S) 32 [(0, vR (0, 1)), (1, vI x1), (2, vI x2)] [vI sk0] (enc S) 0 0 := by
  unfold jX8_join_32
  refine V.istore_n (L' := [(0, vR (0, 1)), (1, vI x1), (2, vI x2), (3, vI sk0)]) dX8_join_32 (by decide) rfl rfl ?_
  refine V.iload_n dX8_join_33 1 rfl ?_
  refine V.if_ne 41 dX8_join_34 (by decide) ?_ ?_
  · refine V.iconst (v := 0) dX8_join_41 (by decide) ?_
    exact (tjX8_join_42 l G F x1 x2 sk0 0 S k2 H2 k14 H14)
  · refine V.iconst (v := 1) dX8_join_37 (by decide) ?_
    refine V.goto 42 dX8_join_38 (by decide) ?_
    exact (tjX8_join_42 l G F x1 x2 sk0 1 S k2 H2 k14 H14)

theorem thX8_join_14 (l : Launch) (G : vg) (F : Nat) (x1 : Int32) (k2 : Int32 → vs → Option vs) (H2 : ∀ (z1 : Int32), ∀ (Sz : vs), V l G mX8_join none phV (k2 z1 Sz) 2 [(0, vR (0, 1)), (1, vI z1)] [] (enc Sz) 0 0) : ∀ (n : Nat) (x2 : Int32) (S : vs), V l G mX8_join none phV (hX8_join_14 k2 F x1 n x2 S) 14 [(0, vR (0, 1)), (1, vI x1), (2, vI x2)] [] (enc S) 0 0
  | 0, _, _ => V.nil
  | n + 1, x2, S => by
    have ih := thX8_join_14 l G F x1 k2 H2 n
    rw [hX8_join_14]
    refine V.iload_n dX8_join_14 2 rfl ?_
    refine V.aload_n dX8_join_15 0 rfl ?_
    refine V.sgI 8 20 dX8_join_16 gf_X8_182 sh0_1 rfl rfl ?_
    refine V.icmp_ge 180 dX8_join_19 (by decide) ?_ ?_
    · refine V.lti (e := x1 + 1) (fun x_1 he => ?_)
      refine V.iinc (v := x_1) (L' := [(0, vR (0, 1)), (1, vI x_1), (2, vI x2)]) dX8_join_180 1 rfl he.symm (by decide) rfl rfl ?_
      refine V.goto 2 dX8_join_183 (by decide) ?_
      exact V.lsub [0, 1] rfl (H2 x_1 S)
    · refine V.iload_n dX8_join_22 1 rfl ?_
      refine V.if_ne 30 dX8_join_23 (by decide) ?_ ?_
      · refine V.ldc (v := 1000000) dX8_join_30 ct_X8_188 ?_
        exact (tjX8_join_32 l G F x1 x2 1000000 S k2 H2 (hX8_join_14 k2 F x1 n) ih)
      · refine V.iconst (v := 0) dX8_join_26 (by decide) ?_
        refine V.goto 32 dX8_join_27 (by decide) ?_
        exact (tjX8_join_32 l G F x1 x2 0 S k2 H2 (hX8_join_14 k2 F x1 n) ih)

theorem thX8_join_2 (l : Launch) (G : vg) (F : Nat) : ∀ (n : Nat) (x1 : Int32) (S : vs), V l G mX8_join none phV (hX8_join_2 F n x1 S) 2 [(0, vR (0, 1)), (1, vI x1)] [] (enc S) 0 0
  | 0, _, _ => V.nil
  | n + 1, x1, S => by
    have ih := thX8_join_2 l G F n
    rw [hX8_join_2]
    refine V.iload_n dX8_join_2 1 rfl ?_
    refine V.iconst (v := 1) dX8_join_3 (by decide) ?_
    refine V.aload_n dX8_join_4 0 rfl ?_
    refine V.sgI 8 20 dX8_join_5 gf_X8_182 sh0_1 rfl rfl ?_
    refine V.ishl dX8_join_8 ?_
    refine V.icmp_ge 186 dX8_join_9 (by decide) ?_ ?_
    · exact V.vret rfl dX8_join_186 rfl (by decide) (by decide)
    · refine V.iconst (v := 0) dX8_join_12 (by decide) ?_
      refine V.istore_n (L' := [(0, vR (0, 1)), (1, vI x1), (2, vI 0)]) dX8_join_13 (by decide) rfl rfl ?_
      exact (thX8_join_14 l G F x1 (hX8_join_2 F n) ih F 0 S)

theorem kX8_join (l : Launch) (G : vg) (F : Nat) (S : vs) : Rt l G mX8_join none phV [vR (0, 1)] (enc S) (fX8_join F S) := Rt.of rfl (Nat.le_of_ble_eq_true rfl) (by
  show V l G mX8_join none phV _ 0 [(0, vR (0, 1))] [] (enc S) 0 0
  unfold fX8_join
  refine V.iconst (v := 0) dX8_join_0 (by decide) ?_
  refine V.istore_n (L' := [(0, vR (0, 1)), (1, vI 0)]) dX8_join_1 (by decide) rfl rfl ?_
  exact (thX8_join_2 l G F F 0 S))

abbrev mX8_others : vmt := (yX8_others, cX8_others, 2, (some .int), { frames := 0, cells := 0, slots := 0, locals := 0 })
theorem mfX8_others : mfV mX8_others 1 := ⟨im_X8_others, se_X8_others, ini_X8, co_X8_others, by decide, by decide, by decide +kernel⟩
def fX8_others (F : Nat) (x1 : Int32) (S : vs) : Option Int32 := some ((((1 : Int32) <<< ((S.1 (0, 1) 20) &&& 31)) - 1) ^^^ ((1 : Int32) <<< (x1 &&& 31)))
theorem kX8_others (l : Launch) (G : vg) (F : Nat) (x1 : Int32) (S : vs) : Rt l G mX8_others none (phP S) [vR (0, 1), vI x1] (enc S) (fX8_others F x1 S) := Rt.of rfl (Nat.le_of_ble_eq_true rfl) (by
  show V l G mX8_others none (phP S) _ 0 [(0, vR (0, 1)), (1, vI x1)] [] (enc S) 0 0
  unfold fX8_others
  refine V.iconst (v := 1) dX8_others_0 (by decide) ?_
  refine V.aload_n dX8_others_1 0 rfl ?_
  refine V.sgI 8 20 dX8_others_2 gf_X8_182 sh0_1 rfl rfl ?_
  refine V.ishl dX8_others_5 ?_
  refine V.iconst (v := 1) dX8_others_6 (by decide) ?_
  refine V.isub dX8_others_7 ?_
  refine V.iconst (v := 1) dX8_others_8 (by decide) ?_
  refine V.iload_n dX8_others_9 1 rfl ?_
  refine V.ishl dX8_others_10 ?_
  refine V.ixor dX8_others_11 ?_
  exact V.iret rfl dX8_others_12 rfl (by decide) (by decide))

abbrev mX8_rows : vmt := (yX8_rows, cX8_rows, 3, (some .int), { frames := 2, cells := 0, slots := 0, locals := 49 })
theorem mfX8_rows : mfV mX8_rows 0 := ⟨im_X8_rows, se_X8_rows, ini_X8, co_X8_rows, by decide, by decide, by decide +kernel⟩
def hX8_rows_13 (F : Nat) : Nat → Int32 → Int32 → vs → Option (Int32 × vs)
  | 0, _, _, _ => none
  | n + 1, x1, x2, S => if (S.1 (0, 1) 20) ≤ x2 then some (x1, S) else (fX8_others F x2 S).bind (fun a_3 => gd (inb ((7 * a_3) + x2) (alen 0 S.2.2 (0, 50))) (ltt (x1 + (S.1 (0, 50) ((7 * a_3) + x2).toNatClampNeg)) (fun x_5 => ltt (x2 + 1) (fun x_6 => hX8_rows_13 F n x_5 x_6 S))))

def fX8_rows (F : Nat) (S : vs) : Option (Int32 × vs) := stp (s2 S (0, 1) 0 0) (fun S_1 => (fX8_join F S_1).bind (fun a_2 => hX8_rows_13 F F 0 0 a_2))
theorem thX8_rows_13 (l : Launch) (G : vg) (F : Nat) : ∀ (n : Nat) (x1 : Int32) (x2 : Int32) (S : vs), V l G mX8_rows none phI (hX8_rows_13 F n x1 x2 S) 13 [(0, vR (0, 1)), (1, vI x1), (2, vI x2)] [] (enc S) 0 0
  | 0, _, _, _ => V.nil
  | n + 1, x1, x2, S => by
    have ih := thX8_rows_13 l G F n
    rw [hX8_rows_13]
    refine V.iload_n dX8_rows_13 2 rfl ?_
    refine V.aload_n dX8_rows_14 0 rfl ?_
    refine V.sgI 8 20 dX8_rows_15 gf_X8_182 sh0_1 rfl rfl ?_
    refine V.icmp_ge 45 dX8_rows_18 (by decide) ?_ ?_
    · refine V.iload_n dX8_rows_45 1 rfl ?_
      exact V.iret rfl dX8_rows_46 rfl (by decide) (by decide)
    · refine V.iload_n dX8_rows_21 1 rfl ?_
      refine V.aload_n dX8_rows_22 0 rfl ?_
      refine V.sgR 8 36 dX8_rows_23 gf_X8_92 sh0_1 rfl rfl ?_
      refine V.bipush (v := 7) dX8_rows_26 (by decide) ?_
      refine V.aload_n dX8_rows_28 0 rfl ?_
      refine V.iload_n dX8_rows_29 2 rfl ?_
      refine V.callV (M' := mX8_others) (As := [vI x2]) (ψ := (phP S)) dX8_rows_30 ml_X8_195 mfX8_others rfl ⟨by decide, by decide⟩ ⟨by decide, by decide⟩ (enc_at rfl sh0_1) rfl (Nat.le_of_ble_eq_true rfl) rfl (kX8_others l G F x2 S) (fun a_3 => ?_)
      show V l G mX8_rows none phI _ 33 [(0, vR (0, 1)), (1, vI x1), (2, vI x2)] [vI a_3, vI 7, vR (0, 50), vI x1] (enc S) 0 0
      refine V.imul dX8_rows_33 ?_
      refine V.iload_n dX8_rows_34 2 rfl ?_
      refine V.iadd dX8_rows_35 ?_
      refine V.chk fun h_4 => ?_
      refine V.sia dX8_rows_36 h_4 ?_
      refine V.iadd dX8_rows_37 ?_
      refine V.lett fun x_5 => ?_
      refine V.istore_n (L' := [(0, vR (0, 1)), (1, vI x_5), (2, vI x2)]) dX8_rows_38 (by decide) rfl rfl ?_
      refine V.lti (e := x2 + 1) (fun x_6 he => ?_)
      refine V.iinc (v := x_6) (L' := [(0, vR (0, 1)), (1, vI x_5), (2, vI x_6)]) dX8_rows_39 2 rfl he.symm (by decide) rfl rfl ?_
      refine V.goto 13 dX8_rows_42 (by decide) ?_
      exact (ih x_5 x_6 S)

theorem kX8_rows (l : Launch) (G : vg) (F : Nat) (S : vs) : Rt l G mX8_rows none phI [vR (0, 1)] (enc S) (fX8_rows F S) := Rt.of rfl (Nat.le_of_ble_eq_true rfl) (by
  show V l G mX8_rows none phI _ 0 [(0, vR (0, 1))] [] (enc S) 0 0
  unfold fX8_rows
  refine V.aload_n dX8_rows_0 0 rfl ?_
  refine V.iconst (v := 0) dX8_rows_1 (by decide) ?_
  refine V.spI 8 0 dX8_rows_2 pf_X8_95 sh0_1 rfl rfl ?_
  refine V.sst fun S_1 => ?_
  refine V.aload_n dX8_rows_5 0 rfl ?_
  refine V.callV (M' := mX8_join) (As := []) (ψ := phV) dX8_rows_6 ml_X8_192 mfX8_join rfl ⟨by decide, by decide⟩ ⟨by decide, by decide⟩ (enc_at rfl sh0_1) rfl (Nat.le_of_ble_eq_true rfl) rfl (kX8_join l G F S_1) (fun a_2 => ?_)
  show V l G mX8_rows none phI _ 9 [(0, vR (0, 1))] [] (enc a_2) 0 0
  refine V.iconst (v := 0) dX8_rows_9 (by decide) ?_
  refine V.istore_n (L' := [(0, vR (0, 1)), (1, vI 0)]) dX8_rows_10 (by decide) rfl rfl ?_
  refine V.iconst (v := 0) dX8_rows_11 (by decide) ?_
  refine V.istore_n (L' := [(0, vR (0, 1)), (1, vI 0), (2, vI 0)]) dX8_rows_12 (by decide) rfl rfl ?_
  exact (thX8_rows_13 l G F F 0 0 a_2))

abbrev mX8_leastOf : vmt := (yX8_leastOf, cX8_leastOf, 3, (some .int), { frames := 2, cells := 0, slots := 0, locals := 49 })
theorem mfX8_leastOf : mfV mX8_leastOf 0 := ⟨im_X8_leastOf, se_X8_leastOf, ini_X8, co_X8_leastOf, by decide, by decide, by decide +kernel⟩
def jX8_leastOf_55 (k9 : Int32 → Int32 → vs → Option (Int32 × vs)) (F : Nat) (x2 : Int32) (sk0 : Int32) (S : vs) : Option (Int32 × vs) := ltt (x2 + 1) (fun x_4 => k9 sk0 x_4 S)

def hX8_leastOf_9 (F : Nat) : Nat → Int32 → Int32 → vs → Option (Int32 × vs)
  | 0, _, _, _ => none
  | n + 1, x1, x2, S => if (S.1 (0, 1) 20) ≤ x2 then some (x1, S) else (fX8_others F x2 S).bind (fun a_2 => gd (inb ((7 * a_2) + x2) (alen 0 S.2.2 (0, 49))) (if x1 ≤ (S.1 (0, 49) ((7 * a_2) + x2).toNatClampNeg) then jX8_leastOf_55 (hX8_leastOf_9 F n) F x2 x1 S else (fX8_others F x2 S).bind (fun a_5 => gd (inb ((7 * a_5) + x2) (alen 0 S.2.2 (0, 49))) (jX8_leastOf_55 (hX8_leastOf_9 F n) F x2 (S.1 (0, 49) ((7 * a_5) + x2).toNatClampNeg) S))))

def fX8_leastOf (F : Nat) (S : vs) : Option (Int32 × vs) := (fX8_join F S).bind (fun a_1 => hX8_leastOf_9 F F 1000000 0 a_1)
theorem tjX8_leastOf_55 (l : Launch) (G : vg) (F : Nat) (x2 : Int32) (sk0 : Int32) (S : vs) (k9 : Int32 → Int32 → vs → Option (Int32 × vs)) (H9 : ∀ (z1 : Int32), ∀ (z2 : Int32), ∀ (Sz : vs), V l G mX8_leastOf none phI (k9 z1 z2 Sz) 9 [(0, vR (0, 1)), (1, vI z1), (2, vI z2)] [] (enc Sz) 0 0) : V l G mX8_leastOf none phI (jX8_leastOf_55 k9 F x2 sk0 S) 55 [(0, vR (0, 1)), (2, vI x2)] [vI sk0] (enc S) 0 0 := by
  unfold jX8_leastOf_55
  refine V.istore_n (L' := [(0, vR (0, 1)), (2, vI x2), (1, vI sk0)]) dX8_leastOf_55 (by decide) rfl rfl ?_
  refine V.lti (e := x2 + 1) (fun x_4 he => ?_)
  refine V.iinc (v := x_4) (L' := [(0, vR (0, 1)), (2, vI x_4), (1, vI sk0)]) dX8_leastOf_56 1 rfl he.symm (by decide) rfl rfl ?_
  refine V.goto 9 dX8_leastOf_59 (by decide) ?_
  exact V.lsub [0, 2, 1] rfl (H9 sk0 x_4 S)

theorem thX8_leastOf_9 (l : Launch) (G : vg) (F : Nat) : ∀ (n : Nat) (x1 : Int32) (x2 : Int32) (S : vs), V l G mX8_leastOf none phI (hX8_leastOf_9 F n x1 x2 S) 9 [(0, vR (0, 1)), (1, vI x1), (2, vI x2)] [] (enc S) 0 0
  | 0, _, _, _ => V.nil
  | n + 1, x1, x2, S => by
    have ih := thX8_leastOf_9 l G F n
    rw [hX8_leastOf_9]
    refine V.iload_n dX8_leastOf_9 2 rfl ?_
    refine V.aload_n dX8_leastOf_10 0 rfl ?_
    refine V.sgI 8 20 dX8_leastOf_11 gf_X8_182 sh0_1 rfl rfl ?_
    refine V.icmp_ge 62 dX8_leastOf_14 (by decide) ?_ ?_
    · refine V.iload_n dX8_leastOf_62 1 rfl ?_
      exact V.iret rfl dX8_leastOf_63 rfl (by decide) (by decide)
    · refine V.aload_n dX8_leastOf_17 0 rfl ?_
      refine V.sgR 8 35 dX8_leastOf_18 gf_X8_89 sh0_1 rfl rfl ?_
      refine V.bipush (v := 7) dX8_leastOf_21 (by decide) ?_
      refine V.aload_n dX8_leastOf_23 0 rfl ?_
      refine V.iload_n dX8_leastOf_24 2 rfl ?_
      refine V.callV (M' := mX8_others) (As := [vI x2]) (ψ := (phP S)) dX8_leastOf_25 ml_X8_195 mfX8_others rfl ⟨by decide, by decide⟩ ⟨by decide, by decide⟩ (enc_at rfl sh0_1) rfl (Nat.le_of_ble_eq_true rfl) rfl (kX8_others l G F x2 S) (fun a_2 => ?_)
      show V l G mX8_leastOf none phI _ 28 [(0, vR (0, 1)), (1, vI x1), (2, vI x2)] [vI a_2, vI 7, vR (0, 49)] (enc S) 0 0
      refine V.imul dX8_leastOf_28 ?_
      refine V.iload_n dX8_leastOf_29 2 rfl ?_
      refine V.iadd dX8_leastOf_30 ?_
      refine V.chk fun h_3 => ?_
      refine V.sia dX8_leastOf_31 h_3 ?_
      refine V.iload_n dX8_leastOf_32 1 rfl ?_
      refine V.icmp_ge 54 dX8_leastOf_33 (by decide) ?_ ?_
      · refine V.iload_n dX8_leastOf_54 1 rfl ?_
        exact V.lsub [0, 2] rfl (tjX8_leastOf_55 l G F x2 x1 S (hX8_leastOf_9 F n) ih)
      · refine V.aload_n dX8_leastOf_36 0 rfl ?_
        refine V.sgR 8 35 dX8_leastOf_37 gf_X8_89 sh0_1 rfl rfl ?_
        refine V.bipush (v := 7) dX8_leastOf_40 (by decide) ?_
        refine V.aload_n dX8_leastOf_42 0 rfl ?_
        refine V.iload_n dX8_leastOf_43 2 rfl ?_
        refine V.callV (M' := mX8_others) (As := [vI x2]) (ψ := (phP S)) dX8_leastOf_44 ml_X8_195 mfX8_others rfl ⟨by decide, by decide⟩ ⟨by decide, by decide⟩ (enc_at rfl sh0_1) rfl (Nat.le_of_ble_eq_true rfl) rfl (kX8_others l G F x2 S) (fun a_5 => ?_)
        show V l G mX8_leastOf none phI _ 47 [(0, vR (0, 1)), (1, vI x1), (2, vI x2)] [vI a_5, vI 7, vR (0, 49)] (enc S) 0 0
        refine V.imul dX8_leastOf_47 ?_
        refine V.iload_n dX8_leastOf_48 2 rfl ?_
        refine V.iadd dX8_leastOf_49 ?_
        refine V.chk fun h_6 => ?_
        refine V.sia dX8_leastOf_50 h_6 ?_
        refine V.goto 55 dX8_leastOf_51 (by decide) ?_
        exact V.lsub [0, 2] rfl (tjX8_leastOf_55 l G F x2 (S.1 (0, 49) ((7 * a_5) + x2).toNatClampNeg) S (hX8_leastOf_9 F n) ih)

theorem kX8_leastOf (l : Launch) (G : vg) (F : Nat) (S : vs) : Rt l G mX8_leastOf none phI [vR (0, 1)] (enc S) (fX8_leastOf F S) := Rt.of rfl (Nat.le_of_ble_eq_true rfl) (by
  show V l G mX8_leastOf none phI _ 0 [(0, vR (0, 1))] [] (enc S) 0 0
  unfold fX8_leastOf
  refine V.aload_n dX8_leastOf_0 0 rfl ?_
  refine V.callV (M' := mX8_join) (As := []) (ψ := phV) dX8_leastOf_1 ml_X8_192 mfX8_join rfl ⟨by decide, by decide⟩ ⟨by decide, by decide⟩ (enc_at rfl sh0_1) rfl (Nat.le_of_ble_eq_true rfl) rfl (kX8_join l G F S) (fun a_1 => ?_)
  show V l G mX8_leastOf none phI _ 4 [(0, vR (0, 1))] [] (enc a_1) 0 0
  refine V.ldc (v := 1000000) dX8_leastOf_4 ct_X8_188 ?_
  refine V.istore_n (L' := [(0, vR (0, 1)), (1, vI 1000000)]) dX8_leastOf_6 (by decide) rfl rfl ?_
  refine V.iconst (v := 0) dX8_leastOf_7 (by decide) ?_
  refine V.istore_n (L' := [(0, vR (0, 1)), (1, vI 1000000), (2, vI 0)]) dX8_leastOf_8 (by decide) rfl rfl ?_
  exact (thX8_leastOf_9 l G F F 1000000 0 a_1))

abbrev mX8_misfit : vmt := (yX8_misfit, cX8_misfit, 2, (some .int), { frames := 3, cells := 0, slots := 0, locals := 71 })
theorem mfX8_misfit : mfV mX8_misfit 0 := ⟨im_X8_misfit, se_X8_misfit, ini_X8, co_X8_misfit, by decide, by decide, by decide +kernel⟩
def fX8_misfit (F : Nat) (S : vs) : Option (Int32 × vs) := stp (s2 S (0, 1) 0 0) (fun S_1 => (fX8_leastOf F S_1).bind (fun a_2 => if a_2.1 < 1000000 then some (a_2.1, a_2.2) else some ((-9), a_2.2)))
theorem kX8_misfit (l : Launch) (G : vg) (F : Nat) (S : vs) : Rt l G mX8_misfit none phI [vR (0, 1)] (enc S) (fX8_misfit F S) := Rt.of rfl (Nat.le_of_ble_eq_true rfl) (by
  show V l G mX8_misfit none phI _ 0 [(0, vR (0, 1))] [] (enc S) 0 0
  unfold fX8_misfit
  refine V.aload_n dX8_misfit_0 0 rfl ?_
  refine V.iconst (v := 0) dX8_misfit_1 (by decide) ?_
  refine V.spI 8 0 dX8_misfit_2 pf_X8_95 sh0_1 rfl rfl ?_
  refine V.sst fun S_1 => ?_
  refine V.aload_n dX8_misfit_5 0 rfl ?_
  refine V.callV (M' := mX8_leastOf) (As := []) (ψ := phI) dX8_misfit_6 ml_X8_198 mfX8_leastOf rfl ⟨by decide, by decide⟩ ⟨by decide, by decide⟩ (enc_at rfl sh0_1) rfl (Nat.le_of_ble_eq_true rfl) rfl (kX8_leastOf l G F S_1) (fun a_2 => ?_)
  show V l G mX8_misfit none phI _ 9 [(0, vR (0, 1))] [vI a_2.1] (enc a_2.2) 0 0
  refine V.istore_n (L' := [(0, vR (0, 1)), (1, vI a_2.1)]) dX8_misfit_9 (by decide) rfl rfl ?_
  refine V.iload_n dX8_misfit_10 1 rfl ?_
  refine V.ldc (v := 1000000) dX8_misfit_11 ct_X8_188 ?_
  refine V.icmp_lt 21 dX8_misfit_13 (by decide) ?_ ?_
  · refine V.iload_n dX8_misfit_21 1 rfl ?_
    exact V.iret rfl dX8_misfit_22 rfl (by decide) (by decide)
  · refine V.bipush (v := (-9)) dX8_misfit_16 (by decide) ?_
    refine V.goto 22 dX8_misfit_18 (by decide) ?_
    exact V.iret rfl dX8_misfit_22 rfl (by decide) (by decide))

