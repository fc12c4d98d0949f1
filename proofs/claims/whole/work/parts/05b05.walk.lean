abbrev mX8_inRow : vmt := (yX8_inRow, cX8_inRow, 9, (some .int), { frames := 3, cells := 0, slots := 0, locals := 71 })
theorem mfX8_inRow : mfV mX8_inRow 1 := ⟨im_X8_inRow, se_X8_inRow, ini_X8, co_X8_inRow, by decide, by decide, by decide +kernel⟩
def jX8_inRow_201 (k95 : Int32 → Int32 → Int32 → vs → Option (Int32 × vs)) (k113 : Int32 → Int32 → vs → Option (Int32 × vs)) (F : Nat) (x1 : Int32) (x3 : Int32) (x4 : Int32) (x5 : Int32) (x7 : Int32) (sk0 : Int32) (S : vs) : Option (Int32 × vs) := ltt (x7 + (-1)) (fun x_9 => k113 sk0 x_9 S)

def jX8_inRow_187 (k95 : Int32 → Int32 → Int32 → vs → Option (Int32 × vs)) (k113 : Int32 → Int32 → vs → Option (Int32 × vs)) (F : Nat) (x1 : Int32) (x3 : Int32) (x4 : Int32) (x5 : Int32) (x6 : Int32) (x7 : Int32) (sk0 : Int32) (S : vs) : Option (Int32 × vs) := if sk0 = 0 then jX8_inRow_201 k95 k113 F x1 x3 x4 x5 x7 x6 S else jX8_inRow_201 k95 k113 F x1 x3 x4 x5 x7 x7 S

def jX8_inRow_186 (k95 : Int32 → Int32 → Int32 → vs → Option (Int32 × vs)) (k113 : Int32 → Int32 → vs → Option (Int32 × vs)) (F : Nat) (x1 : Int32) (x3 : Int32) (x4 : Int32) (x5 : Int32) (x6 : Int32) (x7 : Int32) (S : vs) : Option (Int32 × vs) := jX8_inRow_187 k95 k113 F x1 x3 x4 x5 x6 x7 0 S

def hX8_inRow_113 (k95 : Int32 → Int32 → Int32 → vs → Option (Int32 × vs)) (F : Nat) (x1 : Int32) (x3 : Int32) (x4 : Int32) (x5 : Int32) : Nat → Int32 → Int32 → vs → Option (Int32 × vs)
  | 0, _, _, _ => none
  | n + 1, x6, x7, S => if x7 < 0 then ltt (x4 ^^^ ((1 : Int32) <<< (x6 &&& 31))) (fun x_7 => ltt (x5 + 1) (fun x_8 => k95 x6 x_7 x_8 S)) else if ((x4 >>> (x7 &&& 31)) &&& 1) = 1 then (fX8_apart F x3 x7 S).bind (fun a_10 => if 1000000 ≤ a_10 then jX8_inRow_186 k95 (hX8_inRow_113 k95 F x1 x3 x4 x5 n) F x1 x3 x4 x5 x6 x7 S else (fX8_apart F x3 x7 S).bind (fun a_11 => gd (inb ((7 * (x4 ^^^ ((1 : Int32) <<< (x7 &&& 31)))) + x7) (alen 0 S.2.2 (0, 49))) (gd (inb ((7 * x4) + x3) (alen 0 S.2.2 (0, 49))) (if (a_11 + (S.1 (0, 49) ((7 * (x4 ^^^ ((1 : Int32) <<< (x7 &&& 31)))) + x7).toNatClampNeg)) = (S.1 (0, 49) ((7 * x4) + x3).toNatClampNeg) then jX8_inRow_187 k95 (hX8_inRow_113 k95 F x1 x3 x4 x5 n) F x1 x3 x4 x5 x6 x7 1 S else jX8_inRow_186 k95 (hX8_inRow_113 k95 F x1 x3 x4 x5 n) F x1 x3 x4 x5 x6 x7 S)))) else jX8_inRow_186 k95 (hX8_inRow_113 k95 F x1 x3 x4 x5 n) F x1 x3 x4 x5 x6 x7 S

def hX8_inRow_95 (F : Nat) (x1 : Int32) : Nat → Int32 → Int32 → Int32 → vs → Option (Int32 × vs)
  | 0, _, _, _, _ => none
  | n + 1, x3, x4, x5, S => if x1 ≤ x5 then some (x3, S) else ltt ((S.1 (0, 1) 20) - 1) (fun x_6 => hX8_inRow_113 (hX8_inRow_95 F x1 n) F x1 x3 x4 x5 F (-9) x_6 S)

def jX8_inRow_78 (k46 : Int32 → Int32 → vs → Option (Int32 × vs)) (F : Nat) (x1 : Int32) (x2 : Int32) (x4 : Int32) (sk0 : Int32) (S : vs) : Option (Int32 × vs) := ltt (x4 + (-1)) (fun x_16 => k46 sk0 x_16 S)

def hX8_inRow_46 (F : Nat) (x1 : Int32) (x2 : Int32) : Nat → Int32 → Int32 → vs → Option (Int32 × vs)
  | 0, _, _, _ => none
  | n + 1, x3, x4, S => if x4 < 0 then (fX8_others F x3 S).bind (fun a_5 => hX8_inRow_95 F x1 F x3 a_5 0 S) else (fX8_others F x4 S).bind (fun a_14 => gd (inb ((7 * a_14) + x4) (alen 0 S.2.2 (0, 49))) (if (S.1 (0, 49) ((7 * a_14) + x4).toNatClampNeg) = x2 then jX8_inRow_78 (hX8_inRow_46 F x1 x2 n) F x1 x2 x4 x4 S else jX8_inRow_78 (hX8_inRow_46 F x1 x2 n) F x1 x2 x4 x3 S))

def fX8_inRow (F : Nat) (x1 : Int32) (S : vs) : Option (Int32 × vs) := stp (s2 S (0, 1) 0 0) (fun S_1 => (fX8_leastOf F S_1).bind (fun a_2 => if 1000000 ≤ a_2.1 then some ((-9), a_2.2) else (fX8_in F x1.toInt64 0 (((a_2.2.1 (0, 1) 20) - 1).toInt64) a_2.2).bind (fun a_3 => if a_3 = 0 then some ((-9), a_2.2) else ltt ((a_2.2.1 (0, 1) 20) - 1) (fun x_4 => hX8_inRow_46 F x1 a_2.1 F (-9) x_4 a_2.2))))
theorem tjX8_inRow_201 (l : Launch) (G : vg) (F : Nat) (x1 : Int32) (x3 : Int32) (x4 : Int32) (x5 : Int32) (x7 : Int32) (sk0 : Int32) (S : vs) (k95 : Int32 → Int32 → Int32 → vs → Option (Int32 × vs)) (H95 : ∀ (z3 : Int32), ∀ (z4 : Int32), ∀ (z5 : Int32), ∀ (Sz : vs), V l G mX8_inRow none phI (k95 z3 z4 z5 Sz) 95 [(0, vR (0, 1)), (1, vI x1), (3, vI z3), (4, vI z4), (5, vI z5)] [] (enc Sz) 0 0) (k113 : Int32 → Int32 → vs → Option (Int32 × vs)) (H113 : ∀ (z6 : Int32), ∀ (z7 : Int32), ∀ (Sz : vs), V l G mX8_inRow none phI (k113 z6 z7 Sz) 113 [(0, vR (0, 1)), (1, vI x1), (3, vI x3), (4, vI x4), (5, vI x5), (6, vI z6), (7, vI z7)] [] (enc Sz) 0 0) : V l G mX8_inRow none phI (jX8_inRow_201 k95 k113 F x1 x3 x4 x5 x7 sk0 S) 201 [(0, vR (0, 1)), (1, vI x1), (3, vI x3), (4, vI x4), (5, vI x5), (7, vI x7)] [vI sk0] (enc S) 0 0 := by
  unfold jX8_inRow_201
  refine V.istore (L' := [(0, vR (0, 1)), (1, vI x1), (3, vI x3), (4, vI x4), (5, vI x5), (7, vI x7), (6, vI sk0)]) dX8_inRow_201 (by decide) rfl rfl ?_
  refine V.lti (e := x7 + (-1)) (fun x_9 he => ?_)
  refine V.iinc (v := x_9) (L' := [(0, vR (0, 1)), (1, vI x1), (3, vI x3), (4, vI x4), (5, vI x5), (7, vI x_9), (6, vI sk0)]) dX8_inRow_203 5 rfl he.symm (by decide) rfl rfl ?_
  refine V.goto 113 dX8_inRow_206 (by decide) ?_
  exact V.lsub [0, 1, 2, 3, 4, 6, 5] rfl (H113 sk0 x_9 S)

theorem tjX8_inRow_187 (l : Launch) (G : vg) (F : Nat) (x1 : Int32) (x3 : Int32) (x4 : Int32) (x5 : Int32) (x6 : Int32) (x7 : Int32) (sk0 : Int32) (S : vs) (k95 : Int32 → Int32 → Int32 → vs → Option (Int32 × vs)) (H95 : ∀ (z3 : Int32), ∀ (z4 : Int32), ∀ (z5 : Int32), ∀ (Sz : vs), V l G mX8_inRow none phI (k95 z3 z4 z5 Sz) 95 [(0, vR (0, 1)), (1, vI x1), (3, vI z3), (4, vI z4), (5, vI z5)] [] (enc Sz) 0 0) (k113 : Int32 → Int32 → vs → Option (Int32 × vs)) (H113 : ∀ (z6 : Int32), ∀ (z7 : Int32), ∀ (Sz : vs), V l G mX8_inRow none phI (k113 z6 z7 Sz) 113 [(0, vR (0, 1)), (1, vI x1), (3, vI x3), (4, vI x4), (5, vI x5), (6, vI z6), (7, vI z7)] [] (enc Sz) 0 0) : V l G mX8_inRow none phI (jX8_inRow_187 k95 k113 F x1 x3 x4 x5 x6 x7 sk0 S) 187 [(0, vR (0, 1)), (1, vI x1), (3, vI x3), (4, vI x4), (5, vI x5), (6, vI x6), (7, vI x7)] [vI sk0] (enc S) 0 0 := by
  unfold jX8_inRow_187
  refine V.istore (L' := [(0, vR (0, 1)), (1, vI x1), (3, vI x3), (4, vI x4), (5, vI x5), (6, vI x6), (7, vI x7), (8, vI sk0)]) dX8_inRow_187 (by decide) rfl rfl ?_
  refine V.iload dX8_inRow_189 7 rfl ?_
  refine V.if_eq 199 dX8_inRow_191 (by decide) ?_ ?_
  · refine V.iload dX8_inRow_199 5 rfl ?_
    exact V.lsub [0, 1, 2, 3, 4, 6] rfl (tjX8_inRow_201 l G F x1 x3 x4 x5 x7 x6 S k95 H95 k113 H113)
  · refine V.iload dX8_inRow_194 6 rfl ?_
    refine V.goto 201 dX8_inRow_196 (by decide) ?_
    exact V.lsub [0, 1, 2, 3, 4, 6] rfl (tjX8_inRow_201 l G F x1 x3 x4 x5 x7 x7 S k95 H95 k113 H113)

theorem tjX8_inRow_186 (l : Launch) (G : vg) (F : Nat) (x1 : Int32) (x3 : Int32) (x4 : Int32) (x5 : Int32) (x6 : Int32) (x7 : Int32) (S : vs) (k95 : Int32 → Int32 → Int32 → vs → Option (Int32 × vs)) (H95 : ∀ (z3 : Int32), ∀ (z4 : Int32), ∀ (z5 : Int32), ∀ (Sz : vs), V l G mX8_inRow none phI (k95 z3 z4 z5 Sz) 95 [(0, vR (0, 1)), (1, vI x1), (3, vI z3), (4, vI z4), (5, vI z5)] [] (enc Sz) 0 0) (k113 : Int32 → Int32 → vs → Option (Int32 × vs)) (H113 : ∀ (z6 : Int32), ∀ (z7 : Int32), ∀ (Sz : vs), V l G mX8_inRow none phI (k113 z6 z7 Sz) 113 [(0, vR (0, 1)), (1, vI x1), (3, vI x3), (4, vI x4), (5, vI x5), (6, vI z6), (7, vI z7)] [] (enc Sz) 0 0) : V l G mX8_inRow none phI (jX8_inRow_186 k95 k113 F x1 x3 x4 x5 x6 x7 S) 186 [(0, vR (0, 1)), (1, vI x1), (3, vI x3), (4, vI x4), (5, vI x5), (6, vI x6), (7, vI x7)] [] (enc S) 0 0 := by
  unfold jX8_inRow_186
  refine V.iconst (v := 0) dX8_inRow_186 (by decide) ?_
  exact (tjX8_inRow_187 l G F x1 x3 x4 x5 x6 x7 0 S k95 H95 k113 H113)

theorem thX8_inRow_113 (l : Launch) (G : vg) (F : Nat) (x1 : Int32) (x3 : Int32) (x4 : Int32) (x5 : Int32) (k95 : Int32 → Int32 → Int32 → vs → Option (Int32 × vs)) (H95 : ∀ (z3 : Int32), ∀ (z4 : Int32), ∀ (z5 : Int32), ∀ (Sz : vs), V l G mX8_inRow none phI (k95 z3 z4 z5 Sz) 95 [(0, vR (0, 1)), (1, vI x1), (3, vI z3), (4, vI z4), (5, vI z5)] [] (enc Sz) 0 0) : ∀ (n : Nat) (x6 : Int32) (x7 : Int32) (S : vs), V l G mX8_inRow none phI (hX8_inRow_113 k95 F x1 x3 x4 x5 n x6 x7 S) 113 [(0, vR (0, 1)), (1, vI x1), (3, vI x3), (4, vI x4), (5, vI x5), (6, vI x6), (7, vI x7)] [] (enc S) 0 0
  | 0, _, _, _ => V.nil
  | n + 1, x6, x7, S => by
    have ih := thX8_inRow_113 l G F x1 x3 x4 x5 k95 H95 n
    rw [hX8_inRow_113]
    refine V.iload dX8_inRow_113 6 rfl ?_
    refine V.if_lt 209 dX8_inRow_115 (by decide) ?_ ?_
    · refine V.iload dX8_inRow_209 3 rfl ?_
      refine V.iconst (v := 1) dX8_inRow_211 (by decide) ?_
      refine V.iload dX8_inRow_212 5 rfl ?_
      refine V.ishl dX8_inRow_214 ?_
      refine V.ixor dX8_inRow_215 ?_
      refine V.lett fun x_7 => ?_
      refine V.istore (L' := [(0, vR (0, 1)), (1, vI x1), (3, vI x3), (4, vI x_7), (5, vI x5), (6, vI x6), (7, vI x7)]) dX8_inRow_216 (by decide) rfl rfl ?_
      refine V.iload dX8_inRow_218 5 rfl ?_
      refine V.istore_n (L' := [(0, vR (0, 1)), (1, vI x1), (3, vI x6), (4, vI x_7), (5, vI x5), (6, vI x6), (7, vI x7)]) dX8_inRow_220 (by decide) rfl rfl ?_
      refine V.lti (e := x5 + 1) (fun x_8 he => ?_)
      refine V.iinc (v := x_8) (L' := [(0, vR (0, 1)), (1, vI x1), (3, vI x6), (4, vI x_7), (5, vI x_8), (6, vI x6), (7, vI x7)]) dX8_inRow_221 4 rfl he.symm (by decide) rfl rfl ?_
      refine V.goto 95 dX8_inRow_224 (by decide) ?_
      exact V.lsub [0, 1, 2, 3, 4] rfl (H95 x6 x_7 x_8 S)
    · refine V.iload dX8_inRow_118 3 rfl ?_
      refine V.iload dX8_inRow_120 6 rfl ?_
      refine V.ishr dX8_inRow_122 ?_
      refine V.iconst (v := 1) dX8_inRow_123 (by decide) ?_
      refine V.iand dX8_inRow_124 ?_
      refine V.iconst (v := 1) dX8_inRow_125 (by decide) ?_
      refine V.icmp_ne 186 dX8_inRow_126 (by decide) ?_ ?_
      · exact (tjX8_inRow_186 l G F x1 x3 x4 x5 x6 x7 S k95 H95 (hX8_inRow_113 k95 F x1 x3 x4 x5 n) ih)
      · refine V.aload_n dX8_inRow_129 0 rfl ?_
        refine V.iload_n dX8_inRow_130 2 rfl ?_
        refine V.iload dX8_inRow_131 6 rfl ?_
        refine V.callV (M' := mX8_apart) (As := [vI x3, vI x7]) (ψ := (phP S)) dX8_inRow_133 ml_X8_189 mfX8_apart rfl ⟨by decide, by decide⟩ ⟨by decide, by decide⟩ (enc_at rfl sh0_1) rfl (Nat.le_of_ble_eq_true rfl) rfl (kX8_apart l G F x3 x7 S) (fun a_10 => ?_)
        show V l G mX8_inRow none phI _ 136 [(0, vR (0, 1)), (1, vI x1), (3, vI x3), (4, vI x4), (5, vI x5), (6, vI x6), (7, vI x7)] [vI a_10] (enc S) 0 0
        refine V.ldc (v := 1000000) dX8_inRow_136 ct_X8_188 ?_
        refine V.icmp_ge 186 dX8_inRow_138 (by decide) ?_ ?_
        · exact (tjX8_inRow_186 l G F x1 x3 x4 x5 x6 x7 S k95 H95 (hX8_inRow_113 k95 F x1 x3 x4 x5 n) ih)
        · refine V.aload_n dX8_inRow_141 0 rfl ?_
          refine V.iload_n dX8_inRow_142 2 rfl ?_
          refine V.iload dX8_inRow_143 6 rfl ?_
          refine V.callV (M' := mX8_apart) (As := [vI x3, vI x7]) (ψ := (phP S)) dX8_inRow_145 ml_X8_189 mfX8_apart rfl ⟨by decide, by decide⟩ ⟨by decide, by decide⟩ (enc_at rfl sh0_1) rfl (Nat.le_of_ble_eq_true rfl) rfl (kX8_apart l G F x3 x7 S) (fun a_11 => ?_)
          show V l G mX8_inRow none phI _ 148 [(0, vR (0, 1)), (1, vI x1), (3, vI x3), (4, vI x4), (5, vI x5), (6, vI x6), (7, vI x7)] [vI a_11] (enc S) 0 0
          refine V.aload_n dX8_inRow_148 0 rfl ?_
          refine V.sgR 8 35 dX8_inRow_149 gf_X8_89 sh0_1 rfl rfl ?_
          refine V.bipush (v := 7) dX8_inRow_152 (by decide) ?_
          refine V.iload dX8_inRow_154 3 rfl ?_
          refine V.iconst (v := 1) dX8_inRow_156 (by decide) ?_
          refine V.iload dX8_inRow_157 6 rfl ?_
          refine V.ishl dX8_inRow_159 ?_
          refine V.ixor dX8_inRow_160 ?_
          refine V.imul dX8_inRow_161 ?_
          refine V.iload dX8_inRow_162 6 rfl ?_
          refine V.iadd dX8_inRow_164 ?_
          refine V.chk fun h_12 => ?_
          refine V.sia dX8_inRow_165 h_12 ?_
          refine V.iadd dX8_inRow_166 ?_
          refine V.aload_n dX8_inRow_167 0 rfl ?_
          refine V.sgR 8 35 dX8_inRow_168 gf_X8_89 sh0_1 rfl rfl ?_
          refine V.bipush (v := 7) dX8_inRow_171 (by decide) ?_
          refine V.iload dX8_inRow_173 3 rfl ?_
          refine V.imul dX8_inRow_175 ?_
          refine V.iload_n dX8_inRow_176 2 rfl ?_
          refine V.iadd dX8_inRow_177 ?_
          refine V.chk fun h_13 => ?_
          refine V.sia dX8_inRow_178 h_13 ?_
          refine V.icmp_ne 186 dX8_inRow_179 (by decide) ?_ ?_
          · exact (tjX8_inRow_186 l G F x1 x3 x4 x5 x6 x7 S k95 H95 (hX8_inRow_113 k95 F x1 x3 x4 x5 n) ih)
          · refine V.iconst (v := 1) dX8_inRow_182 (by decide) ?_
            refine V.goto 187 dX8_inRow_183 (by decide) ?_
            exact (tjX8_inRow_187 l G F x1 x3 x4 x5 x6 x7 1 S k95 H95 (hX8_inRow_113 k95 F x1 x3 x4 x5 n) ih)

theorem thX8_inRow_95 (l : Launch) (G : vg) (F : Nat) (x1 : Int32) : ∀ (n : Nat) (x3 : Int32) (x4 : Int32) (x5 : Int32) (S : vs), V l G mX8_inRow none phI (hX8_inRow_95 F x1 n x3 x4 x5 S) 95 [(0, vR (0, 1)), (1, vI x1), (3, vI x3), (4, vI x4), (5, vI x5)] [] (enc S) 0 0
  | 0, _, _, _, _ => V.nil
  | n + 1, x3, x4, x5, S => by
    have ih := thX8_inRow_95 l G F x1 n
    rw [hX8_inRow_95]
    refine V.iload dX8_inRow_95 4 rfl ?_
    refine V.iload_n dX8_inRow_97 1 rfl ?_
    refine V.icmp_ge 227 dX8_inRow_98 (by decide) ?_ ?_
    · refine V.iload_n dX8_inRow_227 2 rfl ?_
      exact V.iret rfl dX8_inRow_228 rfl (by decide) (by decide)
    · refine V.bipush (v := (-9)) dX8_inRow_101 (by decide) ?_
      refine V.istore (L' := [(0, vR (0, 1)), (1, vI x1), (3, vI x3), (4, vI x4), (5, vI x5), (6, vI (-9))]) dX8_inRow_103 (by decide) rfl rfl ?_
      refine V.aload_n dX8_inRow_105 0 rfl ?_
      refine V.sgI 8 20 dX8_inRow_106 gf_X8_182 sh0_1 rfl rfl ?_
      refine V.iconst (v := 1) dX8_inRow_109 (by decide) ?_
      refine V.isub dX8_inRow_110 ?_
      refine V.lett fun x_6 => ?_
      refine V.istore (L' := [(0, vR (0, 1)), (1, vI x1), (3, vI x3), (4, vI x4), (5, vI x5), (6, vI (-9)), (7, vI x_6)]) dX8_inRow_111 (by decide) rfl rfl ?_
      exact (thX8_inRow_113 l G F x1 x3 x4 x5 (hX8_inRow_95 F x1 n) ih F (-9) x_6 S)

theorem tjX8_inRow_78 (l : Launch) (G : vg) (F : Nat) (x1 : Int32) (x2 : Int32) (x4 : Int32) (sk0 : Int32) (S : vs) (k46 : Int32 → Int32 → vs → Option (Int32 × vs)) (H46 : ∀ (z3 : Int32), ∀ (z4 : Int32), ∀ (Sz : vs), V l G mX8_inRow none phI (k46 z3 z4 Sz) 46 [(0, vR (0, 1)), (1, vI x1), (2, vI x2), (3, vI z3), (4, vI z4)] [] (enc Sz) 0 0) : V l G mX8_inRow none phI (jX8_inRow_78 k46 F x1 x2 x4 sk0 S) 78 [(0, vR (0, 1)), (1, vI x1), (2, vI x2), (4, vI x4)] [vI sk0] (enc S) 0 0 := by
  unfold jX8_inRow_78
  refine V.istore_n (L' := [(0, vR (0, 1)), (1, vI x1), (2, vI x2), (4, vI x4), (3, vI sk0)]) dX8_inRow_78 (by decide) rfl rfl ?_
  refine V.lti (e := x4 + (-1)) (fun x_16 he => ?_)
  refine V.iinc (v := x_16) (L' := [(0, vR (0, 1)), (1, vI x1), (2, vI x2), (4, vI x_16), (3, vI sk0)]) dX8_inRow_79 3 rfl he.symm (by decide) rfl rfl ?_
  refine V.goto 46 dX8_inRow_82 (by decide) ?_
  exact V.lsub [0, 1, 2, 4, 3] rfl (H46 sk0 x_16 S)

theorem thX8_inRow_46 (l : Launch) (G : vg) (F : Nat) (x1 : Int32) (x2 : Int32) : ∀ (n : Nat) (x3 : Int32) (x4 : Int32) (S : vs), V l G mX8_inRow none phI (hX8_inRow_46 F x1 x2 n x3 x4 S) 46 [(0, vR (0, 1)), (1, vI x1), (2, vI x2), (3, vI x3), (4, vI x4)] [] (enc S) 0 0
  | 0, _, _, _ => V.nil
  | n + 1, x3, x4, S => by
    have ih := thX8_inRow_46 l G F x1 x2 n
    rw [hX8_inRow_46]
    refine V.iload dX8_inRow_46 4 rfl ?_
    refine V.if_lt 85 dX8_inRow_48 (by decide) ?_ ?_
    · refine V.aload_n dX8_inRow_85 0 rfl ?_
      refine V.iload_n dX8_inRow_86 3 rfl ?_
      refine V.callV (M' := mX8_others) (As := [vI x3]) (ψ := (phP S)) dX8_inRow_87 ml_X8_195 mfX8_others rfl ⟨by decide, by decide⟩ ⟨by decide, by decide⟩ (enc_at rfl sh0_1) rfl (Nat.le_of_ble_eq_true rfl) rfl (kX8_others l G F x3 S) (fun a_5 => ?_)
      show V l G mX8_inRow none phI _ 90 [(0, vR (0, 1)), (1, vI x1), (2, vI x2), (3, vI x3), (4, vI x4)] [vI a_5] (enc S) 0 0
      refine V.istore (L' := [(0, vR (0, 1)), (1, vI x1), (2, vI x2), (3, vI x3), (4, vI a_5)]) dX8_inRow_90 (by decide) rfl rfl ?_
      refine V.iconst (v := 0) dX8_inRow_92 (by decide) ?_
      refine V.istore (L' := [(0, vR (0, 1)), (1, vI x1), (2, vI x2), (3, vI x3), (4, vI a_5), (5, vI 0)]) dX8_inRow_93 (by decide) rfl rfl ?_
      exact V.lsub [0, 1, 3, 4, 5] rfl (thX8_inRow_95 l G F x1 F x3 a_5 0 S)
    · refine V.aload_n dX8_inRow_51 0 rfl ?_
      refine V.sgR 8 35 dX8_inRow_52 gf_X8_89 sh0_1 rfl rfl ?_
      refine V.bipush (v := 7) dX8_inRow_55 (by decide) ?_
      refine V.aload_n dX8_inRow_57 0 rfl ?_
      refine V.iload dX8_inRow_58 4 rfl ?_
      refine V.callV (M' := mX8_others) (As := [vI x4]) (ψ := (phP S)) dX8_inRow_60 ml_X8_195 mfX8_others rfl ⟨by decide, by decide⟩ ⟨by decide, by decide⟩ (enc_at rfl sh0_1) rfl (Nat.le_of_ble_eq_true rfl) rfl (kX8_others l G F x4 S) (fun a_14 => ?_)
      show V l G mX8_inRow none phI _ 63 [(0, vR (0, 1)), (1, vI x1), (2, vI x2), (3, vI x3), (4, vI x4)] [vI a_14, vI 7, vR (0, 49)] (enc S) 0 0
      refine V.imul dX8_inRow_63 ?_
      refine V.iload dX8_inRow_64 4 rfl ?_
      refine V.iadd dX8_inRow_66 ?_
      refine V.chk fun h_15 => ?_
      refine V.sia dX8_inRow_67 h_15 ?_
      refine V.iload_n dX8_inRow_68 2 rfl ?_
      refine V.icmp_ne 77 dX8_inRow_69 (by decide) ?_ ?_
      · refine V.iload_n dX8_inRow_77 3 rfl ?_
        exact V.lsub [0, 1, 2, 4] rfl (tjX8_inRow_78 l G F x1 x2 x4 x3 S (hX8_inRow_46 F x1 x2 n) ih)
      · refine V.iload dX8_inRow_72 4 rfl ?_
        refine V.goto 78 dX8_inRow_74 (by decide) ?_
        exact V.lsub [0, 1, 2, 4] rfl (tjX8_inRow_78 l G F x1 x2 x4 x4 S (hX8_inRow_46 F x1 x2 n) ih)

theorem kX8_inRow (l : Launch) (G : vg) (F : Nat) (x1 : Int32) (S : vs) : Rt l G mX8_inRow none phI [vR (0, 1), vI x1] (enc S) (fX8_inRow F x1 S) := Rt.of rfl (Nat.le_of_ble_eq_true rfl) (by
  show V l G mX8_inRow none phI _ 0 [(0, vR (0, 1)), (1, vI x1)] [] (enc S) 0 0
  unfold fX8_inRow
  refine V.aload_n dX8_inRow_0 0 rfl ?_
  refine V.iconst (v := 0) dX8_inRow_1 (by decide) ?_
  refine V.spI 8 0 dX8_inRow_2 pf_X8_95 sh0_1 rfl rfl ?_
  refine V.sst fun S_1 => ?_
  refine V.aload_n dX8_inRow_5 0 rfl ?_
  refine V.callV (M' := mX8_leastOf) (As := []) (ψ := phI) dX8_inRow_6 ml_X8_198 mfX8_leastOf rfl ⟨by decide, by decide⟩ ⟨by decide, by decide⟩ (enc_at rfl sh0_1) rfl (Nat.le_of_ble_eq_true rfl) rfl (kX8_leastOf l G F S_1) (fun a_2 => ?_)
  show V l G mX8_inRow none phI _ 9 [(0, vR (0, 1)), (1, vI x1)] [vI a_2.1] (enc a_2.2) 0 0
  refine V.istore_n (L' := [(0, vR (0, 1)), (1, vI x1), (2, vI a_2.1)]) dX8_inRow_9 (by decide) rfl rfl ?_
  refine V.iload_n dX8_inRow_10 2 rfl ?_
  refine V.ldc (v := 1000000) dX8_inRow_11 ct_X8_188 ?_
  refine V.icmp_ge 32 dX8_inRow_13 (by decide) ?_ ?_
  · refine V.bipush (v := (-9)) dX8_inRow_32 (by decide) ?_
    exact V.iret rfl dX8_inRow_34 rfl (by decide) (by decide)
  · refine V.iload_n dX8_inRow_16 1 rfl ?_
    refine V.i2l dX8_inRow_17 ?_
    refine V.lconst (v := 0) dX8_inRow_18 (by decide) ?_
    refine V.aload_n dX8_inRow_19 0 rfl ?_
    refine V.sgI 8 20 dX8_inRow_20 gf_X8_182 sh0_1 rfl rfl ?_
    refine V.iconst (v := 1) dX8_inRow_23 (by decide) ?_
    refine V.isub dX8_inRow_24 ?_
    refine V.i2l dX8_inRow_25 ?_
    refine V.callS (M' := mX8_in) (As := [vJ x1.toInt64, vJ 0, vJ (((a_2.2.1 (0, 1) 20) - 1).toInt64)]) (ψ := (phP a_2.2)) dX8_inRow_26 ml_X8_102 mfX8_in rfl ⟨by decide, by decide⟩ ⟨by decide, by decide⟩ (Nat.le_of_ble_eq_true rfl) rfl (kX8_in l G F x1.toInt64 0 (((a_2.2.1 (0, 1) 20) - 1).toInt64) a_2.2) (fun a_3 => ?_)
    show V l G mX8_inRow none phI _ 29 [(0, vR (0, 1)), (1, vI x1), (2, vI a_2.1)] [vI a_3] (enc a_2.2) 0 0
    refine V.if_ne 35 dX8_inRow_29 (by decide) ?_ ?_
    · refine V.bipush (v := (-9)) dX8_inRow_35 (by decide) ?_
      refine V.istore_n (L' := [(0, vR (0, 1)), (1, vI x1), (2, vI a_2.1), (3, vI (-9))]) dX8_inRow_37 (by decide) rfl rfl ?_
      refine V.aload_n dX8_inRow_38 0 rfl ?_
      refine V.sgI 8 20 dX8_inRow_39 gf_X8_182 sh0_1 rfl rfl ?_
      refine V.iconst (v := 1) dX8_inRow_42 (by decide) ?_
      refine V.isub dX8_inRow_43 ?_
      refine V.lett fun x_4 => ?_
      refine V.istore (L' := [(0, vR (0, 1)), (1, vI x1), (2, vI a_2.1), (3, vI (-9)), (4, vI x_4)]) dX8_inRow_44 (by decide) rfl rfl ?_
      exact (thX8_inRow_46 l G F x1 a_2.1 F (-9) x_4 a_2.2)
    · refine V.bipush (v := (-9)) dX8_inRow_32 (by decide) ?_
      exact V.iret rfl dX8_inRow_34 rfl (by decide) (by decide))

abbrev mX8_sung : vmt := (yX8_sung, cX8_sung, 5, (some .int), { frames := 2, cells := 0, slots := 0, locals := 46 })
theorem mfX8_sung : mfV mX8_sung 3 := ⟨im_X8_sung, se_X8_sung, ini_X8, co_X8_sung, by decide, by decide, by decide +kernel⟩
def fX8_sung (F : Nat) (x1 : Int32) (x2 : Int32) (x3 : Int32) (S : vs) : Option (Int32 × vs) := stp (s2 S (0, 1) 0 0) (fun S_1 => (fX8_noSide F x1 S_1).bind (fun a_2 => if a_2 = 0 then (fX8_in F x3.toInt64 0 3 S_1).bind (fun a_3 => if a_3 = 0 then some ((-1), S_1) else (fX8_in F x2.toInt64 0 255 S_1).bind (fun a_4 => if a_4 = 0 then some ((-2), S_1) else gd (inb x1 (alen 0 S_1.2.2 (0, 32))) (ltt (S_1.1 (0, 32) x1.toNatClampNeg) (fun x_6 => stp (s2 S_1 (0, 32) x1.toNatClampNeg x2) (fun S_7 => gd (inb x1 (alen 0 S_7.2.2 (0, 33))) (stp (s2 S_7 (0, 33) x1.toNatClampNeg x3) (fun S_9 => some (x_6, S_9)))))))) else some ((-1), S_1)))
theorem kX8_sung (l : Launch) (G : vg) (F : Nat) (x1 : Int32) (x2 : Int32) (x3 : Int32) (S : vs) : Rt l G mX8_sung none phI [vR (0, 1), vI x1, vI x2, vI x3] (enc S) (fX8_sung F x1 x2 x3 S) := Rt.of rfl (Nat.le_of_ble_eq_true rfl) (by
  show V l G mX8_sung none phI _ 0 [(0, vR (0, 1)), (1, vI x1), (2, vI x2), (3, vI x3)] [] (enc S) 0 0
  unfold fX8_sung
  refine V.aload_n dX8_sung_0 0 rfl ?_
  refine V.iconst (v := 0) dX8_sung_1 (by decide) ?_
  refine V.spI 8 0 dX8_sung_2 pf_X8_95 sh0_1 rfl rfl ?_
  refine V.sst fun S_1 => ?_
  refine V.aload_n dX8_sung_5 0 rfl ?_
  refine V.iload_n dX8_sung_6 1 rfl ?_
  refine V.callV (M' := mX8_noSide) (As := [vI x1]) (ψ := (phP S_1)) dX8_sung_7 ml_X8_110 mfX8_noSide rfl ⟨by decide, by decide⟩ ⟨by decide, by decide⟩ (enc_at rfl sh0_1) rfl (Nat.le_of_ble_eq_true rfl) rfl (kX8_noSide l G F x1 S_1) (fun a_2 => ?_)
  show V l G mX8_sung none phI _ 10 [(0, vR (0, 1)), (1, vI x1), (2, vI x2), (3, vI x3)] [vI a_2] (enc S_1) 0 0
  refine V.if_ne 25 dX8_sung_10 (by decide) ?_ ?_
  · refine V.iconst (v := (-1)) dX8_sung_25 (by decide) ?_
    exact V.iret rfl dX8_sung_26 rfl (by decide) (by decide)
  · refine V.iload_n dX8_sung_13 3 rfl ?_
    refine V.i2l dX8_sung_14 ?_
    refine V.lconst (v := 0) dX8_sung_15 (by decide) ?_
    refine V.ldc2 (v := 3) dX8_sung_16 ct_X8_145 ?_
    refine V.callS (M' := mX8_in) (As := [vJ x3.toInt64, vJ 0, vJ 3]) (ψ := (phP S_1)) dX8_sung_19 ml_X8_102 mfX8_in rfl ⟨by decide, by decide⟩ ⟨by decide, by decide⟩ (Nat.le_of_ble_eq_true rfl) rfl (kX8_in l G F x3.toInt64 0 3 S_1) (fun a_3 => ?_)
    show V l G mX8_sung none phI _ 22 [(0, vR (0, 1)), (1, vI x1), (2, vI x2), (3, vI x3)] [vI a_3] (enc S_1) 0 0
    refine V.if_ne 27 dX8_sung_22 (by decide) ?_ ?_
    · refine V.iload_n dX8_sung_27 2 rfl ?_
      refine V.i2l dX8_sung_28 ?_
      refine V.lconst (v := 0) dX8_sung_29 (by decide) ?_
      refine V.ldc2 (v := 255) dX8_sung_30 ct_X8_201 ?_
      refine V.callS (M' := mX8_in) (As := [vJ x2.toInt64, vJ 0, vJ 255]) (ψ := (phP S_1)) dX8_sung_33 ml_X8_102 mfX8_in rfl ⟨by decide, by decide⟩ ⟨by decide, by decide⟩ (Nat.le_of_ble_eq_true rfl) rfl (kX8_in l G F x2.toInt64 0 255 S_1) (fun a_4 => ?_)
      show V l G mX8_sung none phI _ 36 [(0, vR (0, 1)), (1, vI x1), (2, vI x2), (3, vI x3)] [vI a_4] (enc S_1) 0 0
      refine V.if_ne 42 dX8_sung_36 (by decide) ?_ ?_
      · refine V.aload_n dX8_sung_42 0 rfl ?_
        refine V.sgR 8 12 dX8_sung_43 gf_X8_37 sh0_1 rfl rfl ?_
        refine V.iload_n dX8_sung_46 1 rfl ?_
        refine V.chk fun h_5 => ?_
        refine V.sia dX8_sung_47 h_5 ?_
        refine V.lett fun x_6 => ?_
        refine V.istore (L' := [(0, vR (0, 1)), (1, vI x1), (2, vI x2), (3, vI x3), (4, vI x_6)]) dX8_sung_48 (by decide) rfl rfl ?_
        refine V.aload_n dX8_sung_50 0 rfl ?_
        refine V.sgR 8 12 dX8_sung_51 gf_X8_37 sh0_1 rfl rfl ?_
        refine V.iload_n dX8_sung_54 1 rfl ?_
        refine V.iload_n dX8_sung_55 2 rfl ?_
        refine V.sis dX8_sung_56 h_5 ?_
        refine V.sst fun S_7 => ?_
        refine V.aload_n dX8_sung_57 0 rfl ?_
        refine V.sgR 8 13 dX8_sung_58 gf_X8_40 sh0_1 rfl rfl ?_
        refine V.iload_n dX8_sung_61 1 rfl ?_
        refine V.iload_n dX8_sung_62 3 rfl ?_
        refine V.chk fun h_8 => ?_
        refine V.sis dX8_sung_63 h_8 ?_
        refine V.sst fun S_9 => ?_
        refine V.iload dX8_sung_64 4 rfl ?_
        exact V.iret rfl dX8_sung_66 rfl (by decide) (by decide)
      · refine V.bipush (v := (-2)) dX8_sung_39 (by decide) ?_
        exact V.iret rfl dX8_sung_41 rfl (by decide) (by decide)
    · refine V.iconst (v := (-1)) dX8_sung_25 (by decide) ?_
      exact V.iret rfl dX8_sung_26 rfl (by decide) (by decide))

abbrev mX8_noDay : vmt := (yX8_noDay, cX8_noDay, 1, (some .boolean), { frames := 1, cells := 0, slots := 0, locals := 25 })
theorem mfX8_noDay : mfS mX8_noDay 1 := ⟨sm_X8_noDay, ini_X8, co_X8_noDay, by decide, by decide, by decide +kernel⟩
def fX8_noDay (F : Nat) (x0 : Int32) (S : vs) : Option Int32 := (fX8_in F x0.toInt64 0 9999 S).bind (fun a_1 => if a_1 = 0 then some 1 else some 0)
theorem kX8_noDay (l : Launch) (G : vg) (F : Nat) (x0 : Int32) (S : vs) : Rt l G mX8_noDay none (phP S) [vI x0] (enc S) (fX8_noDay F x0 S) := Rt.of rfl (Nat.le_of_ble_eq_true rfl) (by
  show V l G mX8_noDay none (phP S) _ 0 [(0, vI x0)] [] (enc S) 0 0
  unfold fX8_noDay
  refine V.iload_n dX8_noDay_0 0 rfl ?_
  refine V.i2l dX8_noDay_1 ?_
  refine V.lconst (v := 0) dX8_noDay_2 (by decide) ?_
  refine V.ldc2 (v := 9999) dX8_noDay_3 ct_X8_203 ?_
  refine V.callS (M' := mX8_in) (As := [vJ x0.toInt64, vJ 0, vJ 9999]) (ψ := (phP S)) dX8_noDay_6 ml_X8_102 mfX8_in rfl ⟨by decide, by decide⟩ ⟨by decide, by decide⟩ (Nat.le_of_ble_eq_true rfl) rfl (kX8_in l G F x0.toInt64 0 9999 S) (fun a_1 => ?_)
  show V l G mX8_noDay none (phP S) _ 9 [(0, vI x0)] [vI a_1] (enc S) 0 0
  refine V.if_ne 16 dX8_noDay_9 (by decide) ?_ ?_
  · refine V.iconst (v := 0) dX8_noDay_16 (by decide) ?_
    exact V.zret rfl dX8_noDay_17 rfl (zb_n rfl) (by decide) (by decide)
  · refine V.iconst (v := 1) dX8_noDay_12 (by decide) ?_
    refine V.goto 17 dX8_noDay_13 (by decide) ?_
    exact V.zret rfl dX8_noDay_17 rfl (zb_n rfl) (by decide) (by decide))

abbrev mX8_text : vmt := (yX8_text, cX8_text, 6, (some .int), { frames := 2, cells := 0, slots := 0, locals := 45 })
theorem mfX8_text : mfV mX8_text 5 := ⟨im_X8_text, se_X8_text, ini_X8, co_X8_text, by decide, by decide, by decide +kernel⟩
def jX8_text_55 (F : Nat) (x1 : Int32) (x2 : Int32) (x3 : Int32) (x4 : Int32) (x5 : Int32) (S : vs) : Option (Int32 × vs) := (fX8_noDay F x4 S).bind (fun a_3 => if a_3 = 0 then if (S.1 (0, 1) 24) = 60 then some ((-4), S) else gd (inb (S.1 (0, 1) 24) (alen 0 S.2.2 (0, 41))) (stp (s2 S (0, 41) (S.1 (0, 1) 24).toNatClampNeg x1) (fun S_5 => gd (inb (S_5.1 (0, 1) 24) (alen 0 S_5.2.2 (0, 42))) (stp (s2 S_5 (0, 42) (S_5.1 (0, 1) 24).toNatClampNeg x2) (fun S_7 => gd (inb (S_7.1 (0, 1) 24) (alen 0 S_7.2.2 (0, 43))) (stp (s2 S_7 (0, 43) (S_7.1 (0, 1) 24).toNatClampNeg x3) (fun S_9 => gd (inb (S_9.1 (0, 1) 24) (alen 0 S_9.2.2 (0, 44))) (stp (s2 S_9 (0, 44) (S_9.1 (0, 1) 24).toNatClampNeg x4) (fun S_11 => gd (inb (S_11.1 (0, 1) 24) (alen 1 S_11.2.2 (0, 45))) (gd (zb x5) (stp (s2 S_11 (0, 45) (S_11.1 (0, 1) 24).toNatClampNeg x5) (fun S_14 => stp (s2 S_14 (0, 1) 24 ((S_14.1 (0, 1) 24) + 1)) (fun S_15 => some ((S_15.1 (0, 1) 24) - 1, S_15))))))))))))) else some ((-2), S))

def jX8_text_35 (F : Nat) (x1 : Int32) (x2 : Int32) (x3 : Int32) (x4 : Int32) (x5 : Int32) (S : vs) : Option (Int32 × vs) := if x3 = (-9) then jX8_text_55 F x1 x2 x3 x4 x5 S else (fX8_in F x3.toInt64 0 5 S).bind (fun a_16 => if a_16 = 0 then some ((-1), S) else jX8_text_55 F x1 x2 x3 x4 x5 S)

def fX8_text (F : Nat) (x1 : Int32) (x2 : Int32) (x3 : Int32) (x4 : Int32) (x5 : Int32) (S : vs) : Option (Int32 × vs) := stp (s2 S (0, 1) 0 0) (fun S_1 => (fX8_in F x1.toInt64 0 7 S_1).bind (fun a_2 => if a_2 = 0 then some ((-1), S_1) else if x2 = (-9) then jX8_text_35 F x1 x2 x3 x4 x5 S_1 else (fX8_in F x2.toInt64 0 3 S_1).bind (fun a_17 => if a_17 = 0 then some ((-1), S_1) else jX8_text_35 F x1 x2 x3 x4 x5 S_1)))
theorem tjX8_text_55 (l : Launch) (G : vg) (F : Nat) (x1 : Int32) (x2 : Int32) (x3 : Int32) (x4 : Int32) (x5 : Int32) (S : vs) : V l G mX8_text none phI (jX8_text_55 F x1 x2 x3 x4 x5 S) 55 [(0, vR (0, 1)), (1, vI x1), (2, vI x2), (3, vI x3), (4, vI x4), (5, vI x5)] [] (enc S) 0 0 := by
  unfold jX8_text_55
  refine V.iload dX8_text_55 4 rfl ?_
  refine V.callS (M' := mX8_noDay) (As := [vI x4]) (ψ := (phP S)) dX8_text_57 ml_X8_209 mfX8_noDay rfl ⟨by decide, by decide⟩ ⟨by decide, by decide⟩ (Nat.le_of_ble_eq_true rfl) rfl (kX8_noDay l G F x4 S) (fun a_3 => ?_)
  show V l G mX8_text none phI _ 60 [(0, vR (0, 1)), (1, vI x1), (2, vI x2), (3, vI x3), (4, vI x4), (5, vI x5)] [vI a_3] (enc S) 0 0
  refine V.if_eq 66 dX8_text_60 (by decide) ?_ ?_
  · refine V.aload_n dX8_text_66 0 rfl ?_
    refine V.sgI 8 24 dX8_text_67 gf_X8_212 sh0_1 rfl rfl ?_
    refine V.bipush (v := 60) dX8_text_70 (by decide) ?_
    refine V.icmp_ne 78 dX8_text_72 (by decide) ?_ ?_
    · refine V.aload_n dX8_text_78 0 rfl ?_
      refine V.sgR 8 25 dX8_text_79 gf_X8_65 sh0_1 rfl rfl ?_
      refine V.aload_n dX8_text_82 0 rfl ?_
      refine V.sgI 8 24 dX8_text_83 gf_X8_212 sh0_1 rfl rfl ?_
      refine V.iload_n dX8_text_86 1 rfl ?_
      refine V.chk fun h_4 => ?_
      refine V.sis dX8_text_87 h_4 ?_
      refine V.sst fun S_5 => ?_
      refine V.aload_n dX8_text_88 0 rfl ?_
      refine V.sgR 8 26 dX8_text_89 gf_X8_68 sh0_1 rfl rfl ?_
      refine V.aload_n dX8_text_92 0 rfl ?_
      refine V.sgI 8 24 dX8_text_93 gf_X8_212 sh0_1 rfl rfl ?_
      refine V.iload_n dX8_text_96 2 rfl ?_
      refine V.chk fun h_6 => ?_
      refine V.sis dX8_text_97 h_6 ?_
      refine V.sst fun S_7 => ?_
      refine V.aload_n dX8_text_98 0 rfl ?_
      refine V.sgR 8 27 dX8_text_99 gf_X8_71 sh0_1 rfl rfl ?_
      refine V.aload_n dX8_text_102 0 rfl ?_
      refine V.sgI 8 24 dX8_text_103 gf_X8_212 sh0_1 rfl rfl ?_
      refine V.iload_n dX8_text_106 3 rfl ?_
      refine V.chk fun h_8 => ?_
      refine V.sis dX8_text_107 h_8 ?_
      refine V.sst fun S_9 => ?_
      refine V.aload_n dX8_text_108 0 rfl ?_
      refine V.sgR 8 28 dX8_text_109 gf_X8_74 sh0_1 rfl rfl ?_
      refine V.aload_n dX8_text_112 0 rfl ?_
      refine V.sgI 8 24 dX8_text_113 gf_X8_212 sh0_1 rfl rfl ?_
      refine V.iload dX8_text_116 4 rfl ?_
      refine V.chk fun h_10 => ?_
      refine V.sis dX8_text_118 h_10 ?_
      refine V.sst fun S_11 => ?_
      refine V.aload_n dX8_text_119 0 rfl ?_
      refine V.sgR 8 29 dX8_text_120 gf_X8_77 sh0_1 rfl rfl ?_
      refine V.aload_n dX8_text_123 0 rfl ?_
      refine V.sgI 8 24 dX8_text_124 gf_X8_212 sh0_1 rfl rfl ?_
      refine V.iload dX8_text_127 5 rfl ?_
      refine V.chk fun h_12 => ?_
      refine V.chk fun h_13 => ?_
      refine V.szs dX8_text_129 h_12 h_13 ?_
      refine V.sst fun S_14 => ?_
      refine V.aload_n dX8_text_130 0 rfl ?_
      refine V.dup dX8_text_131 rfl ?_
      refine V.sgI 8 24 dX8_text_132 gf_X8_212 sh0_1 rfl rfl ?_
      refine V.iconst (v := 1) dX8_text_135 (by decide) ?_
      refine V.iadd dX8_text_136 ?_
      refine V.spI 8 24 dX8_text_137 pf_X8_212 sh0_1 rfl rfl ?_
      refine V.sst fun S_15 => ?_
      refine V.aload_n dX8_text_140 0 rfl ?_
      refine V.sgI 8 24 dX8_text_141 gf_X8_212 sh0_1 rfl rfl ?_
      refine V.iconst (v := 1) dX8_text_144 (by decide) ?_
      refine V.isub dX8_text_145 ?_
      exact V.iret rfl dX8_text_146 rfl (by decide) (by decide)
    · refine V.bipush (v := (-4)) dX8_text_75 (by decide) ?_
      exact V.iret rfl dX8_text_77 rfl (by decide) (by decide)
  · refine V.bipush (v := (-2)) dX8_text_63 (by decide) ?_
    exact V.iret rfl dX8_text_65 rfl (by decide) (by decide)

theorem tjX8_text_35 (l : Launch) (G : vg) (F : Nat) (x1 : Int32) (x2 : Int32) (x3 : Int32) (x4 : Int32) (x5 : Int32) (S : vs) : V l G mX8_text none phI (jX8_text_35 F x1 x2 x3 x4 x5 S) 35 [(0, vR (0, 1)), (1, vI x1), (2, vI x2), (3, vI x3), (4, vI x4), (5, vI x5)] [] (enc S) 0 0 := by
  unfold jX8_text_35
  refine V.iload_n dX8_text_35 3 rfl ?_
  refine V.bipush (v := (-9)) dX8_text_36 (by decide) ?_
  refine V.icmp_eq 55 dX8_text_38 (by decide) ?_ ?_
  · exact (tjX8_text_55 l G F x1 x2 x3 x4 x5 S)
  · refine V.iload_n dX8_text_41 3 rfl ?_
    refine V.i2l dX8_text_42 ?_
    refine V.lconst (v := 0) dX8_text_43 (by decide) ?_
    refine V.ldc2 (v := 5) dX8_text_44 ct_X8_207 ?_
    refine V.callS (M' := mX8_in) (As := [vJ x3.toInt64, vJ 0, vJ 5]) (ψ := (phP S)) dX8_text_47 ml_X8_102 mfX8_in rfl ⟨by decide, by decide⟩ ⟨by decide, by decide⟩ (Nat.le_of_ble_eq_true rfl) rfl (kX8_in l G F x3.toInt64 0 5 S) (fun a_16 => ?_)
    show V l G mX8_text none phI _ 50 [(0, vR (0, 1)), (1, vI x1), (2, vI x2), (3, vI x3), (4, vI x4), (5, vI x5)] [vI a_16] (enc S) 0 0
    refine V.if_ne 55 dX8_text_50 (by decide) ?_ ?_
    · exact (tjX8_text_55 l G F x1 x2 x3 x4 x5 S)
    · refine V.iconst (v := (-1)) dX8_text_53 (by decide) ?_
      exact V.iret rfl dX8_text_54 rfl (by decide) (by decide)

theorem kX8_text (l : Launch) (G : vg) (F : Nat) (x1 : Int32) (x2 : Int32) (x3 : Int32) (x4 : Int32) (x5 : Int32) (S : vs) : Rt l G mX8_text none phI [vR (0, 1), vI x1, vI x2, vI x3, vI x4, vI x5] (enc S) (fX8_text F x1 x2 x3 x4 x5 S) := Rt.of rfl (Nat.le_of_ble_eq_true rfl) (by
  show V l G mX8_text none phI _ 0 [(0, vR (0, 1)), (1, vI x1), (2, vI x2), (3, vI x3), (4, vI x4), (5, vI x5)] [] (enc S) 0 0
  unfold fX8_text
  refine V.aload_n dX8_text_0 0 rfl ?_
  refine V.iconst (v := 0) dX8_text_1 (by decide) ?_
  refine V.spI 8 0 dX8_text_2 pf_X8_95 sh0_1 rfl rfl ?_
  refine V.sst fun S_1 => ?_
  refine V.iload_n dX8_text_5 1 rfl ?_
  refine V.i2l dX8_text_6 ?_
  refine V.lconst (v := 0) dX8_text_7 (by decide) ?_
  refine V.ldc2 (v := 7) dX8_text_8 ct_X8_205 ?_
  refine V.callS (M' := mX8_in) (As := [vJ x1.toInt64, vJ 0, vJ 7]) (ψ := (phP S_1)) dX8_text_11 ml_X8_102 mfX8_in rfl ⟨by decide, by decide⟩ ⟨by decide, by decide⟩ (Nat.le_of_ble_eq_true rfl) rfl (kX8_in l G F x1.toInt64 0 7 S_1) (fun a_2 => ?_)
  show V l G mX8_text none phI _ 14 [(0, vR (0, 1)), (1, vI x1), (2, vI x2), (3, vI x3), (4, vI x4), (5, vI x5)] [vI a_2] (enc S_1) 0 0
  refine V.if_eq 53 dX8_text_14 (by decide) ?_ ?_
  · refine V.iconst (v := (-1)) dX8_text_53 (by decide) ?_
    exact V.iret rfl dX8_text_54 rfl (by decide) (by decide)
  · refine V.iload_n dX8_text_17 2 rfl ?_
    refine V.bipush (v := (-9)) dX8_text_18 (by decide) ?_
    refine V.icmp_eq 35 dX8_text_20 (by decide) ?_ ?_
    · exact (tjX8_text_35 l G F x1 x2 x3 x4 x5 S_1)
    · refine V.iload_n dX8_text_23 2 rfl ?_
      refine V.i2l dX8_text_24 ?_
      refine V.lconst (v := 0) dX8_text_25 (by decide) ?_
      refine V.ldc2 (v := 3) dX8_text_26 ct_X8_145 ?_
      refine V.callS (M' := mX8_in) (As := [vJ x2.toInt64, vJ 0, vJ 3]) (ψ := (phP S_1)) dX8_text_29 ml_X8_102 mfX8_in rfl ⟨by decide, by decide⟩ ⟨by decide, by decide⟩ (Nat.le_of_ble_eq_true rfl) rfl (kX8_in l G F x2.toInt64 0 3 S_1) (fun a_17 => ?_)
      show V l G mX8_text none phI _ 32 [(0, vR (0, 1)), (1, vI x1), (2, vI x2), (3, vI x3), (4, vI x4), (5, vI x5)] [vI a_17] (enc S_1) 0 0
      refine V.if_eq 53 dX8_text_32 (by decide) ?_ ?_
      · refine V.iconst (v := (-1)) dX8_text_53 (by decide) ?_
        exact V.iret rfl dX8_text_54 rfl (by decide) (by decide)
      · exact (tjX8_text_35 l G F x1 x2 x3 x4 x5 S_1))

