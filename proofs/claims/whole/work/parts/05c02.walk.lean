abbrev mX1_weigh : vmt := (yX1_weigh, cX1_weigh, 8, none, { frames := 3, cells := 0, slots := 0, locals := 66 })
theorem mfX1_weigh : mfV mX1_weigh 3 := ⟨im_X1_weigh, se_X1_weigh, ini_X1, co_X1_weigh, by decide, by decide, by decide +kernel⟩
def jX1_weigh_130 (k26 : Int32 → Int32 → Int32 → vs → Option vs) (F : Nat) (x1 : Int32) (x2 : Int32) (x4 : Int32) (x5 : Int32) (x6 : Int32) (S : vs) : Option vs := ltt (x6 + 1) (fun x_12 => k26 x4 x5 x_12 S)

def jX1_weigh_113 (k26 : Int32 → Int32 → Int32 → vs → Option vs) (F : Nat) (x1 : Int32) (x2 : Int32) (x4 : Int32) (x6 : Int32) (x7 : Int32) (S : vs) : Option vs := (fX1_gap F x2 x6 S).bind (fun a_13 => gd (inb x7 (alen 0 S.2.2 (0, 21))) (ltt (a_13 + (S.1 (0, 21) x7.toNatClampNeg)) (fun x_15 => jX1_weigh_130 k26 F x1 x2 x4 x_15 x6 S)))

def hX1_weigh_26 (F : Nat) (x1 : Int32) (x2 : Int32) : Nat → Int32 → Int32 → Int32 → vs → Option vs
  | 0, _, _, _, _ => none
  | n + 1, x4, x5, x6, S => if (S.1 (0, 4) 1) ≤ x6 then (fX1_cell F x1 x2 S).bind (fun a_1 => gd (inb a_1 (alen 0 S.2.2 (0, 20))) (stp (s2 S (0, 20) a_1.toNatClampNeg x4) (fun S_3 => (fX1_cell F x1 x2 S_3).bind (fun a_4 => gd (inb a_4 (alen 0 S_3.2.2 (0, 21))) (stp (s2 S_3 (0, 21) a_4.toNatClampNeg x5) (fun S_6 => some S_6)))))) else (fX1_canFollow F x1 x2 x6 S).bind (fun a_7 => if a_7 = 0 then jX1_weigh_130 (hX1_weigh_26 F x1 x2 n) F x1 x2 x4 x5 x6 S else (fX1_cell F (x1 ||| ((1 : Int32) <<< (x6 &&& 31))) x6 S).bind (fun a_8 => gd (inb a_8 (alen 0 S.2.2 (0, 20))) (ltt (x4 + (S.1 (0, 20) a_8.toNatClampNeg)) (fun x_10 => gd (inb a_8 (alen 0 S.2.2 (0, 21))) (if (S.1 (0, 21) a_8.toNatClampNeg) = (-9) then jX1_weigh_130 (hX1_weigh_26 F x1 x2 n) F x1 x2 x_10 x5 x6 S else if x5 = (-9) then jX1_weigh_113 (hX1_weigh_26 F x1 x2 n) F x1 x2 x_10 x6 a_8 S else (fX1_gap F x2 x6 S).bind (fun a_16 => if x5 ≤ (a_16 + (S.1 (0, 21) a_8.toNatClampNeg)) then jX1_weigh_130 (hX1_weigh_26 F x1 x2 n) F x1 x2 x_10 x5 x6 S else jX1_weigh_113 (hX1_weigh_26 F x1 x2 n) F x1 x2 x_10 x6 a_8 S))))))

def jX1_weigh_21 (F : Nat) (x1 : Int32) (x2 : Int32) (x4 : Int32) (sk0 : Int32) (S : vs) : Option vs := hX1_weigh_26 F x1 x2 F x4 sk0 0 S

def jX1_weigh_9 (F : Nat) (x1 : Int32) (x2 : Int32) (x3 : Int32) (sk0 : Int32) (S : vs) : Option vs := if x3 = 0 then jX1_weigh_21 F x1 x2 sk0 (-9) S else jX1_weigh_21 F x1 x2 sk0 0 S

def fX1_weigh (F : Nat) (x1 : Int32) (x2 : Int32) (x3 : Int32) (S : vs) : Option vs := if x3 = 0 then jX1_weigh_9 F x1 x2 x3 0 S else jX1_weigh_9 F x1 x2 x3 1 S
theorem tjX1_weigh_130 (l : Launch) (G : vg) (F : Nat) (x1 : Int32) (x2 : Int32) (x4 : Int32) (x5 : Int32) (x6 : Int32) (S : vs) (k26 : Int32 → Int32 → Int32 → vs → Option vs) (H26 : ∀ (z4 : Int32), ∀ (z5 : Int32), ∀ (z6 : Int32), ∀ (Sz : vs), V l G mX1_weigh none phV (k26 z4 z5 z6 Sz) 26 [(0, vR (0, 4)), (1, vI x1), (2, vI x2), (4, vI z4), (5, vI z5), (6, vI z6)] [] (enc Sz) 0 0) : V l G mX1_weigh none phV (jX1_weigh_130 k26 F x1 x2 x4 x5 x6 S) 130 [(0, vR (0, 4)), (1, vI x1), (2, vI x2), (4, vI x4), (5, vI x5), (6, vI x6)] [] (enc S) 0 0 := by
  unfold jX1_weigh_130
  refine V.lti (e := x6 + 1) (fun x_12 he => ?_)
  refine V.iinc (v := x_12) (L' := [(0, vR (0, 4)), (1, vI x1), (2, vI x2), (4, vI x4), (5, vI x5), (6, vI x_12)]) dX1_weigh_130 5 rfl he.symm (by decide) rfl rfl ?_
  refine V.goto 26 dX1_weigh_133 (by decide) ?_
  exact (H26 x4 x5 x_12 S)

theorem tjX1_weigh_113 (l : Launch) (G : vg) (F : Nat) (x1 : Int32) (x2 : Int32) (x4 : Int32) (x6 : Int32) (x7 : Int32) (S : vs) (k26 : Int32 → Int32 → Int32 → vs → Option vs) (H26 : ∀ (z4 : Int32), ∀ (z5 : Int32), ∀ (z6 : Int32), ∀ (Sz : vs), V l G mX1_weigh none phV (k26 z4 z5 z6 Sz) 26 [(0, vR (0, 4)), (1, vI x1), (2, vI x2), (4, vI z4), (5, vI z5), (6, vI z6)] [] (enc Sz) 0 0) : V l G mX1_weigh none phV (jX1_weigh_113 k26 F x1 x2 x4 x6 x7 S) 113 [(0, vR (0, 4)), (1, vI x1), (2, vI x2), (4, vI x4), (6, vI x6), (7, vI x7)] [] (enc S) 0 0 := by
  unfold jX1_weigh_113
  refine V.aload_n dX1_weigh_113 0 rfl ?_
  refine V.iload_n dX1_weigh_114 2 rfl ?_
  refine V.iload dX1_weigh_115 4 rfl ?_
  refine V.callV (M' := mX1_gap) (As := [vI x2, vI x6]) (ψ := (phP S)) dX1_weigh_117 ml_X1_49 mfX1_gap rfl ⟨by decide, by decide⟩ ⟨by decide, by decide⟩ (enc_at rfl sh0_4) rfl (Nat.le_of_ble_eq_true rfl) rfl (kX1_gap l G F x2 x6 S) (fun a_13 => ?_)
  show V l G mX1_weigh none phV _ 120 [(0, vR (0, 4)), (1, vI x1), (2, vI x2), (4, vI x4), (6, vI x6), (7, vI x7)] [vI a_13] (enc S) 0 0
  refine V.aload_n dX1_weigh_120 0 rfl ?_
  refine V.sgR 1 5 dX1_weigh_121 gf_X1_28 sh0_4 rfl rfl ?_
  refine V.iload dX1_weigh_124 5 rfl ?_
  refine V.chk fun h_14 => ?_
  refine V.sia dX1_weigh_126 h_14 ?_
  refine V.iadd dX1_weigh_127 ?_
  refine V.lett fun x_15 => ?_
  refine V.istore (L' := [(0, vR (0, 4)), (1, vI x1), (2, vI x2), (4, vI x4), (6, vI x6), (7, vI x7), (5, vI x_15)]) dX1_weigh_128 (by decide) rfl rfl ?_
  exact V.lsub [0, 1, 2, 3, 6, 4] rfl (tjX1_weigh_130 l G F x1 x2 x4 x_15 x6 S k26 H26)

theorem thX1_weigh_26 (l : Launch) (G : vg) (F : Nat) (x1 : Int32) (x2 : Int32) : ∀ (n : Nat) (x4 : Int32) (x5 : Int32) (x6 : Int32) (S : vs), V l G mX1_weigh none phV (hX1_weigh_26 F x1 x2 n x4 x5 x6 S) 26 [(0, vR (0, 4)), (1, vI x1), (2, vI x2), (4, vI x4), (5, vI x5), (6, vI x6)] [] (enc S) 0 0
  | 0, _, _, _, _ => V.nil
  | n + 1, x4, x5, x6, S => by
    have ih := thX1_weigh_26 l G F x1 x2 n
    rw [hX1_weigh_26]
    refine V.iload dX1_weigh_26 5 rfl ?_
    refine V.aload_n dX1_weigh_28 0 rfl ?_
    refine V.sgI 1 1 dX1_weigh_29 gf_X1_15 sh0_4 rfl rfl ?_
    refine V.icmp_ge 136 dX1_weigh_32 (by decide) ?_ ?_
    · refine V.aload_n dX1_weigh_136 0 rfl ?_
      refine V.sgR 1 4 dX1_weigh_137 gf_X1_25 sh0_4 rfl rfl ?_
      refine V.iload_n dX1_weigh_140 1 rfl ?_
      refine V.iload_n dX1_weigh_141 2 rfl ?_
      refine V.callS (M' := mX1_cell) (As := [vI x1, vI x2]) (ψ := (phP S)) dX1_weigh_142 ml_X1_34 mfX1_cell rfl ⟨by decide, by decide⟩ ⟨by decide, by decide⟩ (Nat.le_of_ble_eq_true rfl) rfl (kX1_cell l G F x1 x2 S) (fun a_1 => ?_)
      show V l G mX1_weigh none phV _ 145 [(0, vR (0, 4)), (1, vI x1), (2, vI x2), (4, vI x4), (5, vI x5), (6, vI x6)] [vI a_1, vR (0, 20)] (enc S) 0 0
      refine V.iload dX1_weigh_145 3 rfl ?_
      refine V.chk fun h_2 => ?_
      refine V.sis dX1_weigh_147 h_2 ?_
      refine V.sst fun S_3 => ?_
      refine V.aload_n dX1_weigh_148 0 rfl ?_
      refine V.sgR 1 5 dX1_weigh_149 gf_X1_28 sh0_4 rfl rfl ?_
      refine V.iload_n dX1_weigh_152 1 rfl ?_
      refine V.iload_n dX1_weigh_153 2 rfl ?_
      refine V.callS (M' := mX1_cell) (As := [vI x1, vI x2]) (ψ := (phP S_3)) dX1_weigh_154 ml_X1_34 mfX1_cell rfl ⟨by decide, by decide⟩ ⟨by decide, by decide⟩ (Nat.le_of_ble_eq_true rfl) rfl (kX1_cell l G F x1 x2 S_3) (fun a_4 => ?_)
      show V l G mX1_weigh none phV _ 157 [(0, vR (0, 4)), (1, vI x1), (2, vI x2), (4, vI x4), (5, vI x5), (6, vI x6)] [vI a_4, vR (0, 21)] (enc S_3) 0 0
      refine V.iload dX1_weigh_157 4 rfl ?_
      refine V.chk fun h_5 => ?_
      refine V.sis dX1_weigh_159 h_5 ?_
      refine V.sst fun S_6 => ?_
      exact V.vret rfl dX1_weigh_160 rfl (by decide) (by decide)
    · refine V.aload_n dX1_weigh_35 0 rfl ?_
      refine V.iload_n dX1_weigh_36 1 rfl ?_
      refine V.iload_n dX1_weigh_37 2 rfl ?_
      refine V.iload dX1_weigh_38 5 rfl ?_
      refine V.callV (M' := mX1_canFollow) (As := [vI x1, vI x2, vI x6]) (ψ := (phP S)) dX1_weigh_40 ml_X1_45 mfX1_canFollow rfl ⟨by decide, by decide⟩ ⟨by decide, by decide⟩ (enc_at rfl sh0_4) rfl (Nat.le_of_ble_eq_true rfl) rfl (kX1_canFollow l G F x1 x2 x6 S) (fun a_7 => ?_)
      show V l G mX1_weigh none phV _ 43 [(0, vR (0, 4)), (1, vI x1), (2, vI x2), (4, vI x4), (5, vI x5), (6, vI x6)] [vI a_7] (enc S) 0 0
      refine V.if_ne 49 dX1_weigh_43 (by decide) ?_ ?_
      · refine V.iload_n dX1_weigh_49 1 rfl ?_
        refine V.iconst (v := 1) dX1_weigh_50 (by decide) ?_
        refine V.iload dX1_weigh_51 5 rfl ?_
        refine V.ishl dX1_weigh_53 ?_
        refine V.ior dX1_weigh_54 ?_
        refine V.iload dX1_weigh_55 5 rfl ?_
        refine V.callS (M' := mX1_cell) (As := [vI (x1 ||| ((1 : Int32) <<< (x6 &&& 31))), vI x6]) (ψ := (phP S)) dX1_weigh_57 ml_X1_34 mfX1_cell rfl ⟨by decide, by decide⟩ ⟨by decide, by decide⟩ (Nat.le_of_ble_eq_true rfl) rfl (kX1_cell l G F (x1 ||| ((1 : Int32) <<< (x6 &&& 31))) x6 S) (fun a_8 => ?_)
        show V l G mX1_weigh none phV _ 60 [(0, vR (0, 4)), (1, vI x1), (2, vI x2), (4, vI x4), (5, vI x5), (6, vI x6)] [vI a_8] (enc S) 0 0
        refine V.istore (L' := [(0, vR (0, 4)), (1, vI x1), (2, vI x2), (4, vI x4), (5, vI x5), (6, vI x6), (7, vI a_8)]) dX1_weigh_60 (by decide) rfl rfl ?_
        refine V.iload dX1_weigh_62 3 rfl ?_
        refine V.aload_n dX1_weigh_64 0 rfl ?_
        refine V.sgR 1 4 dX1_weigh_65 gf_X1_25 sh0_4 rfl rfl ?_
        refine V.iload dX1_weigh_68 6 rfl ?_
        refine V.chk fun h_9 => ?_
        refine V.sia dX1_weigh_70 h_9 ?_
        refine V.iadd dX1_weigh_71 ?_
        refine V.lett fun x_10 => ?_
        refine V.istore (L' := [(0, vR (0, 4)), (1, vI x1), (2, vI x2), (4, vI x_10), (5, vI x5), (6, vI x6), (7, vI a_8)]) dX1_weigh_72 (by decide) rfl rfl ?_
        refine V.aload_n dX1_weigh_74 0 rfl ?_
        refine V.sgR 1 5 dX1_weigh_75 gf_X1_28 sh0_4 rfl rfl ?_
        refine V.iload dX1_weigh_78 6 rfl ?_
        refine V.chk fun h_11 => ?_
        refine V.sia dX1_weigh_80 h_11 ?_
        refine V.bipush (v := (-9)) dX1_weigh_81 (by decide) ?_
        refine V.icmp_eq 130 dX1_weigh_83 (by decide) ?_ ?_
        · exact V.lsub [0, 1, 2, 3, 4, 5] rfl (tjX1_weigh_130 l G F x1 x2 x_10 x5 x6 S (hX1_weigh_26 F x1 x2 n) ih)
        · refine V.iload dX1_weigh_86 4 rfl ?_
          refine V.bipush (v := (-9)) dX1_weigh_88 (by decide) ?_
          refine V.icmp_eq 113 dX1_weigh_90 (by decide) ?_ ?_
          · exact V.lsub [0, 1, 2, 3, 5, 6] rfl (tjX1_weigh_113 l G F x1 x2 x_10 x6 a_8 S (hX1_weigh_26 F x1 x2 n) ih)
          · refine V.aload_n dX1_weigh_93 0 rfl ?_
            refine V.iload_n dX1_weigh_94 2 rfl ?_
            refine V.iload dX1_weigh_95 5 rfl ?_
            refine V.callV (M' := mX1_gap) (As := [vI x2, vI x6]) (ψ := (phP S)) dX1_weigh_97 ml_X1_49 mfX1_gap rfl ⟨by decide, by decide⟩ ⟨by decide, by decide⟩ (enc_at rfl sh0_4) rfl (Nat.le_of_ble_eq_true rfl) rfl (kX1_gap l G F x2 x6 S) (fun a_16 => ?_)
            show V l G mX1_weigh none phV _ 100 [(0, vR (0, 4)), (1, vI x1), (2, vI x2), (4, vI x_10), (5, vI x5), (6, vI x6), (7, vI a_8)] [vI a_16] (enc S) 0 0
            refine V.aload_n dX1_weigh_100 0 rfl ?_
            refine V.sgR 1 5 dX1_weigh_101 gf_X1_28 sh0_4 rfl rfl ?_
            refine V.iload dX1_weigh_104 6 rfl ?_
            refine V.sia dX1_weigh_106 h_11 ?_
            refine V.iadd dX1_weigh_107 ?_
            refine V.iload dX1_weigh_108 4 rfl ?_
            refine V.icmp_ge 130 dX1_weigh_110 (by decide) ?_ ?_
            · exact V.lsub [0, 1, 2, 3, 4, 5] rfl (tjX1_weigh_130 l G F x1 x2 x_10 x5 x6 S (hX1_weigh_26 F x1 x2 n) ih)
            · exact V.lsub [0, 1, 2, 3, 5, 6] rfl (tjX1_weigh_113 l G F x1 x2 x_10 x6 a_8 S (hX1_weigh_26 F x1 x2 n) ih)
      · refine V.goto 130 dX1_weigh_46 (by decide) ?_
        exact (tjX1_weigh_130 l G F x1 x2 x4 x5 x6 S (hX1_weigh_26 F x1 x2 n) ih)

theorem tjX1_weigh_21 (l : Launch) (G : vg) (F : Nat) (x1 : Int32) (x2 : Int32) (x4 : Int32) (sk0 : Int32) (S : vs) : V l G mX1_weigh none phV (jX1_weigh_21 F x1 x2 x4 sk0 S) 21 [(0, vR (0, 4)), (1, vI x1), (2, vI x2), (4, vI x4)] [vI sk0] (enc S) 0 0 := by
  unfold jX1_weigh_21
  refine V.istore (L' := [(0, vR (0, 4)), (1, vI x1), (2, vI x2), (4, vI x4), (5, vI sk0)]) dX1_weigh_21 (by decide) rfl rfl ?_
  refine V.iconst (v := 0) dX1_weigh_23 (by decide) ?_
  refine V.istore (L' := [(0, vR (0, 4)), (1, vI x1), (2, vI x2), (4, vI x4), (5, vI sk0), (6, vI 0)]) dX1_weigh_24 (by decide) rfl rfl ?_
  exact (thX1_weigh_26 l G F x1 x2 F x4 sk0 0 S)

theorem tjX1_weigh_9 (l : Launch) (G : vg) (F : Nat) (x1 : Int32) (x2 : Int32) (x3 : Int32) (sk0 : Int32) (S : vs) : V l G mX1_weigh none phV (jX1_weigh_9 F x1 x2 x3 sk0 S) 9 [(0, vR (0, 4)), (1, vI x1), (2, vI x2), (3, vI x3)] [vI sk0] (enc S) 0 0 := by
  unfold jX1_weigh_9
  refine V.istore (L' := [(0, vR (0, 4)), (1, vI x1), (2, vI x2), (3, vI x3), (4, vI sk0)]) dX1_weigh_9 (by decide) rfl rfl ?_
  refine V.iload_n dX1_weigh_11 3 rfl ?_
  refine V.if_eq 19 dX1_weigh_12 (by decide) ?_ ?_
  · refine V.bipush (v := (-9)) dX1_weigh_19 (by decide) ?_
    exact V.lsub [0, 1, 2, 4] rfl (tjX1_weigh_21 l G F x1 x2 sk0 (-9) S)
  · refine V.iconst (v := 0) dX1_weigh_15 (by decide) ?_
    refine V.goto 21 dX1_weigh_16 (by decide) ?_
    exact V.lsub [0, 1, 2, 4] rfl (tjX1_weigh_21 l G F x1 x2 sk0 0 S)

theorem kX1_weigh (l : Launch) (G : vg) (F : Nat) (x1 : Int32) (x2 : Int32) (x3 : Int32) (S : vs) : Rt l G mX1_weigh none phV [vR (0, 4), vI x1, vI x2, vI x3] (enc S) (fX1_weigh F x1 x2 x3 S) := Rt.of rfl (Nat.le_of_ble_eq_true rfl) (by
  show V l G mX1_weigh none phV _ 0 [(0, vR (0, 4)), (1, vI x1), (2, vI x2), (3, vI x3)] [] (enc S) 0 0
  unfold fX1_weigh
  refine V.iload_n dX1_weigh_0 3 rfl ?_
  refine V.if_eq 8 dX1_weigh_1 (by decide) ?_ ?_
  · refine V.iconst (v := 0) dX1_weigh_8 (by decide) ?_
    exact (tjX1_weigh_9 l G F x1 x2 x3 0 S)
  · refine V.iconst (v := 1) dX1_weigh_4 (by decide) ?_
    refine V.goto 9 dX1_weigh_5 (by decide) ?_
    exact (tjX1_weigh_9 l G F x1 x2 x3 1 S))

abbrev mX1_weighAll : vmt := (yX1_weighAll, cX1_weighAll, 4, none, { frames := 4, cells := 0, slots := 0, locals := 93 })
theorem mfX1_weighAll : mfV mX1_weighAll 0 := ⟨im_X1_weighAll, se_X1_weighAll, ini_X1, co_X1_weighAll, by decide, by decide, by decide +kernel⟩
def jX1_weighAll_49 (k11 : Int32 → vs → Option vs) (k17 : Int32 → vs → Option vs) (F : Nat) (x1 : Int32) (x2 : Int32) (x3 : Int32) (S : vs) : Option vs := ltt (x3 + 1) (fun x_4 => k17 x_4 S)

def jX1_weighAll_46 (k11 : Int32 → vs → Option vs) (k17 : Int32 → vs → Option vs) (F : Nat) (x1 : Int32) (x2 : Int32) (x3 : Int32) (sk0 : Int32) (sk1 : Int32) (sk2 : Int32) (S : vs) : Option vs := (fX1_weigh F sk2 sk1 sk0 S).bind (fun a_5 => jX1_weighAll_49 k11 k17 F x1 x2 x3 a_5)

def hX1_weighAll_17 (k11 : Int32 → vs → Option vs) (F : Nat) (x1 : Int32) (x2 : Int32) : Nat → Int32 → vs → Option vs
  | 0, _, _ => none
  | n + 1, x3, S => if (S.1 (0, 4) 1) ≤ x3 then ltt (x2 + (-1)) (fun x_2 => k11 x_2 S) else (fX7_holds F x2 x3 S).bind (fun a_3 => if a_3 = 0 then jX1_weighAll_49 k11 (hX1_weighAll_17 k11 F x1 x2 n) F x1 x2 x3 S else if x2 = x1 then jX1_weighAll_46 k11 (hX1_weighAll_17 k11 F x1 x2 n) F x1 x2 x3 1 x3 x2 S else jX1_weighAll_46 k11 (hX1_weighAll_17 k11 F x1 x2 n) F x1 x2 x3 0 x3 x2 S)

def hX1_weighAll_11 (F : Nat) (x1 : Int32) : Nat → Int32 → vs → Option vs
  | 0, _, _ => none
  | n + 1, x2, S => if x2 ≤ 0 then some S else hX1_weighAll_17 (hX1_weighAll_11 F x1 n) F x1 x2 F 0 S

def fX1_weighAll (F : Nat) (S : vs) : Option vs := ltt (((1 : Int32) <<< ((S.1 (0, 4) 1) &&& 31)) - 1) (fun x_1 => hX1_weighAll_11 F x_1 F x_1 S)
theorem tjX1_weighAll_49 (l : Launch) (G : vg) (F : Nat) (x1 : Int32) (x2 : Int32) (x3 : Int32) (S : vs) (k11 : Int32 → vs → Option vs) (H11 : ∀ (z2 : Int32), ∀ (Sz : vs), V l G mX1_weighAll none phV (k11 z2 Sz) 11 [(0, vR (0, 4)), (1, vI x1), (2, vI z2)] [] (enc Sz) 0 0) (k17 : Int32 → vs → Option vs) (H17 : ∀ (z3 : Int32), ∀ (Sz : vs), V l G mX1_weighAll none phV (k17 z3 Sz) 17 [(0, vR (0, 4)), (1, vI x1), (2, vI x2), (3, vI z3)] [] (enc Sz) 0 0) : V l G mX1_weighAll none phV (jX1_weighAll_49 k11 k17 F x1 x2 x3 S) 49 [(0, vR (0, 4)), (1, vI x1), (2, vI x2), (3, vI x3)] [] (enc S) 0 0 := by
  unfold jX1_weighAll_49
  refine V.lti (e := x3 + 1) (fun x_4 he => ?_)
  refine V.iinc (v := x_4) (L' := [(0, vR (0, 4)), (1, vI x1), (2, vI x2), (3, vI x_4)]) dX1_weighAll_49 3 rfl he.symm (by decide) rfl rfl ?_
  refine V.goto 17 dX1_weighAll_52 (by decide) ?_
  exact (H17 x_4 S)

theorem tjX1_weighAll_46 (l : Launch) (G : vg) (F : Nat) (x1 : Int32) (x2 : Int32) (x3 : Int32) (sk0 : Int32) (sk1 : Int32) (sk2 : Int32) (S : vs) (k11 : Int32 → vs → Option vs) (H11 : ∀ (z2 : Int32), ∀ (Sz : vs), V l G mX1_weighAll none phV (k11 z2 Sz) 11 [(0, vR (0, 4)), (1, vI x1), (2, vI z2)] [] (enc Sz) 0 0) (k17 : Int32 → vs → Option vs) (H17 : ∀ (z3 : Int32), ∀ (Sz : vs), V l G mX1_weighAll none phV (k17 z3 Sz) 17 [(0, vR (0, 4)), (1, vI x1), (2, vI x2), (3, vI z3)] [] (enc Sz) 0 0) : V l G mX1_weighAll none phV (jX1_weighAll_46 k11 k17 F x1 x2 x3 sk0 sk1 sk2 S) 46 [(0, vR (0, 4)), (1, vI x1), (2, vI x2), (3, vI x3)] [vI sk0, vI sk1, vI sk2, vR (0, 4)] (enc S) 0 0 := by
  unfold jX1_weighAll_46
  refine V.callV (M' := mX1_weigh) (As := [vI sk2, vI sk1, vI sk0]) (ψ := phV) dX1_weighAll_46 ml_X1_56 mfX1_weigh rfl ⟨by decide, by decide⟩ ⟨by decide, by decide⟩ (enc_at rfl sh0_4) rfl (Nat.le_of_ble_eq_true rfl) rfl (kX1_weigh l G F sk2 sk1 sk0 S) (fun a_5 => ?_)
  show V l G mX1_weighAll none phV _ 49 [(0, vR (0, 4)), (1, vI x1), (2, vI x2), (3, vI x3)] [] (enc a_5) 0 0
  exact (tjX1_weighAll_49 l G F x1 x2 x3 a_5 k11 H11 k17 H17)

theorem thX1_weighAll_17 (l : Launch) (G : vg) (F : Nat) (x1 : Int32) (x2 : Int32) (k11 : Int32 → vs → Option vs) (H11 : ∀ (z2 : Int32), ∀ (Sz : vs), V l G mX1_weighAll none phV (k11 z2 Sz) 11 [(0, vR (0, 4)), (1, vI x1), (2, vI z2)] [] (enc Sz) 0 0) : ∀ (n : Nat) (x3 : Int32) (S : vs), V l G mX1_weighAll none phV (hX1_weighAll_17 k11 F x1 x2 n x3 S) 17 [(0, vR (0, 4)), (1, vI x1), (2, vI x2), (3, vI x3)] [] (enc S) 0 0
  | 0, _, _ => V.nil
  | n + 1, x3, S => by
    have ih := thX1_weighAll_17 l G F x1 x2 k11 H11 n
    rw [hX1_weighAll_17]
    refine V.iload_n dX1_weighAll_17 3 rfl ?_
    refine V.aload_n dX1_weighAll_18 0 rfl ?_
    refine V.sgI 1 1 dX1_weighAll_19 gf_X1_15 sh0_4 rfl rfl ?_
    refine V.icmp_ge 55 dX1_weighAll_22 (by decide) ?_ ?_
    · refine V.lti (e := x2 + (-1)) (fun x_2 he => ?_)
      refine V.iinc (v := x_2) (L' := [(0, vR (0, 4)), (1, vI x1), (2, vI x_2), (3, vI x3)]) dX1_weighAll_55 2 rfl he.symm (by decide) rfl rfl ?_
      refine V.goto 11 dX1_weighAll_58 (by decide) ?_
      exact V.lsub [0, 1, 2] rfl (H11 x_2 S)
    · refine V.iload_n dX1_weighAll_25 2 rfl ?_
      refine V.iload_n dX1_weighAll_26 3 rfl ?_
      refine V.callN (M' := mX7_holds) (As := [vI x2, vI x3]) (ψ := (phP S)) rfl rfl dX1_weighAll_27 mfX7_holds rfl ⟨by decide, by decide⟩ ⟨by decide, by decide⟩ (Nat.le_of_ble_eq_true rfl) rfl (kX7_holds l G F x2 x3 S) (fun a_3 => ?_)
      show V l G mX1_weighAll none phV _ 30 [(0, vR (0, 4)), (1, vI x1), (2, vI x2), (3, vI x3)] [vI a_3] (enc S) 0 0
      refine V.if_eq 49 dX1_weighAll_30 (by decide) ?_ ?_
      · exact (tjX1_weighAll_49 l G F x1 x2 x3 S k11 H11 (hX1_weighAll_17 k11 F x1 x2 n) ih)
      · refine V.aload_n dX1_weighAll_33 0 rfl ?_
        refine V.iload_n dX1_weighAll_34 2 rfl ?_
        refine V.iload_n dX1_weighAll_35 3 rfl ?_
        refine V.iload_n dX1_weighAll_36 2 rfl ?_
        refine V.iload_n dX1_weighAll_37 1 rfl ?_
        refine V.icmp_ne 45 dX1_weighAll_38 (by decide) ?_ ?_
        · refine V.iconst (v := 0) dX1_weighAll_45 (by decide) ?_
          exact (tjX1_weighAll_46 l G F x1 x2 x3 0 x3 x2 S k11 H11 (hX1_weighAll_17 k11 F x1 x2 n) ih)
        · refine V.iconst (v := 1) dX1_weighAll_41 (by decide) ?_
          refine V.goto 46 dX1_weighAll_42 (by decide) ?_
          exact (tjX1_weighAll_46 l G F x1 x2 x3 1 x3 x2 S k11 H11 (hX1_weighAll_17 k11 F x1 x2 n) ih)

theorem thX1_weighAll_11 (l : Launch) (G : vg) (F : Nat) (x1 : Int32) : ∀ (n : Nat) (x2 : Int32) (S : vs), V l G mX1_weighAll none phV (hX1_weighAll_11 F x1 n x2 S) 11 [(0, vR (0, 4)), (1, vI x1), (2, vI x2)] [] (enc S) 0 0
  | 0, _, _ => V.nil
  | n + 1, x2, S => by
    have ih := thX1_weighAll_11 l G F x1 n
    rw [hX1_weighAll_11]
    refine V.iload_n dX1_weighAll_11 2 rfl ?_
    refine V.if_le 61 dX1_weighAll_12 (by decide) ?_ ?_
    · exact V.vret rfl dX1_weighAll_61 rfl (by decide) (by decide)
    · refine V.iconst (v := 0) dX1_weighAll_15 (by decide) ?_
      refine V.istore_n (L' := [(0, vR (0, 4)), (1, vI x1), (2, vI x2), (3, vI 0)]) dX1_weighAll_16 (by decide) rfl rfl ?_
      exact (thX1_weighAll_17 l G F x1 x2 (hX1_weighAll_11 F x1 n) ih F 0 S)

theorem kX1_weighAll (l : Launch) (G : vg) (F : Nat) (S : vs) : Rt l G mX1_weighAll none phV [vR (0, 4)] (enc S) (fX1_weighAll F S) := Rt.of rfl (Nat.le_of_ble_eq_true rfl) (by
  show V l G mX1_weighAll none phV _ 0 [(0, vR (0, 4))] [] (enc S) 0 0
  unfold fX1_weighAll
  refine V.iconst (v := 1) dX1_weighAll_0 (by decide) ?_
  refine V.aload_n dX1_weighAll_1 0 rfl ?_
  refine V.sgI 1 1 dX1_weighAll_2 gf_X1_15 sh0_4 rfl rfl ?_
  refine V.ishl dX1_weighAll_5 ?_
  refine V.iconst (v := 1) dX1_weighAll_6 (by decide) ?_
  refine V.isub dX1_weighAll_7 ?_
  refine V.lett fun x_1 => ?_
  refine V.istore_n (L' := [(0, vR (0, 4)), (1, vI x_1)]) dX1_weighAll_8 (by decide) rfl rfl ?_
  refine V.iload_n dX1_weighAll_9 1 rfl ?_
  refine V.istore_n (L' := [(0, vR (0, 4)), (1, vI x_1), (2, vI x_1)]) dX1_weighAll_10 (by decide) rfl rfl ?_
  exact (thX1_weighAll_11 l G F x_1 F x_1 S))

abbrev mX1_countRows : vmt := (yX1_countRows, cX1_countRows, 3, (some .int), { frames := 5, cells := 0, slots := 0, locals := 116 })
theorem mfX1_countRows : mfV mX1_countRows 0 := ⟨im_X1_countRows, se_X1_countRows, ini_X1, co_X1_countRows, by decide, by decide, by decide +kernel⟩
def hX1_countRows_8 (F : Nat) : Nat → Int32 → Int32 → vs → Option (Int32 × vs)
  | 0, _, _, _ => none
  | n + 1, x1, x2, S => if (S.1 (0, 4) 1) ≤ x2 then some (x1, S) else (fX1_cell F ((1 : Int32) <<< (x2 &&& 31)) x2 S).bind (fun a_2 => gd (inb a_2 (alen 0 S.2.2 (0, 20))) (ltt (x1 + (S.1 (0, 20) a_2.toNatClampNeg)) (fun x_4 => ltt (x2 + 1) (fun x_5 => hX1_countRows_8 F n x_4 x_5 S))))

def fX1_countRows (F : Nat) (S : vs) : Option (Int32 × vs) := (fX1_weighAll F S).bind (fun a_1 => hX1_countRows_8 F F 0 0 a_1)
theorem thX1_countRows_8 (l : Launch) (G : vg) (F : Nat) : ∀ (n : Nat) (x1 : Int32) (x2 : Int32) (S : vs), V l G mX1_countRows none phI (hX1_countRows_8 F n x1 x2 S) 8 [(0, vR (0, 4)), (1, vI x1), (2, vI x2)] [] (enc S) 0 0
  | 0, _, _, _ => V.nil
  | n + 1, x1, x2, S => by
    have ih := thX1_countRows_8 l G F n
    rw [hX1_countRows_8]
    refine V.iload_n dX1_countRows_8 2 rfl ?_
    refine V.aload_n dX1_countRows_9 0 rfl ?_
    refine V.sgI 1 1 dX1_countRows_10 gf_X1_15 sh0_4 rfl rfl ?_
    refine V.icmp_ge 37 dX1_countRows_13 (by decide) ?_ ?_
    · refine V.iload_n dX1_countRows_37 1 rfl ?_
      exact V.iret rfl dX1_countRows_38 rfl (by decide) (by decide)
    · refine V.iload_n dX1_countRows_16 1 rfl ?_
      refine V.aload_n dX1_countRows_17 0 rfl ?_
      refine V.sgR 1 4 dX1_countRows_18 gf_X1_25 sh0_4 rfl rfl ?_
      refine V.iconst (v := 1) dX1_countRows_21 (by decide) ?_
      refine V.iload_n dX1_countRows_22 2 rfl ?_
      refine V.ishl dX1_countRows_23 ?_
      refine V.iload_n dX1_countRows_24 2 rfl ?_
      refine V.callS (M' := mX1_cell) (As := [vI ((1 : Int32) <<< (x2 &&& 31)), vI x2]) (ψ := (phP S)) dX1_countRows_25 ml_X1_34 mfX1_cell rfl ⟨by decide, by decide⟩ ⟨by decide, by decide⟩ (Nat.le_of_ble_eq_true rfl) rfl (kX1_cell l G F ((1 : Int32) <<< (x2 &&& 31)) x2 S) (fun a_2 => ?_)
      show V l G mX1_countRows none phI _ 28 [(0, vR (0, 4)), (1, vI x1), (2, vI x2)] [vI a_2, vR (0, 20), vI x1] (enc S) 0 0
      refine V.chk fun h_3 => ?_
      refine V.sia dX1_countRows_28 h_3 ?_
      refine V.iadd dX1_countRows_29 ?_
      refine V.lett fun x_4 => ?_
      refine V.istore_n (L' := [(0, vR (0, 4)), (1, vI x_4), (2, vI x2)]) dX1_countRows_30 (by decide) rfl rfl ?_
      refine V.lti (e := x2 + 1) (fun x_5 he => ?_)
      refine V.iinc (v := x_5) (L' := [(0, vR (0, 4)), (1, vI x_4), (2, vI x_5)]) dX1_countRows_31 2 rfl he.symm (by decide) rfl rfl ?_
      refine V.goto 8 dX1_countRows_34 (by decide) ?_
      exact (ih x_4 x_5 S)

theorem kX1_countRows (l : Launch) (G : vg) (F : Nat) (S : vs) : Rt l G mX1_countRows none phI [vR (0, 4)] (enc S) (fX1_countRows F S) := Rt.of rfl (Nat.le_of_ble_eq_true rfl) (by
  show V l G mX1_countRows none phI _ 0 [(0, vR (0, 4))] [] (enc S) 0 0
  unfold fX1_countRows
  refine V.aload_n dX1_countRows_0 0 rfl ?_
  refine V.callV (M' := mX1_weighAll) (As := []) (ψ := phV) dX1_countRows_1 ml_X1_31 mfX1_weighAll rfl ⟨by decide, by decide⟩ ⟨by decide, by decide⟩ (enc_at rfl sh0_4) rfl (Nat.le_of_ble_eq_true rfl) rfl (kX1_weighAll l G F S) (fun a_1 => ?_)
  show V l G mX1_countRows none phI _ 4 [(0, vR (0, 4))] [] (enc a_1) 0 0
  refine V.iconst (v := 0) dX1_countRows_4 (by decide) ?_
  refine V.istore_n (L' := [(0, vR (0, 4)), (1, vI 0)]) dX1_countRows_5 (by decide) rfl rfl ?_
  refine V.iconst (v := 0) dX1_countRows_6 (by decide) ?_
  refine V.istore_n (L' := [(0, vR (0, 4)), (1, vI 0), (2, vI 0)]) dX1_countRows_7 (by decide) rfl rfl ?_
  exact (thX1_countRows_8 l G F F 0 0 a_1))

abbrev mX1_firstPiece : vmt := (yX1_firstPiece, cX1_firstPiece, 5, (some .int), { frames := 5, cells := 0, slots := 0, locals := 116 })
theorem mfX1_firstPiece : mfV mX1_firstPiece 0 := ⟨im_X1_firstPiece, se_X1_firstPiece, ini_X1, co_X1_firstPiece, by decide, by decide, by decide +kernel⟩
def jX1_firstPiece_58 (k12 : Int32 → Int32 → Int32 → vs → Option (Int32 × vs)) (F : Nat) (x1 : Int32) (x2 : Int32) (x3 : Int32) (S : vs) : Option (Int32 × vs) := ltt (x3 + 1) (fun x_5 => k12 x1 x2 x_5 S)

def jX1_firstPiece_53 (k12 : Int32 → Int32 → Int32 → vs → Option (Int32 × vs)) (F : Nat) (x3 : Int32) (x4 : Int32) (S : vs) : Option (Int32 × vs) := jX1_firstPiece_58 k12 F x3 x4 x3 S

def hX1_firstPiece_12 (F : Nat) : Nat → Int32 → Int32 → Int32 → vs → Option (Int32 × vs)
  | 0, _, _, _, _ => none
  | n + 1, x1, x2, x3, S => if (S.1 (0, 4) 1) ≤ x3 then some (x1, S) else (fX1_cell F ((1 : Int32) <<< (x3 &&& 31)) x3 S).bind (fun a_2 => gd (inb a_2 (alen 0 S.2.2 (0, 21))) (ltt (S.1 (0, 21) a_2.toNatClampNeg) (fun x_4 => if x_4 = (-9) then jX1_firstPiece_58 (hX1_firstPiece_12 F n) F x1 x2 x3 S else if x1 = (-9) then jX1_firstPiece_53 (hX1_firstPiece_12 F n) F x3 x_4 S else if x2 ≤ x_4 then jX1_firstPiece_58 (hX1_firstPiece_12 F n) F x1 x2 x3 S else jX1_firstPiece_53 (hX1_firstPiece_12 F n) F x3 x_4 S)))

def fX1_firstPiece (F : Nat) (S : vs) : Option (Int32 × vs) := (fX1_weighAll F S).bind (fun a_1 => hX1_firstPiece_12 F F (-9) (-9) 0 a_1)
theorem tjX1_firstPiece_58 (l : Launch) (G : vg) (F : Nat) (x1 : Int32) (x2 : Int32) (x3 : Int32) (S : vs) (k12 : Int32 → Int32 → Int32 → vs → Option (Int32 × vs)) (H12 : ∀ (z1 : Int32), ∀ (z2 : Int32), ∀ (z3 : Int32), ∀ (Sz : vs), V l G mX1_firstPiece none phI (k12 z1 z2 z3 Sz) 12 [(0, vR (0, 4)), (1, vI z1), (2, vI z2), (3, vI z3)] [] (enc Sz) 0 0) : V l G mX1_firstPiece none phI (jX1_firstPiece_58 k12 F x1 x2 x3 S) 58 [(0, vR (0, 4)), (1, vI x1), (2, vI x2), (3, vI x3)] [] (enc S) 0 0 := by
  unfold jX1_firstPiece_58
  refine V.lti (e := x3 + 1) (fun x_5 he => ?_)
  refine V.iinc (v := x_5) (L' := [(0, vR (0, 4)), (1, vI x1), (2, vI x2), (3, vI x_5)]) dX1_firstPiece_58 3 rfl he.symm (by decide) rfl rfl ?_
  refine V.goto 12 dX1_firstPiece_61 (by decide) ?_
  exact (H12 x1 x2 x_5 S)

theorem tjX1_firstPiece_53 (l : Launch) (G : vg) (F : Nat) (x3 : Int32) (x4 : Int32) (S : vs) (k12 : Int32 → Int32 → Int32 → vs → Option (Int32 × vs)) (H12 : ∀ (z1 : Int32), ∀ (z2 : Int32), ∀ (z3 : Int32), ∀ (Sz : vs), V l G mX1_firstPiece none phI (k12 z1 z2 z3 Sz) 12 [(0, vR (0, 4)), (1, vI z1), (2, vI z2), (3, vI z3)] [] (enc Sz) 0 0) : V l G mX1_firstPiece none phI (jX1_firstPiece_53 k12 F x3 x4 S) 53 [(0, vR (0, 4)), (3, vI x3), (4, vI x4)] [] (enc S) 0 0 := by
  unfold jX1_firstPiece_53
  refine V.iload_n dX1_firstPiece_53 1 rfl ?_
  refine V.istore_n (L' := [(0, vR (0, 4)), (3, vI x3), (4, vI x4), (1, vI x3)]) dX1_firstPiece_54 (by decide) rfl rfl ?_
  refine V.iload dX1_firstPiece_55 2 rfl ?_
  refine V.istore_n (L' := [(0, vR (0, 4)), (3, vI x3), (4, vI x4), (1, vI x3), (2, vI x4)]) dX1_firstPiece_57 (by decide) rfl rfl ?_
  exact V.lsub [0, 3, 4, 1] rfl (tjX1_firstPiece_58 l G F x3 x4 x3 S k12 H12)

theorem thX1_firstPiece_12 (l : Launch) (G : vg) (F : Nat) : ∀ (n : Nat) (x1 : Int32) (x2 : Int32) (x3 : Int32) (S : vs), V l G mX1_firstPiece none phI (hX1_firstPiece_12 F n x1 x2 x3 S) 12 [(0, vR (0, 4)), (1, vI x1), (2, vI x2), (3, vI x3)] [] (enc S) 0 0
  | 0, _, _, _, _ => V.nil
  | n + 1, x1, x2, x3, S => by
    have ih := thX1_firstPiece_12 l G F n
    rw [hX1_firstPiece_12]
    refine V.iload_n dX1_firstPiece_12 3 rfl ?_
    refine V.aload_n dX1_firstPiece_13 0 rfl ?_
    refine V.sgI 1 1 dX1_firstPiece_14 gf_X1_15 sh0_4 rfl rfl ?_
    refine V.icmp_ge 64 dX1_firstPiece_17 (by decide) ?_ ?_
    · refine V.iload_n dX1_firstPiece_64 1 rfl ?_
      exact V.iret rfl dX1_firstPiece_65 rfl (by decide) (by decide)
    · refine V.aload_n dX1_firstPiece_20 0 rfl ?_
      refine V.sgR 1 5 dX1_firstPiece_21 gf_X1_28 sh0_4 rfl rfl ?_
      refine V.iconst (v := 1) dX1_firstPiece_24 (by decide) ?_
      refine V.iload_n dX1_firstPiece_25 3 rfl ?_
      refine V.ishl dX1_firstPiece_26 ?_
      refine V.iload_n dX1_firstPiece_27 3 rfl ?_
      refine V.callS (M' := mX1_cell) (As := [vI ((1 : Int32) <<< (x3 &&& 31)), vI x3]) (ψ := (phP S)) dX1_firstPiece_28 ml_X1_34 mfX1_cell rfl ⟨by decide, by decide⟩ ⟨by decide, by decide⟩ (Nat.le_of_ble_eq_true rfl) rfl (kX1_cell l G F ((1 : Int32) <<< (x3 &&& 31)) x3 S) (fun a_2 => ?_)
      show V l G mX1_firstPiece none phI _ 31 [(0, vR (0, 4)), (1, vI x1), (2, vI x2), (3, vI x3)] [vI a_2, vR (0, 21)] (enc S) 0 0
      refine V.chk fun h_3 => ?_
      refine V.sia dX1_firstPiece_31 h_3 ?_
      refine V.lett fun x_4 => ?_
      refine V.istore (L' := [(0, vR (0, 4)), (1, vI x1), (2, vI x2), (3, vI x3), (4, vI x_4)]) dX1_firstPiece_32 (by decide) rfl rfl ?_
      refine V.iload dX1_firstPiece_34 4 rfl ?_
      refine V.bipush (v := (-9)) dX1_firstPiece_36 (by decide) ?_
      refine V.icmp_eq 58 dX1_firstPiece_38 (by decide) ?_ ?_
      · exact V.lsub [0, 1, 2, 3] rfl (tjX1_firstPiece_58 l G F x1 x2 x3 S (hX1_firstPiece_12 F n) ih)
      · refine V.iload_n dX1_firstPiece_41 1 rfl ?_
        refine V.bipush (v := (-9)) dX1_firstPiece_42 (by decide) ?_
        refine V.icmp_eq 53 dX1_firstPiece_44 (by decide) ?_ ?_
        · exact V.lsub [0, 3, 4] rfl (tjX1_firstPiece_53 l G F x3 x_4 S (hX1_firstPiece_12 F n) ih)
        · refine V.iload dX1_firstPiece_47 4 rfl ?_
          refine V.iload_n dX1_firstPiece_49 2 rfl ?_
          refine V.icmp_ge 58 dX1_firstPiece_50 (by decide) ?_ ?_
          · exact V.lsub [0, 1, 2, 3] rfl (tjX1_firstPiece_58 l G F x1 x2 x3 S (hX1_firstPiece_12 F n) ih)
          · exact V.lsub [0, 3, 4] rfl (tjX1_firstPiece_53 l G F x3 x_4 S (hX1_firstPiece_12 F n) ih)

theorem kX1_firstPiece (l : Launch) (G : vg) (F : Nat) (S : vs) : Rt l G mX1_firstPiece none phI [vR (0, 4)] (enc S) (fX1_firstPiece F S) := Rt.of rfl (Nat.le_of_ble_eq_true rfl) (by
  show V l G mX1_firstPiece none phI _ 0 [(0, vR (0, 4))] [] (enc S) 0 0
  unfold fX1_firstPiece
  refine V.aload_n dX1_firstPiece_0 0 rfl ?_
  refine V.callV (M' := mX1_weighAll) (As := []) (ψ := phV) dX1_firstPiece_1 ml_X1_31 mfX1_weighAll rfl ⟨by decide, by decide⟩ ⟨by decide, by decide⟩ (enc_at rfl sh0_4) rfl (Nat.le_of_ble_eq_true rfl) rfl (kX1_weighAll l G F S) (fun a_1 => ?_)
  show V l G mX1_firstPiece none phI _ 4 [(0, vR (0, 4))] [] (enc a_1) 0 0
  refine V.bipush (v := (-9)) dX1_firstPiece_4 (by decide) ?_
  refine V.istore_n (L' := [(0, vR (0, 4)), (1, vI (-9))]) dX1_firstPiece_6 (by decide) rfl rfl ?_
  refine V.bipush (v := (-9)) dX1_firstPiece_7 (by decide) ?_
  refine V.istore_n (L' := [(0, vR (0, 4)), (1, vI (-9)), (2, vI (-9))]) dX1_firstPiece_9 (by decide) rfl rfl ?_
  refine V.iconst (v := 0) dX1_firstPiece_10 (by decide) ?_
  refine V.istore_n (L' := [(0, vR (0, 4)), (1, vI (-9)), (2, vI (-9)), (3, vI 0)]) dX1_firstPiece_11 (by decide) rfl rfl ?_
  exact (thX1_firstPiece_12 l G F F (-9) (-9) 0 a_1))

abbrev mX1_leastMisfit : vmt := (yX1_leastMisfit, cX1_leastMisfit, 2, (some .int), { frames := 6, cells := 0, slots := 0, locals := 140 })
theorem mfX1_leastMisfit : mfV mX1_leastMisfit 0 := ⟨im_X1_leastMisfit, se_X1_leastMisfit, ini_X1, co_X1_leastMisfit, by decide, by decide, by decide +kernel⟩
def fX1_leastMisfit (F : Nat) (S : vs) : Option (Int32 × vs) := (fX1_firstPiece F S).bind (fun a_1 => if a_1.1 = (-9) then some ((-9), a_1.2) else (fX1_cell F ((1 : Int32) <<< (a_1.1 &&& 31)) a_1.1 a_1.2).bind (fun a_2 => gd (inb a_2 (alen 0 a_1.2.2.2 (0, 21))) (some (a_1.2.1 (0, 21) a_2.toNatClampNeg, a_1.2))))
theorem kX1_leastMisfit (l : Launch) (G : vg) (F : Nat) (S : vs) : Rt l G mX1_leastMisfit none phI [vR (0, 4)] (enc S) (fX1_leastMisfit F S) := Rt.of rfl (Nat.le_of_ble_eq_true rfl) (by
  show V l G mX1_leastMisfit none phI _ 0 [(0, vR (0, 4))] [] (enc S) 0 0
  unfold fX1_leastMisfit
  refine V.aload_n dX1_leastMisfit_0 0 rfl ?_
  refine V.callV (M' := mX1_firstPiece) (As := []) (ψ := phI) dX1_leastMisfit_1 ml_X1_38 mfX1_firstPiece rfl ⟨by decide, by decide⟩ ⟨by decide, by decide⟩ (enc_at rfl sh0_4) rfl (Nat.le_of_ble_eq_true rfl) rfl (kX1_firstPiece l G F S) (fun a_1 => ?_)
  show V l G mX1_leastMisfit none phI _ 4 [(0, vR (0, 4))] [vI a_1.1] (enc a_1.2) 0 0
  refine V.istore_n (L' := [(0, vR (0, 4)), (1, vI a_1.1)]) dX1_leastMisfit_4 (by decide) rfl rfl ?_
  refine V.iload_n dX1_leastMisfit_5 1 rfl ?_
  refine V.bipush (v := (-9)) dX1_leastMisfit_6 (by decide) ?_
  refine V.icmp_ne 16 dX1_leastMisfit_8 (by decide) ?_ ?_
  · refine V.aload_n dX1_leastMisfit_16 0 rfl ?_
    refine V.sgR 1 5 dX1_leastMisfit_17 gf_X1_28 sh0_4 rfl rfl ?_
    refine V.iconst (v := 1) dX1_leastMisfit_20 (by decide) ?_
    refine V.iload_n dX1_leastMisfit_21 1 rfl ?_
    refine V.ishl dX1_leastMisfit_22 ?_
    refine V.iload_n dX1_leastMisfit_23 1 rfl ?_
    refine V.callS (M' := mX1_cell) (As := [vI ((1 : Int32) <<< (a_1.1 &&& 31)), vI a_1.1]) (ψ := (phP a_1.2)) dX1_leastMisfit_24 ml_X1_34 mfX1_cell rfl ⟨by decide, by decide⟩ ⟨by decide, by decide⟩ (Nat.le_of_ble_eq_true rfl) rfl (kX1_cell l G F ((1 : Int32) <<< (a_1.1 &&& 31)) a_1.1 a_1.2) (fun a_2 => ?_)
    show V l G mX1_leastMisfit none phI _ 27 [(0, vR (0, 4)), (1, vI a_1.1)] [vI a_2, vR (0, 21)] (enc a_1.2) 0 0
    refine V.chk fun h_3 => ?_
    refine V.sia dX1_leastMisfit_27 h_3 ?_
    exact V.iret rfl dX1_leastMisfit_28 rfl (by decide) (by decide)
  · refine V.bipush (v := (-9)) dX1_leastMisfit_11 (by decide) ?_
    refine V.goto 28 dX1_leastMisfit_13 (by decide) ?_
    exact V.iret rfl dX1_leastMisfit_28 rfl (by decide) (by decide))

abbrev mX1_nextPiece : vmt := (yX1_nextPiece, cX1_nextPiece, 4, (some .int), { frames := 3, cells := 0, slots := 0, locals := 66 })
theorem mfX1_nextPiece : mfV mX1_nextPiece 2 := ⟨im_X1_nextPiece, se_X1_nextPiece, ini_X1, co_X1_nextPiece, by decide, by decide, by decide +kernel⟩
def jX1_nextPiece_75 (k2 : Int32 → Option Int32) (F : Nat) (x1 : Int32) (x2 : Int32) (x3 : Int32) (S : vs) : Option Int32 := ltt (x3 + 1) (fun x_2 => k2 x_2)

def hX1_nextPiece_2 (F : Nat) (S : vs) (x1 : Int32) (x2 : Int32) : Nat → Int32 → Option Int32
  | 0, _ => none
  | n + 1, x3 => if (S.1 (0, 4) 1) ≤ x3 then some (-9) else (fX1_canFollow F x1 x2 x3 S).bind (fun a_1 => if a_1 = 0 then jX1_nextPiece_75 (hX1_nextPiece_2 F S x1 x2 n) F x1 x2 x3 S else (fX1_cell F (x1 ||| ((1 : Int32) <<< (x3 &&& 31))) x3 S).bind (fun a_3 => gd (inb a_3 (alen 0 S.2.2 (0, 21))) (if (S.1 (0, 21) a_3.toNatClampNeg) = (-9) then jX1_nextPiece_75 (hX1_nextPiece_2 F S x1 x2 n) F x1 x2 x3 S else (fX1_gap F x2 x3 S).bind (fun a_5 => (fX1_cell F (x1 ||| ((1 : Int32) <<< (x3 &&& 31))) x3 S).bind (fun a_6 => gd (inb a_6 (alen 0 S.2.2 (0, 21))) ((fX1_cell F x1 x2 S).bind (fun a_8 => gd (inb a_8 (alen 0 S.2.2 (0, 21))) (if (a_5 + (S.1 (0, 21) a_6.toNatClampNeg)) = (S.1 (0, 21) a_8.toNatClampNeg) then some x3 else jX1_nextPiece_75 (hX1_nextPiece_2 F S x1 x2 n) F x1 x2 x3 S))))))))

def fX1_nextPiece (F : Nat) (x1 : Int32) (x2 : Int32) (S : vs) : Option Int32 := hX1_nextPiece_2 F S x1 x2 F 0
theorem tjX1_nextPiece_75 (l : Launch) (G : vg) (F : Nat) (x1 : Int32) (x2 : Int32) (x3 : Int32) (S : vs) (k2 : Int32 → Option Int32) (H2 : ∀ (z3 : Int32), V l G mX1_nextPiece none (phP S) (k2 z3) 2 [(0, vR (0, 4)), (1, vI x1), (2, vI x2), (3, vI z3)] [] (enc S) 0 0) : V l G mX1_nextPiece none (phP S) (jX1_nextPiece_75 k2 F x1 x2 x3 S) 75 [(0, vR (0, 4)), (1, vI x1), (2, vI x2), (3, vI x3)] [] (enc S) 0 0 := by
  unfold jX1_nextPiece_75
  refine V.lti (e := x3 + 1) (fun x_2 he => ?_)
  refine V.iinc (v := x_2) (L' := [(0, vR (0, 4)), (1, vI x1), (2, vI x2), (3, vI x_2)]) dX1_nextPiece_75 3 rfl he.symm (by decide) rfl rfl ?_
  refine V.goto 2 dX1_nextPiece_78 (by decide) ?_
  exact (H2 x_2)

theorem thX1_nextPiece_2 (l : Launch) (G : vg) (F : Nat) (S : vs) (x1 : Int32) (x2 : Int32) : ∀ (n : Nat) (x3 : Int32), V l G mX1_nextPiece none (phP S) (hX1_nextPiece_2 F S x1 x2 n x3) 2 [(0, vR (0, 4)), (1, vI x1), (2, vI x2), (3, vI x3)] [] (enc S) 0 0
  | 0, _ => V.nil
  | n + 1, x3 => by
    have ih := thX1_nextPiece_2 l G F S x1 x2 n
    rw [hX1_nextPiece_2]
    refine V.iload_n dX1_nextPiece_2 3 rfl ?_
    refine V.aload_n dX1_nextPiece_3 0 rfl ?_
    refine V.sgI 1 1 dX1_nextPiece_4 gf_X1_15 sh0_4 rfl rfl ?_
    refine V.icmp_ge 81 dX1_nextPiece_7 (by decide) ?_ ?_
    · refine V.bipush (v := (-9)) dX1_nextPiece_81 (by decide) ?_
      exact V.iret rfl dX1_nextPiece_83 rfl (by decide) (by decide)
    · refine V.aload_n dX1_nextPiece_10 0 rfl ?_
      refine V.iload_n dX1_nextPiece_11 1 rfl ?_
      refine V.iload_n dX1_nextPiece_12 2 rfl ?_
      refine V.iload_n dX1_nextPiece_13 3 rfl ?_
      refine V.callV (M' := mX1_canFollow) (As := [vI x1, vI x2, vI x3]) (ψ := (phP S)) dX1_nextPiece_14 ml_X1_45 mfX1_canFollow rfl ⟨by decide, by decide⟩ ⟨by decide, by decide⟩ (enc_at rfl sh0_4) rfl (Nat.le_of_ble_eq_true rfl) rfl (kX1_canFollow l G F x1 x2 x3 S) (fun a_1 => ?_)
      show V l G mX1_nextPiece none (phP S) _ 17 [(0, vR (0, 4)), (1, vI x1), (2, vI x2), (3, vI x3)] [vI a_1] (enc S) 0 0
      refine V.if_eq 75 dX1_nextPiece_17 (by decide) ?_ ?_
      · exact (tjX1_nextPiece_75 l G F x1 x2 x3 S (hX1_nextPiece_2 F S x1 x2 n) ih)
      · refine V.aload_n dX1_nextPiece_20 0 rfl ?_
        refine V.sgR 1 5 dX1_nextPiece_21 gf_X1_28 sh0_4 rfl rfl ?_
        refine V.iload_n dX1_nextPiece_24 1 rfl ?_
        refine V.iconst (v := 1) dX1_nextPiece_25 (by decide) ?_
        refine V.iload_n dX1_nextPiece_26 3 rfl ?_
        refine V.ishl dX1_nextPiece_27 ?_
        refine V.ior dX1_nextPiece_28 ?_
        refine V.iload_n dX1_nextPiece_29 3 rfl ?_
        refine V.callS (M' := mX1_cell) (As := [vI (x1 ||| ((1 : Int32) <<< (x3 &&& 31))), vI x3]) (ψ := (phP S)) dX1_nextPiece_30 ml_X1_34 mfX1_cell rfl ⟨by decide, by decide⟩ ⟨by decide, by decide⟩ (Nat.le_of_ble_eq_true rfl) rfl (kX1_cell l G F (x1 ||| ((1 : Int32) <<< (x3 &&& 31))) x3 S) (fun a_3 => ?_)
        show V l G mX1_nextPiece none (phP S) _ 33 [(0, vR (0, 4)), (1, vI x1), (2, vI x2), (3, vI x3)] [vI a_3, vR (0, 21)] (enc S) 0 0
        refine V.chk fun h_4 => ?_
        refine V.sia dX1_nextPiece_33 h_4 ?_
        refine V.bipush (v := (-9)) dX1_nextPiece_34 (by decide) ?_
        refine V.icmp_eq 75 dX1_nextPiece_36 (by decide) ?_ ?_
        · exact (tjX1_nextPiece_75 l G F x1 x2 x3 S (hX1_nextPiece_2 F S x1 x2 n) ih)
        · refine V.aload_n dX1_nextPiece_39 0 rfl ?_
          refine V.iload_n dX1_nextPiece_40 2 rfl ?_
          refine V.iload_n dX1_nextPiece_41 3 rfl ?_
          refine V.callV (M' := mX1_gap) (As := [vI x2, vI x3]) (ψ := (phP S)) dX1_nextPiece_42 ml_X1_49 mfX1_gap rfl ⟨by decide, by decide⟩ ⟨by decide, by decide⟩ (enc_at rfl sh0_4) rfl (Nat.le_of_ble_eq_true rfl) rfl (kX1_gap l G F x2 x3 S) (fun a_5 => ?_)
          show V l G mX1_nextPiece none (phP S) _ 45 [(0, vR (0, 4)), (1, vI x1), (2, vI x2), (3, vI x3)] [vI a_5] (enc S) 0 0
          refine V.aload_n dX1_nextPiece_45 0 rfl ?_
          refine V.sgR 1 5 dX1_nextPiece_46 gf_X1_28 sh0_4 rfl rfl ?_
          refine V.iload_n dX1_nextPiece_49 1 rfl ?_
          refine V.iconst (v := 1) dX1_nextPiece_50 (by decide) ?_
          refine V.iload_n dX1_nextPiece_51 3 rfl ?_
          refine V.ishl dX1_nextPiece_52 ?_
          refine V.ior dX1_nextPiece_53 ?_
          refine V.iload_n dX1_nextPiece_54 3 rfl ?_
          refine V.callS (M' := mX1_cell) (As := [vI (x1 ||| ((1 : Int32) <<< (x3 &&& 31))), vI x3]) (ψ := (phP S)) dX1_nextPiece_55 ml_X1_34 mfX1_cell rfl ⟨by decide, by decide⟩ ⟨by decide, by decide⟩ (Nat.le_of_ble_eq_true rfl) rfl (kX1_cell l G F (x1 ||| ((1 : Int32) <<< (x3 &&& 31))) x3 S) (fun a_6 => ?_)
          show V l G mX1_nextPiece none (phP S) _ 58 [(0, vR (0, 4)), (1, vI x1), (2, vI x2), (3, vI x3)] [vI a_6, vR (0, 21), vI a_5] (enc S) 0 0
          refine V.chk fun h_7 => ?_
          refine V.sia dX1_nextPiece_58 h_7 ?_
          refine V.iadd dX1_nextPiece_59 ?_
          refine V.aload_n dX1_nextPiece_60 0 rfl ?_
          refine V.sgR 1 5 dX1_nextPiece_61 gf_X1_28 sh0_4 rfl rfl ?_
          refine V.iload_n dX1_nextPiece_64 1 rfl ?_
          refine V.iload_n dX1_nextPiece_65 2 rfl ?_
          refine V.callS (M' := mX1_cell) (As := [vI x1, vI x2]) (ψ := (phP S)) dX1_nextPiece_66 ml_X1_34 mfX1_cell rfl ⟨by decide, by decide⟩ ⟨by decide, by decide⟩ (Nat.le_of_ble_eq_true rfl) rfl (kX1_cell l G F x1 x2 S) (fun a_8 => ?_)
          show V l G mX1_nextPiece none (phP S) _ 69 [(0, vR (0, 4)), (1, vI x1), (2, vI x2), (3, vI x3)] [vI a_8, vR (0, 21), vI (a_5 + (S.1 (0, 21) a_6.toNatClampNeg))] (enc S) 0 0
          refine V.chk fun h_9 => ?_
          refine V.sia dX1_nextPiece_69 h_9 ?_
          refine V.icmp_ne 75 dX1_nextPiece_70 (by decide) ?_ ?_
          · exact (tjX1_nextPiece_75 l G F x1 x2 x3 S (hX1_nextPiece_2 F S x1 x2 n) ih)
          · refine V.iload_n dX1_nextPiece_73 3 rfl ?_
            exact V.iret rfl dX1_nextPiece_74 rfl (by decide) (by decide)

theorem kX1_nextPiece (l : Launch) (G : vg) (F : Nat) (x1 : Int32) (x2 : Int32) (S : vs) : Rt l G mX1_nextPiece none (phP S) [vR (0, 4), vI x1, vI x2] (enc S) (fX1_nextPiece F x1 x2 S) := Rt.of rfl (Nat.le_of_ble_eq_true rfl) (by
  show V l G mX1_nextPiece none (phP S) _ 0 [(0, vR (0, 4)), (1, vI x1), (2, vI x2)] [] (enc S) 0 0
  unfold fX1_nextPiece
  refine V.iconst (v := 0) dX1_nextPiece_0 (by decide) ?_
  refine V.istore_n (L' := [(0, vR (0, 4)), (1, vI x1), (2, vI x2), (3, vI 0)]) dX1_nextPiece_1 (by decide) rfl rfl ?_
  exact (thX1_nextPiece_2 l G F S x1 x2 F 0))

