abbrev mX7_clearest : vmt := (yX7_clearest, cX7_clearest, 7, (some .int), { frames := 2, cells := 0, slots := 0, locals := 45 })
theorem mfX7_clearest : mfV mX7_clearest 1 := ⟨im_X7_clearest, se_X7_clearest, ini_X7, co_X7_clearest, by decide, by decide, by decide +kernel⟩
def jX7_clearest_89 (k17 : Int32 → Int32 → Int32 → Option Int32) (F : Nat) (x1 : Int32) (x2 : Int32) (x3 : Int32) (x4 : Int32) (S : vs) : Option Int32 := ltt (x4 + 1) (fun x_10 => k17 x2 x3 x_10)

def jX7_clearest_83 (k17 : Int32 → Int32 → Int32 → Option Int32) (F : Nat) (x1 : Int32) (x4 : Int32) (x5 : Int32) (S : vs) : Option Int32 := jX7_clearest_89 k17 F x1 x4 x5 x4 S

def hX7_clearest_17 (F : Nat) (S : vs) (x1 : Int32) : Nat → Int32 → Int32 → Int32 → Option Int32
  | 0, _, _, _ => none
  | n + 1, x2, x3, x4 => if (S.1 (0, 0) 1) ≤ x4 then some x2 else (fX7_stepsUp F x4 x1 S).bind (fun a_2 => if a_2 = (-9) then jX7_clearest_89 (hX7_clearest_17 F S x1 n) F x1 x2 x3 x4 S else (rget 2 S (0, 6) x4).bind (fun q_3 => gd (alv S.2.2 (1, q_3)) ((rget 2 S (0, 6) x2).bind (fun q_6 => gd (alv S.2.2 (1, q_6)) (ltt ((S.1 (1, q_3) 3) - (S.1 (1, q_6) 3)) (fun x_9 => if 0 < x_9 then jX7_clearest_83 (hX7_clearest_17 F S x1 n) F x1 x4 a_2 S else if x_9 = 0 then if x3 ≤ a_2 then jX7_clearest_89 (hX7_clearest_17 F S x1 n) F x1 x2 x3 x4 S else jX7_clearest_83 (hX7_clearest_17 F S x1 n) F x1 x4 a_2 S else jX7_clearest_89 (hX7_clearest_17 F S x1 n) F x1 x2 x3 x4 S))))))

def fX7_clearest (F : Nat) (x1 : Int32) (S : vs) : Option Int32 := (fX7_isSide F x1 S).bind (fun a_1 => if a_1 = 0 then some (-1) else hX7_clearest_17 F S x1 F x1 0 0)
theorem tjX7_clearest_89 (l : Launch) (G : vg) (F : Nat) (x1 : Int32) (x2 : Int32) (x3 : Int32) (x4 : Int32) (S : vs) (k17 : Int32 → Int32 → Int32 → Option Int32) (H17 : ∀ (z2 : Int32), ∀ (z3 : Int32), ∀ (z4 : Int32), V l G mX7_clearest none (phP S) (k17 z2 z3 z4) 17 [(0, vR (0, 0)), (1, vI x1), (2, vI z2), (3, vI z3), (4, vI z4)] [] (enc S) 0 0) : V l G mX7_clearest none (phP S) (jX7_clearest_89 k17 F x1 x2 x3 x4 S) 89 [(0, vR (0, 0)), (1, vI x1), (2, vI x2), (3, vI x3), (4, vI x4)] [] (enc S) 0 0 := by
  unfold jX7_clearest_89
  refine V.lti (e := x4 + 1) (fun x_10 he => ?_)
  refine V.iinc (v := x_10) (L' := [(0, vR (0, 0)), (1, vI x1), (2, vI x2), (3, vI x3), (4, vI x_10)]) dX7_clearest_89 4 rfl he.symm (by decide) rfl rfl ?_
  refine V.goto 17 dX7_clearest_92 (by decide) ?_
  exact (H17 x2 x3 x_10)

theorem tjX7_clearest_83 (l : Launch) (G : vg) (F : Nat) (x1 : Int32) (x4 : Int32) (x5 : Int32) (S : vs) (k17 : Int32 → Int32 → Int32 → Option Int32) (H17 : ∀ (z2 : Int32), ∀ (z3 : Int32), ∀ (z4 : Int32), V l G mX7_clearest none (phP S) (k17 z2 z3 z4) 17 [(0, vR (0, 0)), (1, vI x1), (2, vI z2), (3, vI z3), (4, vI z4)] [] (enc S) 0 0) : V l G mX7_clearest none (phP S) (jX7_clearest_83 k17 F x1 x4 x5 S) 83 [(0, vR (0, 0)), (1, vI x1), (4, vI x4), (5, vI x5)] [] (enc S) 0 0 := by
  unfold jX7_clearest_83
  refine V.iload dX7_clearest_83 2 rfl ?_
  refine V.istore_n (L' := [(0, vR (0, 0)), (1, vI x1), (4, vI x4), (5, vI x5), (2, vI x4)]) dX7_clearest_85 (by decide) rfl rfl ?_
  refine V.iload dX7_clearest_86 3 rfl ?_
  refine V.istore_n (L' := [(0, vR (0, 0)), (1, vI x1), (4, vI x4), (5, vI x5), (2, vI x4), (3, vI x5)]) dX7_clearest_88 (by decide) rfl rfl ?_
  exact V.lsub [0, 1, 4, 5, 2] rfl (tjX7_clearest_89 l G F x1 x4 x5 x4 S k17 H17)

theorem thX7_clearest_17 (l : Launch) (G : vg) (F : Nat) (S : vs) (x1 : Int32) : ∀ (n : Nat) (x2 : Int32) (x3 : Int32) (x4 : Int32), V l G mX7_clearest none (phP S) (hX7_clearest_17 F S x1 n x2 x3 x4) 17 [(0, vR (0, 0)), (1, vI x1), (2, vI x2), (3, vI x3), (4, vI x4)] [] (enc S) 0 0
  | 0, _, _, _ => V.nil
  | n + 1, x2, x3, x4 => by
    have ih := thX7_clearest_17 l G F S x1 n
    rw [hX7_clearest_17]
    refine V.iload dX7_clearest_17 4 rfl ?_
    refine V.aload_n dX7_clearest_19 0 rfl ?_
    refine V.sgI 7 1 dX7_clearest_20 gf_X7_15 sh0_0 rfl rfl ?_
    refine V.icmp_ge 95 dX7_clearest_23 (by decide) ?_ ?_
    · refine V.iload_n dX7_clearest_95 2 rfl ?_
      exact V.iret rfl dX7_clearest_96 rfl (by decide) (by decide)
    · refine V.aload_n dX7_clearest_26 0 rfl ?_
      refine V.iload dX7_clearest_27 4 rfl ?_
      refine V.iload_n dX7_clearest_29 1 rfl ?_
      refine V.callV (M' := mX7_stepsUp) (As := [vI x4, vI x1]) (ψ := (phP S)) dX7_clearest_30 ml_X7_220 mfX7_stepsUp rfl ⟨by decide, by decide⟩ ⟨by decide, by decide⟩ (enc_at rfl sh0_0) rfl (Nat.le_of_ble_eq_true rfl) rfl (kX7_stepsUp l G F x4 x1 S) (fun a_2 => ?_)
      show V l G mX7_clearest none (phP S) _ 33 [(0, vR (0, 0)), (1, vI x1), (2, vI x2), (3, vI x3), (4, vI x4)] [vI a_2] (enc S) 0 0
      refine V.istore (L' := [(0, vR (0, 0)), (1, vI x1), (2, vI x2), (3, vI x3), (4, vI x4), (5, vI a_2)]) dX7_clearest_33 (by decide) rfl rfl ?_
      refine V.iload dX7_clearest_35 5 rfl ?_
      refine V.bipush (v := (-9)) dX7_clearest_37 (by decide) ?_
      refine V.icmp_ne 45 dX7_clearest_39 (by decide) ?_ ?_
      · refine V.aload_n dX7_clearest_45 0 rfl ?_
        refine V.sgR 7 0 dX7_clearest_46 gf_X7_11 sh0_0 rfl rfl ?_
        refine V.iload dX7_clearest_49 4 rfl ?_
        refine V.sbind fun q_3 h_4 => ?_
        refine V.saa (t := 2) dX7_clearest_51 rfl rfl h_4 ?_
        refine V.chk fun h_5 => ?_
        refine V.sgI 2 3 dX7_clearest_52 gf_X7_70 rfl rfl h_5 ?_
        refine V.aload_n dX7_clearest_55 0 rfl ?_
        refine V.sgR 7 0 dX7_clearest_56 gf_X7_11 sh0_0 rfl rfl ?_
        refine V.iload_n dX7_clearest_59 2 rfl ?_
        refine V.sbind fun q_6 h_7 => ?_
        refine V.saa (t := 2) dX7_clearest_60 rfl rfl h_7 ?_
        refine V.chk fun h_8 => ?_
        refine V.sgI 2 3 dX7_clearest_61 gf_X7_70 rfl rfl h_8 ?_
        refine V.isub dX7_clearest_64 ?_
        refine V.lett fun x_9 => ?_
        refine V.istore (L' := [(0, vR (0, 0)), (1, vI x1), (2, vI x2), (3, vI x3), (4, vI x4), (5, vI a_2), (6, vI x_9)]) dX7_clearest_65 (by decide) rfl rfl ?_
        refine V.iload dX7_clearest_67 6 rfl ?_
        refine V.if_gt 83 dX7_clearest_69 (by decide) ?_ ?_
        · exact V.lsub [0, 1, 4, 5] rfl (tjX7_clearest_83 l G F x1 x4 a_2 S (hX7_clearest_17 F S x1 n) ih)
        · refine V.iload dX7_clearest_72 6 rfl ?_
          refine V.if_ne 89 dX7_clearest_74 (by decide) ?_ ?_
          · exact V.lsub [0, 1, 2, 3, 4] rfl (tjX7_clearest_89 l G F x1 x2 x3 x4 S (hX7_clearest_17 F S x1 n) ih)
          · refine V.iload dX7_clearest_77 5 rfl ?_
            refine V.iload_n dX7_clearest_79 3 rfl ?_
            refine V.icmp_ge 89 dX7_clearest_80 (by decide) ?_ ?_
            · exact V.lsub [0, 1, 2, 3, 4] rfl (tjX7_clearest_89 l G F x1 x2 x3 x4 S (hX7_clearest_17 F S x1 n) ih)
            · exact V.lsub [0, 1, 4, 5] rfl (tjX7_clearest_83 l G F x1 x4 a_2 S (hX7_clearest_17 F S x1 n) ih)
      · refine V.goto 89 dX7_clearest_42 (by decide) ?_
        exact V.lsub [0, 1, 2, 3, 4] rfl (tjX7_clearest_89 l G F x1 x2 x3 x4 S (hX7_clearest_17 F S x1 n) ih)

theorem kX7_clearest (l : Launch) (G : vg) (F : Nat) (x1 : Int32) (S : vs) : Rt l G mX7_clearest none (phP S) [vR (0, 0), vI x1] (enc S) (fX7_clearest F x1 S) := Rt.of rfl (Nat.le_of_ble_eq_true rfl) (by
  show V l G mX7_clearest none (phP S) _ 0 [(0, vR (0, 0)), (1, vI x1)] [] (enc S) 0 0
  unfold fX7_clearest
  refine V.aload_n dX7_clearest_0 0 rfl ?_
  refine V.iload_n dX7_clearest_1 1 rfl ?_
  refine V.callV (M' := mX7_isSide) (As := [vI x1]) (ψ := (phP S)) dX7_clearest_2 ml_X7_57 mfX7_isSide rfl ⟨by decide, by decide⟩ ⟨by decide, by decide⟩ (enc_at rfl sh0_0) rfl (Nat.le_of_ble_eq_true rfl) rfl (kX7_isSide l G F x1 S) (fun a_1 => ?_)
  show V l G mX7_clearest none (phP S) _ 5 [(0, vR (0, 0)), (1, vI x1)] [vI a_1] (enc S) 0 0
  refine V.if_ne 10 dX7_clearest_5 (by decide) ?_ ?_
  · refine V.iload_n dX7_clearest_10 1 rfl ?_
    refine V.istore_n (L' := [(0, vR (0, 0)), (1, vI x1), (2, vI x1)]) dX7_clearest_11 (by decide) rfl rfl ?_
    refine V.iconst (v := 0) dX7_clearest_12 (by decide) ?_
    refine V.istore_n (L' := [(0, vR (0, 0)), (1, vI x1), (2, vI x1), (3, vI 0)]) dX7_clearest_13 (by decide) rfl rfl ?_
    refine V.iconst (v := 0) dX7_clearest_14 (by decide) ?_
    refine V.istore (L' := [(0, vR (0, 0)), (1, vI x1), (2, vI x1), (3, vI 0), (4, vI 0)]) dX7_clearest_15 (by decide) rfl rfl ?_
    exact (thX7_clearest_17 l G F S x1 F x1 0 0)
  · refine V.iconst (v := (-1)) dX7_clearest_8 (by decide) ?_
    exact V.iret rfl dX7_clearest_9 rfl (by decide) (by decide))

abbrev mX7_allSound : vmt := (yX7_allSound, cX7_allSound, 3, (some .int), { frames := 0, cells := 0, slots := 0, locals := 0 })
theorem mfX7_allSound : mfV mX7_allSound 0 := ⟨im_X7_allSound, se_X7_allSound, ini_X7, co_X7_allSound, by decide, by decide, by decide +kernel⟩
def hX7_allSound_4 (F : Nat) (S : vs) : Nat → Int32 → Int32 → Option Int32
  | 0, _, _ => none
  | n + 1, x1, x2 => if (S.1 (0, 0) 1) ≤ x2 then some x1 else (rget 2 S (0, 6) x2).bind (fun q_1 => gd (alv S.2.2 (1, q_1)) (ltt (x1 + (S.1 (1, q_1) 3)) (fun x_4 => ltt (x2 + 1) (fun x_5 => hX7_allSound_4 F S n x_4 x_5))))

def fX7_allSound (F : Nat) (S : vs) : Option Int32 := hX7_allSound_4 F S F 0 0
theorem thX7_allSound_4 (l : Launch) (G : vg) (F : Nat) (S : vs) : ∀ (n : Nat) (x1 : Int32) (x2 : Int32), V l G mX7_allSound none (phP S) (hX7_allSound_4 F S n x1 x2) 4 [(0, vR (0, 0)), (1, vI x1), (2, vI x2)] [] (enc S) 0 0
  | 0, _, _ => V.nil
  | n + 1, x1, x2 => by
    have ih := thX7_allSound_4 l G F S n
    rw [hX7_allSound_4]
    refine V.iload_n dX7_allSound_4 2 rfl ?_
    refine V.aload_n dX7_allSound_5 0 rfl ?_
    refine V.sgI 7 1 dX7_allSound_6 gf_X7_15 sh0_0 rfl rfl ?_
    refine V.icmp_ge 30 dX7_allSound_9 (by decide) ?_ ?_
    · refine V.iload_n dX7_allSound_30 1 rfl ?_
      exact V.iret rfl dX7_allSound_31 rfl (by decide) (by decide)
    · refine V.iload_n dX7_allSound_12 1 rfl ?_
      refine V.aload_n dX7_allSound_13 0 rfl ?_
      refine V.sgR 7 0 dX7_allSound_14 gf_X7_11 sh0_0 rfl rfl ?_
      refine V.iload_n dX7_allSound_17 2 rfl ?_
      refine V.sbind fun q_1 h_2 => ?_
      refine V.saa (t := 2) dX7_allSound_18 rfl rfl h_2 ?_
      refine V.chk fun h_3 => ?_
      refine V.sgI 2 3 dX7_allSound_19 gf_X7_70 rfl rfl h_3 ?_
      refine V.iadd dX7_allSound_22 ?_
      refine V.lett fun x_4 => ?_
      refine V.istore_n (L' := [(0, vR (0, 0)), (1, vI x_4), (2, vI x2)]) dX7_allSound_23 (by decide) rfl rfl ?_
      refine V.lti (e := x2 + 1) (fun x_5 he => ?_)
      refine V.iinc (v := x_5) (L' := [(0, vR (0, 0)), (1, vI x_4), (2, vI x_5)]) dX7_allSound_24 2 rfl he.symm (by decide) rfl rfl ?_
      refine V.goto 4 dX7_allSound_27 (by decide) ?_
      exact (ih x_4 x_5)

theorem kX7_allSound (l : Launch) (G : vg) (F : Nat) (S : vs) : Rt l G mX7_allSound none (phP S) [vR (0, 0)] (enc S) (fX7_allSound F S) := Rt.of rfl (Nat.le_of_ble_eq_true rfl) (by
  show V l G mX7_allSound none (phP S) _ 0 [(0, vR (0, 0))] [] (enc S) 0 0
  unfold fX7_allSound
  refine V.iconst (v := 0) dX7_allSound_0 (by decide) ?_
  refine V.istore_n (L' := [(0, vR (0, 0)), (1, vI 0)]) dX7_allSound_1 (by decide) rfl rfl ?_
  refine V.iconst (v := 0) dX7_allSound_2 (by decide) ?_
  refine V.istore_n (L' := [(0, vR (0, 0)), (1, vI 0), (2, vI 0)]) dX7_allSound_3 (by decide) rfl rfl ?_
  exact (thX7_allSound_4 l G F S F 0 0))

abbrev mX7_total : vmt := (yX7_total, cX7_total, 2, (some .int), { frames := 1, cells := 0, slots := 0, locals := 22 })
theorem mfX7_total : mfV mX7_total 1 := ⟨im_X7_total, se_X7_total, ini_X7, co_X7_total, by decide, by decide, by decide +kernel⟩
def fX7_total (F : Nat) (x1 : Int32) (S : vs) : Option Int32 := if x1 = 0 then some (S.1 (0, 0) 1) else if x1 = 1 then some (S.1 (0, 0) 2) else if x1 = 2 then (fX4_countLive F S).bind (fun a_3 => some a_3) else if x1 = 3 then some (S.1 (0, 4) 1) else if x1 = 4 then some (S.1 (0, 5) 1) else if x1 = 5 then (fX7_allSound F S).bind (fun a_7 => some a_7) else some (-2)
theorem kX7_total (l : Launch) (G : vg) (F : Nat) (x1 : Int32) (S : vs) : Rt l G mX7_total none (phP S) [vR (0, 0), vI x1] (enc S) (fX7_total F x1 S) := Rt.of rfl (Nat.le_of_ble_eq_true rfl) (by
  show V l G mX7_total none (phP S) _ 0 [(0, vR (0, 0)), (1, vI x1)] [] (enc S) 0 0
  unfold fX7_total
  refine V.iload_n dX7_total_0 1 rfl ?_
  refine V.ite (fun h_1 => ?_) (fun h_1 => ?_)
  · refine V.tsI 0 40 dX7_total_1 h_1 (by decide) (by decide) rfl (by decide) ?_
    refine V.aload_n dX7_total_40 0 rfl ?_
    refine V.sgI 7 1 dX7_total_41 gf_X7_15 sh0_0 rfl rfl ?_
    exact V.iret rfl dX7_total_44 rfl (by decide) (by decide)
  refine V.ite (fun h_2 => ?_) (fun h_2 => ?_)
  · refine V.tsI 1 45 dX7_total_1 h_2 (by decide) (by decide) rfl (by decide) ?_
    refine V.aload_n dX7_total_45 0 rfl ?_
    refine V.sgI 7 2 dX7_total_46 gf_X7_19 sh0_0 rfl rfl ?_
    exact V.iret rfl dX7_total_49 rfl (by decide) (by decide)
  refine V.ite (fun h_4 => ?_) (fun h_4 => ?_)
  · refine V.tsI 2 50 dX7_total_1 h_4 (by decide) (by decide) rfl (by decide) ?_
    refine V.aload_n dX7_total_50 0 rfl ?_
    refine V.sgR 7 4 dX7_total_51 gf_X7_32 sh0_0 rfl rfl ?_
    refine V.callV (M' := mX4_countLive) (As := []) (ψ := (phP S)) dX7_total_54 ml_X7_223 mfX4_countLive rfl ⟨by decide, by decide⟩ ⟨by decide, by decide⟩ (enc_at rfl sh0_3) rfl (Nat.le_of_ble_eq_true rfl) rfl (kX4_countLive l G F S) (fun a_3 => ?_)
    show V l G mX7_total none (phP S) _ 57 [(0, vR (0, 0)), (1, vI x1)] [vI a_3] (enc S) 0 0
    exact V.iret rfl dX7_total_57 rfl (by decide) (by decide)
  refine V.ite (fun h_5 => ?_) (fun h_5 => ?_)
  · refine V.tsI 3 58 dX7_total_1 h_5 (by decide) (by decide) rfl (by decide) ?_
    refine V.aload_n dX7_total_58 0 rfl ?_
    refine V.sgR 7 5 dX7_total_59 gf_X7_39 sh0_0 rfl rfl ?_
    refine V.sgI 1 1 dX7_total_62 gf_X7_226 sh0_4 rfl rfl ?_
    exact V.iret rfl dX7_total_65 rfl (by decide) (by decide)
  refine V.ite (fun h_6 => ?_) (fun h_6 => ?_)
  · refine V.tsI 4 66 dX7_total_1 h_6 (by decide) (by decide) rfl (by decide) ?_
    refine V.aload_n dX7_total_66 0 rfl ?_
    refine V.sgR 7 6 dX7_total_67 gf_X7_46 sh0_0 rfl rfl ?_
    refine V.sgI 6 1 dX7_total_70 gf_X7_229 sh0_5 rfl rfl ?_
    exact V.iret rfl dX7_total_73 rfl (by decide) (by decide)
  refine V.ite (fun h_8 => ?_) (fun h_8 => ?_)
  · refine V.tsI 5 74 dX7_total_1 h_8 (by decide) (by decide) rfl (by decide) ?_
    refine V.aload_n dX7_total_74 0 rfl ?_
    refine V.callV (M' := mX7_allSound) (As := []) (ψ := (phP S)) dX7_total_75 ml_X7_230 mfX7_allSound rfl ⟨by decide, by decide⟩ ⟨by decide, by decide⟩ (enc_at rfl sh0_0) rfl (Nat.le_of_ble_eq_true rfl) rfl (kX7_allSound l G F S) (fun a_7 => ?_)
    show V l G mX7_total none (phP S) _ 78 [(0, vR (0, 0)), (1, vI x1)] [vI a_7] (enc S) 0 0
    exact V.iret rfl dX7_total_78 rfl (by decide) (by decide)
  have hh : x1.toInt ≠ 0 ∧ x1.toInt ≠ 1 ∧ x1.toInt ≠ 2 ∧ x1.toInt ≠ 3 ∧ x1.toInt ≠ 4 ∧ x1.toInt ≠ 5 := ⟨i32ne h_1, i32ne h_2, i32ne h_4, i32ne h_5, i32ne h_6, i32ne h_8⟩
  refine V.tsO 79 dX7_total_1 (by omega) (by decide) ?_
  refine V.bipush (v := (-2)) dX7_total_79 (by decide) ?_
  exact V.iret rfl dX7_total_81 rfl (by decide) (by decide))

