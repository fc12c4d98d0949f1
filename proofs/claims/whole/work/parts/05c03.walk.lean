abbrev mX1_pieceAt : vmt := (yX1_pieceAt, cX1_pieceAt, 5, (some .int), { frames := 6, cells := 0, slots := 0, locals := 140 })
theorem mfX1_pieceAt : mfV mX1_pieceAt 1 := ⟨im_X1_pieceAt, se_X1_pieceAt, ini_X1, co_X1_pieceAt, by decide, by decide, by decide +kernel⟩
def hX1_pieceAt_31 (F : Nat) (x1 : Int32) : Nat → Int32 → Int32 → Int32 → vs → Option (Int32 × vs)
  | 0, _, _, _, _ => none
  | n + 1, x2, x3, x4, S => if x1 ≤ x4 then some (x2, S) else if x2 = (-9) then some (x2, S) else ltt (x3 ||| ((1 : Int32) <<< (x2 &&& 31))) (fun x_2 => (fX1_nextPiece F x_2 x2 S).bind (fun a_3 => ltt (x4 + 1) (fun x_4 => hX1_pieceAt_31 F x1 n a_3 x_2 x_4 S)))

def fX1_pieceAt (F : Nat) (x1 : Int32) (S : vs) : Option (Int32 × vs) := (fX1_firstPiece F S).bind (fun a_1 => if a_1.1 = (-9) then some ((-9), a_1.2) else if x1 < 0 then some ((-9), a_1.2) else if x1 < (a_1.2.1 (0, 4) 1) then hX1_pieceAt_31 F x1 F a_1.1 0 0 a_1.2 else some ((-9), a_1.2))
theorem thX1_pieceAt_31 (l : Launch) (G : vg) (F : Nat) (x1 : Int32) : ∀ (n : Nat) (x2 : Int32) (x3 : Int32) (x4 : Int32) (S : vs), V l G mX1_pieceAt none phI (hX1_pieceAt_31 F x1 n x2 x3 x4 S) 31 [(0, vR (0, 4)), (1, vI x1), (2, vI x2), (3, vI x3), (4, vI x4)] [] (enc S) 0 0
  | 0, _, _, _, _ => V.nil
  | n + 1, x2, x3, x4, S => by
    have ih := thX1_pieceAt_31 l G F x1 n
    rw [hX1_pieceAt_31]
    refine V.iload dX1_pieceAt_31 4 rfl ?_
    refine V.iload_n dX1_pieceAt_33 1 rfl ?_
    refine V.icmp_ge 62 dX1_pieceAt_34 (by decide) ?_ ?_
    · refine V.iload_n dX1_pieceAt_62 2 rfl ?_
      exact V.iret rfl dX1_pieceAt_63 rfl (by decide) (by decide)
    · refine V.iload_n dX1_pieceAt_37 2 rfl ?_
      refine V.bipush (v := (-9)) dX1_pieceAt_38 (by decide) ?_
      refine V.icmp_eq 62 dX1_pieceAt_40 (by decide) ?_ ?_
      · refine V.iload_n dX1_pieceAt_62 2 rfl ?_
        exact V.iret rfl dX1_pieceAt_63 rfl (by decide) (by decide)
      · refine V.iload_n dX1_pieceAt_43 3 rfl ?_
        refine V.iconst (v := 1) dX1_pieceAt_44 (by decide) ?_
        refine V.iload_n dX1_pieceAt_45 2 rfl ?_
        refine V.ishl dX1_pieceAt_46 ?_
        refine V.ior dX1_pieceAt_47 ?_
        refine V.lett fun x_2 => ?_
        refine V.istore_n (L' := [(0, vR (0, 4)), (1, vI x1), (2, vI x2), (3, vI x_2), (4, vI x4)]) dX1_pieceAt_48 (by decide) rfl rfl ?_
        refine V.aload_n dX1_pieceAt_49 0 rfl ?_
        refine V.iload_n dX1_pieceAt_50 3 rfl ?_
        refine V.iload_n dX1_pieceAt_51 2 rfl ?_
        refine V.callV (M' := mX1_nextPiece) (As := [vI x_2, vI x2]) (ψ := (phP S)) dX1_pieceAt_52 ml_X1_42 mfX1_nextPiece rfl ⟨by decide, by decide⟩ ⟨by decide, by decide⟩ (enc_at rfl sh0_4) rfl (Nat.le_of_ble_eq_true rfl) rfl (kX1_nextPiece l G F x_2 x2 S) (fun a_3 => ?_)
        show V l G mX1_pieceAt none phI _ 55 [(0, vR (0, 4)), (1, vI x1), (2, vI x2), (3, vI x_2), (4, vI x4)] [vI a_3] (enc S) 0 0
        refine V.istore_n (L' := [(0, vR (0, 4)), (1, vI x1), (2, vI a_3), (3, vI x_2), (4, vI x4)]) dX1_pieceAt_55 (by decide) rfl rfl ?_
        refine V.lti (e := x4 + 1) (fun x_4 he => ?_)
        refine V.iinc (v := x_4) (L' := [(0, vR (0, 4)), (1, vI x1), (2, vI a_3), (3, vI x_2), (4, vI x_4)]) dX1_pieceAt_56 4 rfl he.symm (by decide) rfl rfl ?_
        refine V.goto 31 dX1_pieceAt_59 (by decide) ?_
        exact (ih a_3 x_2 x_4 S)

theorem kX1_pieceAt (l : Launch) (G : vg) (F : Nat) (x1 : Int32) (S : vs) : Rt l G mX1_pieceAt none phI [vR (0, 4), vI x1] (enc S) (fX1_pieceAt F x1 S) := Rt.of rfl (Nat.le_of_ble_eq_true rfl) (by
  show V l G mX1_pieceAt none phI _ 0 [(0, vR (0, 4)), (1, vI x1)] [] (enc S) 0 0
  unfold fX1_pieceAt
  refine V.aload_n dX1_pieceAt_0 0 rfl ?_
  refine V.callV (M' := mX1_firstPiece) (As := []) (ψ := phI) dX1_pieceAt_1 ml_X1_38 mfX1_firstPiece rfl ⟨by decide, by decide⟩ ⟨by decide, by decide⟩ (enc_at rfl sh0_4) rfl (Nat.le_of_ble_eq_true rfl) rfl (kX1_firstPiece l G F S) (fun a_1 => ?_)
  show V l G mX1_pieceAt none phI _ 4 [(0, vR (0, 4)), (1, vI x1)] [vI a_1.1] (enc a_1.2) 0 0
  refine V.istore_n (L' := [(0, vR (0, 4)), (1, vI x1), (2, vI a_1.1)]) dX1_pieceAt_4 (by decide) rfl rfl ?_
  refine V.iload_n dX1_pieceAt_5 2 rfl ?_
  refine V.bipush (v := (-9)) dX1_pieceAt_6 (by decide) ?_
  refine V.icmp_eq 23 dX1_pieceAt_8 (by decide) ?_ ?_
  · refine V.bipush (v := (-9)) dX1_pieceAt_23 (by decide) ?_
    exact V.iret rfl dX1_pieceAt_25 rfl (by decide) (by decide)
  · refine V.iload_n dX1_pieceAt_11 1 rfl ?_
    refine V.if_lt 23 dX1_pieceAt_12 (by decide) ?_ ?_
    · refine V.bipush (v := (-9)) dX1_pieceAt_23 (by decide) ?_
      exact V.iret rfl dX1_pieceAt_25 rfl (by decide) (by decide)
    · refine V.iload_n dX1_pieceAt_15 1 rfl ?_
      refine V.aload_n dX1_pieceAt_16 0 rfl ?_
      refine V.sgI 1 1 dX1_pieceAt_17 gf_X1_15 sh0_4 rfl rfl ?_
      refine V.icmp_lt 26 dX1_pieceAt_20 (by decide) ?_ ?_
      · refine V.iconst (v := 0) dX1_pieceAt_26 (by decide) ?_
        refine V.istore_n (L' := [(0, vR (0, 4)), (1, vI x1), (2, vI a_1.1), (3, vI 0)]) dX1_pieceAt_27 (by decide) rfl rfl ?_
        refine V.iconst (v := 0) dX1_pieceAt_28 (by decide) ?_
        refine V.istore (L' := [(0, vR (0, 4)), (1, vI x1), (2, vI a_1.1), (3, vI 0), (4, vI 0)]) dX1_pieceAt_29 (by decide) rfl rfl ?_
        exact (thX1_pieceAt_31 l G F x1 F a_1.1 0 0 a_1.2)
      · refine V.bipush (v := (-9)) dX1_pieceAt_23 (by decide) ?_
        exact V.iret rfl dX1_pieceAt_25 rfl (by decide) (by decide))

abbrev mX2_lose : vmt := (yX2_lose, cX2_lose, 2, none, { frames := 1, cells := 0, slots := 0, locals := 21 })
theorem mfX2_lose : mfV mX2_lose 1 := ⟨im_X2_lose, se_X2_lose, ini_X2, co_X2_lose, by decide, by decide, by decide +kernel⟩
def fX2_lose (F : Nat) (n0 : Nat) (x1 : Int32) (S : vs) : Option vs := gd (alv S.2.2 (1, n0)) (stp (s2 S (1, n0) 3 (if 0 < ((S.1 (1, n0) 3) - x1) then ((S.1 (1, n0) 3) - x1) else 0)) (fun S_2 => some S_2))
theorem kX2_lose (l : Launch) (G : vg) (F : Nat) (n0 : Nat) (x1 : Int32) (S : vs) : Rt l G mX2_lose none phV [vR (1, n0), vI x1] (enc S) (fX2_lose F n0 x1 S) := Rt.of rfl (Nat.le_of_ble_eq_true rfl) (by
  show V l G mX2_lose none phV _ 0 [(0, vR (1, n0)), (1, vI x1)] [] (enc S) 0 0
  unfold fX2_lose
  refine V.aload_n dX2_lose_0 0 rfl ?_
  refine V.iconst (v := 0) dX2_lose_1 (by decide) ?_
  refine V.aload_n dX2_lose_2 0 rfl ?_
  refine V.chk fun h_1 => ?_
  refine V.sgI 2 3 dX2_lose_3 gf_X2_15 rfl rfl h_1 ?_
  refine V.iload_n dX2_lose_6 1 rfl ?_
  refine V.isub dX2_lose_7 ?_
  refine V.mmax dX2_lose_8 ml_X2_45 (by decide) (Nat.le_of_ble_eq_true rfl) (by decide) (by decide) ?_
  refine V.spI 2 3 dX2_lose_11 pf_X2_15 rfl rfl h_1 ?_
  refine V.sst fun S_2 => ?_
  exact V.vret rfl dX2_lose_14 rfl (by decide) (by decide))

abbrev mX2_asked : vmt := (yX2_asked, cX2_asked, 1, (some .int), { frames := 0, cells := 0, slots := 0, locals := 0 })
theorem mfX2_asked : mfV mX2_asked 0 := ⟨im_X2_asked, se_X2_asked, ini_X2, co_X2_asked, by decide, by decide, by decide +kernel⟩
def fX2_asked (F : Nat) (n0 : Nat) (S : vs) : Option Int32 := gd (alv S.2.2 (1, n0)) (some ((S.1 (1, n0) 9) <<< (((S.1 (1, n0) 10) * 8) &&& 31)))
theorem kX2_asked (l : Launch) (G : vg) (F : Nat) (n0 : Nat) (S : vs) : Rt l G mX2_asked none (phP S) [vR (1, n0)] (enc S) (fX2_asked F n0 S) := Rt.of rfl (Nat.le_of_ble_eq_true rfl) (by
  show V l G mX2_asked none (phP S) _ 0 [(0, vR (1, n0))] [] (enc S) 0 0
  unfold fX2_asked
  refine V.aload_n dX2_asked_0 0 rfl ?_
  refine V.chk fun h_1 => ?_
  refine V.sgI 2 9 dX2_asked_1 gf_X2_39 rfl rfl h_1 ?_
  refine V.aload_n dX2_asked_4 0 rfl ?_
  refine V.sgI 2 10 dX2_asked_5 gf_X2_42 rfl rfl h_1 ?_
  refine V.bipush (v := 8) dX2_asked_8 (by decide) ?_
  refine V.imul dX2_asked_10 ?_
  refine V.ishl dX2_asked_11 ?_
  exact V.iret rfl dX2_asked_12 rfl (by decide) (by decide))

abbrev mX2_isLetBy : vmt := (yX2_isLetBy, cX2_isLetBy, 2, (some .boolean), { frames := 1, cells := 0, slots := 0, locals := 20 })
theorem mfX2_isLetBy : mfV mX2_isLetBy 1 := ⟨im_X2_isLetBy, se_X2_isLetBy, ini_X2, co_X2_isLetBy, by decide, by decide, by decide +kernel⟩
def fX2_isLetBy (F : Nat) (n0 : Nat) (x1 : Int32) (S : vs) : Option Int32 := gd (alv S.2.2 (1, n0)) ((fX2_asked F n0 S).bind (fun a_2 => if (a_2 &&& (x1 ^^^ (-1))) = 0 then some 1 else some 0))
theorem kX2_isLetBy (l : Launch) (G : vg) (F : Nat) (n0 : Nat) (x1 : Int32) (S : vs) : Rt l G mX2_isLetBy none (phP S) [vR (1, n0), vI x1] (enc S) (fX2_isLetBy F n0 x1 S) := Rt.of rfl (Nat.le_of_ble_eq_true rfl) (by
  show V l G mX2_isLetBy none (phP S) _ 0 [(0, vR (1, n0)), (1, vI x1)] [] (enc S) 0 0
  unfold fX2_isLetBy
  refine V.aload_n dX2_isLetBy_0 0 rfl ?_
  refine V.chk fun h_1 => ?_
  refine V.callV (M' := mX2_asked) (As := []) (ψ := (phP S)) dX2_isLetBy_1 ml_X2_51 mfX2_asked rfl ⟨by decide, by decide⟩ ⟨by decide, by decide⟩ (enc_at h_1 rfl) rfl (Nat.le_of_ble_eq_true rfl) rfl (kX2_asked l G F n0 S) (fun a_2 => ?_)
  show V l G mX2_isLetBy none (phP S) _ 4 [(0, vR (1, n0)), (1, vI x1)] [vI a_2] (enc S) 0 0
  refine V.iload_n dX2_isLetBy_4 1 rfl ?_
  refine V.iconst (v := (-1)) dX2_isLetBy_5 (by decide) ?_
  refine V.ixor dX2_isLetBy_6 ?_
  refine V.iand dX2_isLetBy_7 ?_
  refine V.if_ne 15 dX2_isLetBy_8 (by decide) ?_ ?_
  · refine V.iconst (v := 0) dX2_isLetBy_15 (by decide) ?_
    exact V.zret rfl dX2_isLetBy_16 rfl (zb_n rfl) (by decide) (by decide)
  · refine V.iconst (v := 1) dX2_isLetBy_11 (by decide) ?_
    refine V.goto 16 dX2_isLetBy_12 (by decide) ?_
    exact V.zret rfl dX2_isLetBy_16 rfl (zb_n rfl) (by decide) (by decide))

abbrev mX3_isOf : vmt := (yX3_isOf, cX3_isOf, 2, (some .boolean), { frames := 0, cells := 0, slots := 0, locals := 0 })
theorem mfX3_isOf : mfV mX3_isOf 1 := ⟨im_X3_isOf, se_X3_isOf, ini_X3, co_X3_isOf, by decide, by decide, by decide +kernel⟩
def fX3_isOf (F : Nat) (n0 : Nat) (x1 : Int32) (S : vs) : Option Int32 := gd (alv S.2.2 (2, n0)) (if (S.1 (2, n0) 4) = 0 then some 0 else if (S.1 (2, n0) 0) = x1 then some 1 else some 0)
theorem kX3_isOf (l : Launch) (G : vg) (F : Nat) (n0 : Nat) (x1 : Int32) (S : vs) : Rt l G mX3_isOf none (phP S) [vR (2, n0), vI x1] (enc S) (fX3_isOf F n0 x1 S) := Rt.of rfl (Nat.le_of_ble_eq_true rfl) (by
  show V l G mX3_isOf none (phP S) _ 0 [(0, vR (2, n0)), (1, vI x1)] [] (enc S) 0 0
  unfold fX3_isOf
  refine V.aload_n dX3_isOf_0 0 rfl ?_
  refine V.chk fun h_1 => ?_
  refine V.sgI 3 4 dX3_isOf_1 gf_X3_22 rfl rfl h_1 ?_
  refine V.if_eq 19 dX3_isOf_4 (by decide) ?_ ?_
  · refine V.iconst (v := 0) dX3_isOf_19 (by decide) ?_
    exact V.zret rfl dX3_isOf_20 rfl (zb_n rfl) (by decide) (by decide)
  · refine V.aload_n dX3_isOf_7 0 rfl ?_
    refine V.sgI 3 0 dX3_isOf_8 gf_X3_7 rfl rfl h_1 ?_
    refine V.iload_n dX3_isOf_11 1 rfl ?_
    refine V.icmp_ne 19 dX3_isOf_12 (by decide) ?_ ?_
    · refine V.iconst (v := 0) dX3_isOf_19 (by decide) ?_
      exact V.zret rfl dX3_isOf_20 rfl (zb_n rfl) (by decide) (by decide)
    · refine V.iconst (v := 1) dX3_isOf_15 (by decide) ?_
      refine V.goto 20 dX3_isOf_16 (by decide) ?_
      exact V.zret rfl dX3_isOf_20 rfl (zb_n rfl) (by decide) (by decide))

abbrev mX3_isApartFrom : vmt := (yX3_isApartFrom, cX3_isApartFrom, 2, (some .boolean), { frames := 0, cells := 0, slots := 0, locals := 0 })
theorem mfX3_isApartFrom : mfV mX3_isApartFrom 1 := ⟨im_X3_isApartFrom, se_X3_isApartFrom, ini_X3, co_X3_isApartFrom, by decide, by decide, by decide +kernel⟩
def jX3_isApartFrom_22 (F : Nat) (S : vs) : Option Int32 := some 1

def fX3_isApartFrom (F : Nat) (n0 : Nat) (n1 : Nat) (S : vs) : Option Int32 := gd (alv S.2.2 (2, n0)) (gd (alv S.2.2 (2, n1)) (if (S.1 (2, n0) 2) < (S.1 (2, n1) 1) then jX3_isApartFrom_22 F S else if (S.1 (2, n0) 1) ≤ (S.1 (2, n1) 2) then some 0 else jX3_isApartFrom_22 F S))
theorem tjX3_isApartFrom_22 (l : Launch) (G : vg) (F : Nat) (S : vs) : V l G mX3_isApartFrom none (phP S) (jX3_isApartFrom_22 F S) 22 [] [] (enc S) 0 0 := by
  unfold jX3_isApartFrom_22
  refine V.iconst (v := 1) dX3_isApartFrom_22 (by decide) ?_
  refine V.goto 27 dX3_isApartFrom_23 (by decide) ?_
  exact V.zret rfl dX3_isApartFrom_27 rfl (zb_n rfl) (by decide) (by decide)

theorem kX3_isApartFrom (l : Launch) (G : vg) (F : Nat) (n0 : Nat) (n1 : Nat) (S : vs) : Rt l G mX3_isApartFrom none (phP S) [vR (2, n0), vR (2, n1)] (enc S) (fX3_isApartFrom F n0 n1 S) := Rt.of rfl (Nat.le_of_ble_eq_true rfl) (by
  show V l G mX3_isApartFrom none (phP S) _ 0 [(0, vR (2, n0)), (1, vR (2, n1))] [] (enc S) 0 0
  unfold fX3_isApartFrom
  refine V.aload_n dX3_isApartFrom_0 0 rfl ?_
  refine V.chk fun h_1 => ?_
  refine V.sgI 3 2 dX3_isApartFrom_1 gf_X3_16 rfl rfl h_1 ?_
  refine V.aload_n dX3_isApartFrom_4 1 rfl ?_
  refine V.chk fun h_2 => ?_
  refine V.sgI 3 1 dX3_isApartFrom_5 gf_X3_13 rfl rfl h_2 ?_
  refine V.icmp_lt 22 dX3_isApartFrom_8 (by decide) ?_ ?_
  · exact V.lsub [] rfl (tjX3_isApartFrom_22 l G F S)
  · refine V.aload_n dX3_isApartFrom_11 1 rfl ?_
    refine V.sgI 3 2 dX3_isApartFrom_12 gf_X3_16 rfl rfl h_2 ?_
    refine V.aload_n dX3_isApartFrom_15 0 rfl ?_
    refine V.sgI 3 1 dX3_isApartFrom_16 gf_X3_13 rfl rfl h_1 ?_
    refine V.icmp_ge 26 dX3_isApartFrom_19 (by decide) ?_ ?_
    · refine V.iconst (v := 0) dX3_isApartFrom_26 (by decide) ?_
      exact V.zret rfl dX3_isApartFrom_27 rfl (zb_n rfl) (by decide) (by decide)
    · exact V.lsub [] rfl (tjX3_isApartFrom_22 l G F S))

abbrev mX4_isFull : vmt := (yX4_isFull, cX4_isFull, 1, (some .boolean), { frames := 0, cells := 0, slots := 0, locals := 0 })
theorem mfX4_isFull : mfV mX4_isFull 0 := ⟨im_X4_isFull, se_X4_isFull, ini_X4, co_X4_isFull, by decide, by decide, by decide +kernel⟩
def fX4_isFull (F : Nat) (S : vs) : Option Int32 := if (S.1 (0, 3) 1) < 60 then some 0 else some 1
theorem kX4_isFull (l : Launch) (G : vg) (F : Nat) (S : vs) : Rt l G mX4_isFull none (phP S) [vR (0, 3)] (enc S) (fX4_isFull F S) := Rt.of rfl (Nat.le_of_ble_eq_true rfl) (by
  show V l G mX4_isFull none (phP S) _ 0 [(0, vR (0, 3))] [] (enc S) 0 0
  unfold fX4_isFull
  refine V.aload_n dX4_isFull_0 0 rfl ?_
  refine V.sgI 4 1 dX4_isFull_1 gf_X4_17 sh0_3 rfl rfl ?_
  refine V.bipush (v := 60) dX4_isFull_4 (by decide) ?_
  refine V.icmp_lt 13 dX4_isFull_6 (by decide) ?_ ?_
  · refine V.iconst (v := 0) dX4_isFull_13 (by decide) ?_
    exact V.zret rfl dX4_isFull_14 rfl (zb_n rfl) (by decide) (by decide)
  · refine V.iconst (v := 1) dX4_isFull_9 (by decide) ?_
    refine V.goto 14 dX4_isFull_10 (by decide) ?_
    exact V.zret rfl dX4_isFull_14 rfl (zb_n rfl) (by decide) (by decide))

abbrev mX4_has : vmt := (yX4_has, cX4_has, 2, (some .boolean), { frames := 0, cells := 0, slots := 0, locals := 0 })
theorem mfX4_has : mfV mX4_has 1 := ⟨im_X4_has, se_X4_has, ini_X4, co_X4_has, by decide, by decide, by decide +kernel⟩
def fX4_has (F : Nat) (x1 : Int32) (S : vs) : Option Int32 := if x1 < 0 then some 0 else if (S.1 (0, 3) 1) ≤ x1 then some 0 else some 1
theorem kX4_has (l : Launch) (G : vg) (F : Nat) (x1 : Int32) (S : vs) : Rt l G mX4_has none (phP S) [vR (0, 3), vI x1] (enc S) (fX4_has F x1 S) := Rt.of rfl (Nat.le_of_ble_eq_true rfl) (by
  show V l G mX4_has none (phP S) _ 0 [(0, vR (0, 3)), (1, vI x1)] [] (enc S) 0 0
  unfold fX4_has
  refine V.iload_n dX4_has_0 1 rfl ?_
  refine V.if_lt 16 dX4_has_1 (by decide) ?_ ?_
  · refine V.iconst (v := 0) dX4_has_16 (by decide) ?_
    exact V.zret rfl dX4_has_17 rfl (zb_n rfl) (by decide) (by decide)
  · refine V.iload_n dX4_has_4 1 rfl ?_
    refine V.aload_n dX4_has_5 0 rfl ?_
    refine V.sgI 4 1 dX4_has_6 gf_X4_17 sh0_3 rfl rfl ?_
    refine V.icmp_ge 16 dX4_has_9 (by decide) ?_ ?_
    · refine V.iconst (v := 0) dX4_has_16 (by decide) ?_
      exact V.zret rfl dX4_has_17 rfl (zb_n rfl) (by decide) (by decide)
    · refine V.iconst (v := 1) dX4_has_12 (by decide) ?_
      refine V.goto 17 dX4_has_13 (by decide) ?_
      exact V.zret rfl dX4_has_17 rfl (zb_n rfl) (by decide) (by decide))

abbrev mX4_takeOut : vmt := (yX4_takeOut, cX4_takeOut, 3, (some .boolean), { frames := 0, cells := 0, slots := 0, locals := 0 })
theorem mfX4_takeOut : mfV mX4_takeOut 1 := ⟨im_X4_takeOut, se_X4_takeOut, ini_X4, co_X4_takeOut, by decide, by decide, by decide +kernel⟩
def fX4_takeOut (F : Nat) (x1 : Int32) (S : vs) : Option (Int32 × vs) := (rget 3 S (0, 17) x1).bind (fun q_1 => gd (alv S.2.2 (2, q_1)) (ltt (S.1 (2, q_1) 4) (fun x_4 => stp (s2 S (2, q_1) 4 0) (fun S_5 => gd (zb x_4) (some (x_4, S_5))))))
theorem kX4_takeOut (l : Launch) (G : vg) (F : Nat) (x1 : Int32) (S : vs) : Rt l G mX4_takeOut none phI [vR (0, 3), vI x1] (enc S) (fX4_takeOut F x1 S) := Rt.of rfl (Nat.le_of_ble_eq_true rfl) (by
  show V l G mX4_takeOut none phI _ 0 [(0, vR (0, 3)), (1, vI x1)] [] (enc S) 0 0
  unfold fX4_takeOut
  refine V.aload_n dX4_takeOut_0 0 rfl ?_
  refine V.sgR 4 0 dX4_takeOut_1 gf_X4_13 sh0_3 rfl rfl ?_
  refine V.iload_n dX4_takeOut_4 1 rfl ?_
  refine V.sbind fun q_1 h_2 => ?_
  refine V.saa (t := 3) dX4_takeOut_5 rfl rfl h_2 ?_
  refine V.chk fun h_3 => ?_
  refine V.sgI 3 4 dX4_takeOut_6 gf_X4_21 rfl rfl h_3 ?_
  refine V.lett fun x_4 => ?_
  refine V.istore_n (L' := [(0, vR (0, 3)), (1, vI x1), (2, vI x_4)]) dX4_takeOut_9 (by decide) rfl rfl ?_
  refine V.aload_n dX4_takeOut_10 0 rfl ?_
  refine V.sgR 4 0 dX4_takeOut_11 gf_X4_13 sh0_3 rfl rfl ?_
  refine V.iload_n dX4_takeOut_14 1 rfl ?_
  refine V.saa (t := 3) dX4_takeOut_15 rfl rfl h_2 ?_
  refine V.iconst (v := 0) dX4_takeOut_16 (by decide) ?_
  refine V.spZ 3 4 dX4_takeOut_17 pf_X4_21 rfl rfl h_3 rfl ?_
  refine V.sst fun S_5 => ?_
  refine V.iload_n dX4_takeOut_20 2 rfl ?_
  refine V.chk fun h_6 => ?_
  exact V.zret rfl dX4_takeOut_21 rfl (zb_n h_6) (by decide) (by decide))

abbrev mX4_countLive : vmt := (yX4_countLive, cX4_countLive, 3, (some .int), { frames := 0, cells := 0, slots := 0, locals := 0 })
theorem mfX4_countLive : mfV mX4_countLive 0 := ⟨im_X4_countLive, se_X4_countLive, ini_X4, co_X4_countLive, by decide, by decide, by decide +kernel⟩
def jX4_countLive_27 (k4 : Int32 → Int32 → Option Int32) (F : Nat) (x1 : Int32) (x2 : Int32) (S : vs) : Option Int32 := ltt (x2 + 1) (fun x_4 => k4 x1 x_4)

def hX4_countLive_4 (F : Nat) (S : vs) : Nat → Int32 → Int32 → Option Int32
  | 0, _, _ => none
  | n + 1, x1, x2 => if (S.1 (0, 3) 1) ≤ x2 then some x1 else (rget 3 S (0, 17) x2).bind (fun q_1 => gd (alv S.2.2 (2, q_1)) (if (S.1 (2, q_1) 4) = 0 then jX4_countLive_27 (hX4_countLive_4 F S n) F x1 x2 S else ltt (x1 + 1) (fun x_5 => jX4_countLive_27 (hX4_countLive_4 F S n) F x_5 x2 S)))

def fX4_countLive (F : Nat) (S : vs) : Option Int32 := hX4_countLive_4 F S F 0 0
theorem tjX4_countLive_27 (l : Launch) (G : vg) (F : Nat) (x1 : Int32) (x2 : Int32) (S : vs) (k4 : Int32 → Int32 → Option Int32) (H4 : ∀ (z1 : Int32), ∀ (z2 : Int32), V l G mX4_countLive none (phP S) (k4 z1 z2) 4 [(0, vR (0, 3)), (1, vI z1), (2, vI z2)] [] (enc S) 0 0) : V l G mX4_countLive none (phP S) (jX4_countLive_27 k4 F x1 x2 S) 27 [(0, vR (0, 3)), (1, vI x1), (2, vI x2)] [] (enc S) 0 0 := by
  unfold jX4_countLive_27
  refine V.lti (e := x2 + 1) (fun x_4 he => ?_)
  refine V.iinc (v := x_4) (L' := [(0, vR (0, 3)), (1, vI x1), (2, vI x_4)]) dX4_countLive_27 2 rfl he.symm (by decide) rfl rfl ?_
  refine V.goto 4 dX4_countLive_30 (by decide) ?_
  exact (H4 x1 x_4)

theorem thX4_countLive_4 (l : Launch) (G : vg) (F : Nat) (S : vs) : ∀ (n : Nat) (x1 : Int32) (x2 : Int32), V l G mX4_countLive none (phP S) (hX4_countLive_4 F S n x1 x2) 4 [(0, vR (0, 3)), (1, vI x1), (2, vI x2)] [] (enc S) 0 0
  | 0, _, _ => V.nil
  | n + 1, x1, x2 => by
    have ih := thX4_countLive_4 l G F S n
    rw [hX4_countLive_4]
    refine V.iload_n dX4_countLive_4 2 rfl ?_
    refine V.aload_n dX4_countLive_5 0 rfl ?_
    refine V.sgI 4 1 dX4_countLive_6 gf_X4_17 sh0_3 rfl rfl ?_
    refine V.icmp_ge 33 dX4_countLive_9 (by decide) ?_ ?_
    · refine V.iload_n dX4_countLive_33 1 rfl ?_
      exact V.iret rfl dX4_countLive_34 rfl (by decide) (by decide)
    · refine V.aload_n dX4_countLive_12 0 rfl ?_
      refine V.sgR 4 0 dX4_countLive_13 gf_X4_13 sh0_3 rfl rfl ?_
      refine V.iload_n dX4_countLive_16 2 rfl ?_
      refine V.sbind fun q_1 h_2 => ?_
      refine V.saa (t := 3) dX4_countLive_17 rfl rfl h_2 ?_
      refine V.chk fun h_3 => ?_
      refine V.sgI 3 4 dX4_countLive_18 gf_X4_21 rfl rfl h_3 ?_
      refine V.if_eq 27 dX4_countLive_21 (by decide) ?_ ?_
      · exact (tjX4_countLive_27 l G F x1 x2 S (hX4_countLive_4 F S n) ih)
      · refine V.lti (e := x1 + 1) (fun x_5 he => ?_)
        refine V.iinc (v := x_5) (L' := [(0, vR (0, 3)), (1, vI x_5), (2, vI x2)]) dX4_countLive_24 1 rfl he.symm (by decide) rfl rfl ?_
        exact (tjX4_countLive_27 l G F x_5 x2 S (hX4_countLive_4 F S n) ih)

theorem kX4_countLive (l : Launch) (G : vg) (F : Nat) (S : vs) : Rt l G mX4_countLive none (phP S) [vR (0, 3)] (enc S) (fX4_countLive F S) := Rt.of rfl (Nat.le_of_ble_eq_true rfl) (by
  show V l G mX4_countLive none (phP S) _ 0 [(0, vR (0, 3))] [] (enc S) 0 0
  unfold fX4_countLive
  refine V.iconst (v := 0) dX4_countLive_0 (by decide) ?_
  refine V.istore_n (L' := [(0, vR (0, 3)), (1, vI 0)]) dX4_countLive_1 (by decide) rfl rfl ?_
  refine V.iconst (v := 0) dX4_countLive_2 (by decide) ?_
  refine V.istore_n (L' := [(0, vR (0, 3)), (1, vI 0), (2, vI 0)]) dX4_countLive_3 (by decide) rfl rfl ?_
  exact (thX4_countLive_4 l G F S F 0 0))

abbrev mX4_weightAt : vmt := (yX4_weightAt, cX4_weightAt, 6, (some .int), { frames := 1, cells := 0, slots := 0, locals := 21 })
theorem mfX4_weightAt : mfV mX4_weightAt 2 := ⟨im_X4_weightAt, se_X4_weightAt, ini_X4, co_X4_weightAt, by decide, by decide, by decide +kernel⟩
def jX4_weightAt_58 (k5 : Int32 → Int32 → Option Int32) (F : Nat) (x1 : Int32) (x2 : Int32) (x3 : Int32) (x4 : Int32) (S : vs) : Option Int32 := ltt (x4 + 1) (fun x_5 => k5 x3 x_5)

def hX4_weightAt_5 (F : Nat) (S : vs) (x1 : Int32) (x2 : Int32) : Nat → Int32 → Int32 → Option Int32
  | 0, _, _ => none
  | n + 1, x3, x4 => if (S.1 (0, 3) 1) ≤ x4 then some x3 else (rget 3 S (0, 17) x4).bind (fun q_1 => gd (alv S.2.2 (2, q_1)) ((fX3_isOf F q_1 x1 S).bind (fun a_4 => if a_4 = 0 then jX4_weightAt_58 (hX4_weightAt_5 F S x1 x2 n) F x1 x2 x3 x4 S else if x2 < (S.1 (2, q_1) 1) then jX4_weightAt_58 (hX4_weightAt_5 F S x1 x2 n) F x1 x2 x3 x4 S else if (S.1 (2, q_1) 2) < x2 then jX4_weightAt_58 (hX4_weightAt_5 F S x1 x2 n) F x1 x2 x3 x4 S else ltt (x3 + (S.1 (2, q_1) 3)) (fun x_6 => jX4_weightAt_58 (hX4_weightAt_5 F S x1 x2 n) F x1 x2 x_6 x4 S))))

def fX4_weightAt (F : Nat) (x1 : Int32) (x2 : Int32) (S : vs) : Option Int32 := hX4_weightAt_5 F S x1 x2 F 0 0
theorem tjX4_weightAt_58 (l : Launch) (G : vg) (F : Nat) (x1 : Int32) (x2 : Int32) (x3 : Int32) (x4 : Int32) (S : vs) (k5 : Int32 → Int32 → Option Int32) (H5 : ∀ (z3 : Int32), ∀ (z4 : Int32), V l G mX4_weightAt none (phP S) (k5 z3 z4) 5 [(0, vR (0, 3)), (1, vI x1), (2, vI x2), (3, vI z3), (4, vI z4)] [] (enc S) 0 0) : V l G mX4_weightAt none (phP S) (jX4_weightAt_58 k5 F x1 x2 x3 x4 S) 58 [(0, vR (0, 3)), (1, vI x1), (2, vI x2), (3, vI x3), (4, vI x4)] [] (enc S) 0 0 := by
  unfold jX4_weightAt_58
  refine V.lti (e := x4 + 1) (fun x_5 he => ?_)
  refine V.iinc (v := x_5) (L' := [(0, vR (0, 3)), (1, vI x1), (2, vI x2), (3, vI x3), (4, vI x_5)]) dX4_weightAt_58 4 rfl he.symm (by decide) rfl rfl ?_
  refine V.goto 5 dX4_weightAt_61 (by decide) ?_
  exact (H5 x3 x_5)

theorem thX4_weightAt_5 (l : Launch) (G : vg) (F : Nat) (S : vs) (x1 : Int32) (x2 : Int32) : ∀ (n : Nat) (x3 : Int32) (x4 : Int32), V l G mX4_weightAt none (phP S) (hX4_weightAt_5 F S x1 x2 n x3 x4) 5 [(0, vR (0, 3)), (1, vI x1), (2, vI x2), (3, vI x3), (4, vI x4)] [] (enc S) 0 0
  | 0, _, _ => V.nil
  | n + 1, x3, x4 => by
    have ih := thX4_weightAt_5 l G F S x1 x2 n
    rw [hX4_weightAt_5]
    refine V.iload dX4_weightAt_5 4 rfl ?_
    refine V.aload_n dX4_weightAt_7 0 rfl ?_
    refine V.sgI 4 1 dX4_weightAt_8 gf_X4_17 sh0_3 rfl rfl ?_
    refine V.icmp_ge 64 dX4_weightAt_11 (by decide) ?_ ?_
    · refine V.iload_n dX4_weightAt_64 3 rfl ?_
      exact V.iret rfl dX4_weightAt_65 rfl (by decide) (by decide)
    · refine V.aload_n dX4_weightAt_14 0 rfl ?_
      refine V.sgR 4 0 dX4_weightAt_15 gf_X4_13 sh0_3 rfl rfl ?_
      refine V.iload dX4_weightAt_18 4 rfl ?_
      refine V.sbind fun q_1 h_2 => ?_
      refine V.saa (t := 3) dX4_weightAt_20 rfl rfl h_2 ?_
      refine V.astore (L' := [(0, vR (0, 3)), (1, vI x1), (2, vI x2), (3, vI x3), (4, vI x4), (5, vR (2, q_1))]) dX4_weightAt_21 (by decide) rfl rfl ?_
      refine V.aload dX4_weightAt_23 5 rfl ?_
      refine V.iload_n dX4_weightAt_25 1 rfl ?_
      refine V.chk fun h_3 => ?_
      refine V.callV (M' := mX3_isOf) (As := [vI x1]) (ψ := (phP S)) dX4_weightAt_26 ml_X4_25 mfX3_isOf rfl ⟨by decide, by decide⟩ ⟨by decide, by decide⟩ (enc_at h_3 rfl) rfl (Nat.le_of_ble_eq_true rfl) rfl (kX3_isOf l G F q_1 x1 S) (fun a_4 => ?_)
      show V l G mX4_weightAt none (phP S) _ 29 [(0, vR (0, 3)), (1, vI x1), (2, vI x2), (3, vI x3), (4, vI x4), (5, vR (2, q_1))] [vI a_4] (enc S) 0 0
      refine V.if_eq 58 dX4_weightAt_29 (by decide) ?_ ?_
      · exact V.lsub [0, 1, 2, 3, 4] rfl (tjX4_weightAt_58 l G F x1 x2 x3 x4 S (hX4_weightAt_5 F S x1 x2 n) ih)
      · refine V.aload dX4_weightAt_32 5 rfl ?_
        refine V.sgI 3 1 dX4_weightAt_34 gf_X4_29 rfl rfl h_3 ?_
        refine V.iload_n dX4_weightAt_37 2 rfl ?_
        refine V.icmp_gt 58 dX4_weightAt_38 (by decide) ?_ ?_
        · exact V.lsub [0, 1, 2, 3, 4] rfl (tjX4_weightAt_58 l G F x1 x2 x3 x4 S (hX4_weightAt_5 F S x1 x2 n) ih)
        · refine V.iload_n dX4_weightAt_41 2 rfl ?_
          refine V.aload dX4_weightAt_42 5 rfl ?_
          refine V.sgI 3 2 dX4_weightAt_44 gf_X4_32 rfl rfl h_3 ?_
          refine V.icmp_gt 58 dX4_weightAt_47 (by decide) ?_ ?_
          · exact V.lsub [0, 1, 2, 3, 4] rfl (tjX4_weightAt_58 l G F x1 x2 x3 x4 S (hX4_weightAt_5 F S x1 x2 n) ih)
          · refine V.iload_n dX4_weightAt_50 3 rfl ?_
            refine V.aload dX4_weightAt_51 5 rfl ?_
            refine V.sgI 3 3 dX4_weightAt_53 gf_X4_35 rfl rfl h_3 ?_
            refine V.iadd dX4_weightAt_56 ?_
            refine V.lett fun x_6 => ?_
            refine V.istore_n (L' := [(0, vR (0, 3)), (1, vI x1), (2, vI x2), (3, vI x_6), (4, vI x4), (5, vR (2, q_1))]) dX4_weightAt_57 (by decide) rfl rfl ?_
            exact V.lsub [0, 1, 2, 3, 4] rfl (tjX4_weightAt_58 l G F x1 x2 x_6 x4 S (hX4_weightAt_5 F S x1 x2 n) ih)

theorem kX4_weightAt (l : Launch) (G : vg) (F : Nat) (x1 : Int32) (x2 : Int32) (S : vs) : Rt l G mX4_weightAt none (phP S) [vR (0, 3), vI x1, vI x2] (enc S) (fX4_weightAt F x1 x2 S) := Rt.of rfl (Nat.le_of_ble_eq_true rfl) (by
  show V l G mX4_weightAt none (phP S) _ 0 [(0, vR (0, 3)), (1, vI x1), (2, vI x2)] [] (enc S) 0 0
  unfold fX4_weightAt
  refine V.iconst (v := 0) dX4_weightAt_0 (by decide) ?_
  refine V.istore_n (L' := [(0, vR (0, 3)), (1, vI x1), (2, vI x2), (3, vI 0)]) dX4_weightAt_1 (by decide) rfl rfl ?_
  refine V.iconst (v := 0) dX4_weightAt_2 (by decide) ?_
  refine V.istore (L' := [(0, vR (0, 3)), (1, vI x1), (2, vI x2), (3, vI 0), (4, vI 0)]) dX4_weightAt_3 (by decide) rfl rfl ?_
  exact (thX4_weightAt_5 l G F S x1 x2 F 0 0))

abbrev mX4_leastHeaviest : vmt := (yX4_leastHeaviest, cX4_leastHeaviest, 7, (some .int), { frames := 2, cells := 0, slots := 0, locals := 46 })
theorem mfX4_leastHeaviest : mfV mX4_leastHeaviest 1 := ⟨im_X4_leastHeaviest, se_X4_leastHeaviest, ini_X4, co_X4_leastHeaviest, by decide, by decide, by decide +kernel⟩
def jX4_leastHeaviest_79 (k8 : Int32 → Int32 → Int32 → Option Int32) (F : Nat) (x1 : Int32) (x2 : Int32) (x3 : Int32) (x4 : Int32) (S : vs) : Option Int32 := ltt (x4 + 1) (fun x_7 => k8 x2 x3 x_7)

def jX4_leastHeaviest_73 (k8 : Int32 → Int32 → Int32 → Option Int32) (F : Nat) (x1 : Int32) (x4 : Int32) (x5 : Int32) (x6 : Int32) (S : vs) : Option Int32 := jX4_leastHeaviest_79 k8 F x1 x5 x6 x4 S

def hX4_leastHeaviest_8 (F : Nat) (S : vs) (x1 : Int32) : Nat → Int32 → Int32 → Int32 → Option Int32
  | 0, _, _, _ => none
  | n + 1, x2, x3, x4 => if (S.1 (0, 3) 1) ≤ x4 then some x2 else (rget 3 S (0, 17) x4).bind (fun q_1 => gd (alv S.2.2 (2, q_1)) ((fX3_isOf F q_1 x1 S).bind (fun a_4 => if a_4 = 0 then jX4_leastHeaviest_79 (hX4_leastHeaviest_8 F S x1 n) F x1 x2 x3 x4 S else ltt (S.1 (2, q_1) 1) (fun x_5 => (fX4_weightAt F x1 x_5 S).bind (fun a_6 => if x3 < a_6 then jX4_leastHeaviest_73 (hX4_leastHeaviest_8 F S x1 n) F x1 x4 x_5 a_6 S else if a_6 = x3 then if x2 ≤ x_5 then jX4_leastHeaviest_79 (hX4_leastHeaviest_8 F S x1 n) F x1 x2 x3 x4 S else jX4_leastHeaviest_73 (hX4_leastHeaviest_8 F S x1 n) F x1 x4 x_5 a_6 S else jX4_leastHeaviest_79 (hX4_leastHeaviest_8 F S x1 n) F x1 x2 x3 x4 S)))))

def fX4_leastHeaviest (F : Nat) (x1 : Int32) (S : vs) : Option Int32 := hX4_leastHeaviest_8 F S x1 F (-9) 0 0
theorem tjX4_leastHeaviest_79 (l : Launch) (G : vg) (F : Nat) (x1 : Int32) (x2 : Int32) (x3 : Int32) (x4 : Int32) (S : vs) (k8 : Int32 → Int32 → Int32 → Option Int32) (H8 : ∀ (z2 : Int32), ∀ (z3 : Int32), ∀ (z4 : Int32), V l G mX4_leastHeaviest none (phP S) (k8 z2 z3 z4) 8 [(0, vR (0, 3)), (1, vI x1), (2, vI z2), (3, vI z3), (4, vI z4)] [] (enc S) 0 0) : V l G mX4_leastHeaviest none (phP S) (jX4_leastHeaviest_79 k8 F x1 x2 x3 x4 S) 79 [(0, vR (0, 3)), (1, vI x1), (2, vI x2), (3, vI x3), (4, vI x4)] [] (enc S) 0 0 := by
  unfold jX4_leastHeaviest_79
  refine V.lti (e := x4 + 1) (fun x_7 he => ?_)
  refine V.iinc (v := x_7) (L' := [(0, vR (0, 3)), (1, vI x1), (2, vI x2), (3, vI x3), (4, vI x_7)]) dX4_leastHeaviest_79 4 rfl he.symm (by decide) rfl rfl ?_
  refine V.goto 8 dX4_leastHeaviest_82 (by decide) ?_
  exact (H8 x2 x3 x_7)

theorem tjX4_leastHeaviest_73 (l : Launch) (G : vg) (F : Nat) (x1 : Int32) (x4 : Int32) (x5 : Int32) (x6 : Int32) (S : vs) (k8 : Int32 → Int32 → Int32 → Option Int32) (H8 : ∀ (z2 : Int32), ∀ (z3 : Int32), ∀ (z4 : Int32), V l G mX4_leastHeaviest none (phP S) (k8 z2 z3 z4) 8 [(0, vR (0, 3)), (1, vI x1), (2, vI z2), (3, vI z3), (4, vI z4)] [] (enc S) 0 0) : V l G mX4_leastHeaviest none (phP S) (jX4_leastHeaviest_73 k8 F x1 x4 x5 x6 S) 73 [(0, vR (0, 3)), (1, vI x1), (4, vI x4), (5, vI x5), (6, vI x6)] [] (enc S) 0 0 := by
  unfold jX4_leastHeaviest_73
  refine V.iload dX4_leastHeaviest_73 3 rfl ?_
  refine V.istore_n (L' := [(0, vR (0, 3)), (1, vI x1), (4, vI x4), (5, vI x5), (6, vI x6), (2, vI x5)]) dX4_leastHeaviest_75 (by decide) rfl rfl ?_
  refine V.iload dX4_leastHeaviest_76 4 rfl ?_
  refine V.istore_n (L' := [(0, vR (0, 3)), (1, vI x1), (4, vI x4), (5, vI x5), (6, vI x6), (2, vI x5), (3, vI x6)]) dX4_leastHeaviest_78 (by decide) rfl rfl ?_
  exact V.lsub [0, 1, 5, 6, 2] rfl (tjX4_leastHeaviest_79 l G F x1 x5 x6 x4 S k8 H8)

theorem thX4_leastHeaviest_8 (l : Launch) (G : vg) (F : Nat) (S : vs) (x1 : Int32) : ∀ (n : Nat) (x2 : Int32) (x3 : Int32) (x4 : Int32), V l G mX4_leastHeaviest none (phP S) (hX4_leastHeaviest_8 F S x1 n x2 x3 x4) 8 [(0, vR (0, 3)), (1, vI x1), (2, vI x2), (3, vI x3), (4, vI x4)] [] (enc S) 0 0
  | 0, _, _, _ => V.nil
  | n + 1, x2, x3, x4 => by
    have ih := thX4_leastHeaviest_8 l G F S x1 n
    rw [hX4_leastHeaviest_8]
    refine V.iload dX4_leastHeaviest_8 4 rfl ?_
    refine V.aload_n dX4_leastHeaviest_10 0 rfl ?_
    refine V.sgI 4 1 dX4_leastHeaviest_11 gf_X4_17 sh0_3 rfl rfl ?_
    refine V.icmp_ge 85 dX4_leastHeaviest_14 (by decide) ?_ ?_
    · refine V.iload_n dX4_leastHeaviest_85 2 rfl ?_
      exact V.iret rfl dX4_leastHeaviest_86 rfl (by decide) (by decide)
    · refine V.aload_n dX4_leastHeaviest_17 0 rfl ?_
      refine V.sgR 4 0 dX4_leastHeaviest_18 gf_X4_13 sh0_3 rfl rfl ?_
      refine V.iload dX4_leastHeaviest_21 4 rfl ?_
      refine V.sbind fun q_1 h_2 => ?_
      refine V.saa (t := 3) dX4_leastHeaviest_23 rfl rfl h_2 ?_
      refine V.iload_n dX4_leastHeaviest_24 1 rfl ?_
      refine V.chk fun h_3 => ?_
      refine V.callV (M' := mX3_isOf) (As := [vI x1]) (ψ := (phP S)) dX4_leastHeaviest_25 ml_X4_25 mfX3_isOf rfl ⟨by decide, by decide⟩ ⟨by decide, by decide⟩ (enc_at h_3 rfl) rfl (Nat.le_of_ble_eq_true rfl) rfl (kX3_isOf l G F q_1 x1 S) (fun a_4 => ?_)
      show V l G mX4_leastHeaviest none (phP S) _ 28 [(0, vR (0, 3)), (1, vI x1), (2, vI x2), (3, vI x3), (4, vI x4)] [vI a_4] (enc S) 0 0
      refine V.if_ne 34 dX4_leastHeaviest_28 (by decide) ?_ ?_
      · refine V.aload_n dX4_leastHeaviest_34 0 rfl ?_
        refine V.sgR 4 0 dX4_leastHeaviest_35 gf_X4_13 sh0_3 rfl rfl ?_
        refine V.iload dX4_leastHeaviest_38 4 rfl ?_
        refine V.saa (t := 3) dX4_leastHeaviest_40 rfl rfl h_2 ?_
        refine V.sgI 3 1 dX4_leastHeaviest_41 gf_X4_29 rfl rfl h_3 ?_
        refine V.lett fun x_5 => ?_
        refine V.istore (L' := [(0, vR (0, 3)), (1, vI x1), (2, vI x2), (3, vI x3), (4, vI x4), (5, vI x_5)]) dX4_leastHeaviest_44 (by decide) rfl rfl ?_
        refine V.aload_n dX4_leastHeaviest_46 0 rfl ?_
        refine V.iload_n dX4_leastHeaviest_47 1 rfl ?_
        refine V.iload dX4_leastHeaviest_48 5 rfl ?_
        refine V.callV (M' := mX4_weightAt) (As := [vI x1, vI x_5]) (ψ := (phP S)) dX4_leastHeaviest_50 ml_X4_38 mfX4_weightAt rfl ⟨by decide, by decide⟩ ⟨by decide, by decide⟩ (enc_at rfl sh0_3) rfl (Nat.le_of_ble_eq_true rfl) rfl (kX4_weightAt l G F x1 x_5 S) (fun a_6 => ?_)
        show V l G mX4_leastHeaviest none (phP S) _ 53 [(0, vR (0, 3)), (1, vI x1), (2, vI x2), (3, vI x3), (4, vI x4), (5, vI x_5)] [vI a_6] (enc S) 0 0
        refine V.istore (L' := [(0, vR (0, 3)), (1, vI x1), (2, vI x2), (3, vI x3), (4, vI x4), (5, vI x_5), (6, vI a_6)]) dX4_leastHeaviest_53 (by decide) rfl rfl ?_
        refine V.iload dX4_leastHeaviest_55 6 rfl ?_
        refine V.iload_n dX4_leastHeaviest_57 3 rfl ?_
        refine V.icmp_gt 73 dX4_leastHeaviest_58 (by decide) ?_ ?_
        · exact V.lsub [0, 1, 4, 5, 6] rfl (tjX4_leastHeaviest_73 l G F x1 x4 x_5 a_6 S (hX4_leastHeaviest_8 F S x1 n) ih)
        · refine V.iload dX4_leastHeaviest_61 6 rfl ?_
          refine V.iload_n dX4_leastHeaviest_63 3 rfl ?_
          refine V.icmp_ne 79 dX4_leastHeaviest_64 (by decide) ?_ ?_
          · exact V.lsub [0, 1, 2, 3, 4] rfl (tjX4_leastHeaviest_79 l G F x1 x2 x3 x4 S (hX4_leastHeaviest_8 F S x1 n) ih)
          · refine V.iload dX4_leastHeaviest_67 5 rfl ?_
            refine V.iload_n dX4_leastHeaviest_69 2 rfl ?_
            refine V.icmp_ge 79 dX4_leastHeaviest_70 (by decide) ?_ ?_
            · exact V.lsub [0, 1, 2, 3, 4] rfl (tjX4_leastHeaviest_79 l G F x1 x2 x3 x4 S (hX4_leastHeaviest_8 F S x1 n) ih)
            · exact V.lsub [0, 1, 4, 5, 6] rfl (tjX4_leastHeaviest_73 l G F x1 x4 x_5 a_6 S (hX4_leastHeaviest_8 F S x1 n) ih)
      · refine V.goto 79 dX4_leastHeaviest_31 (by decide) ?_
        exact (tjX4_leastHeaviest_79 l G F x1 x2 x3 x4 S (hX4_leastHeaviest_8 F S x1 n) ih)

theorem kX4_leastHeaviest (l : Launch) (G : vg) (F : Nat) (x1 : Int32) (S : vs) : Rt l G mX4_leastHeaviest none (phP S) [vR (0, 3), vI x1] (enc S) (fX4_leastHeaviest F x1 S) := Rt.of rfl (Nat.le_of_ble_eq_true rfl) (by
  show V l G mX4_leastHeaviest none (phP S) _ 0 [(0, vR (0, 3)), (1, vI x1)] [] (enc S) 0 0
  unfold fX4_leastHeaviest
  refine V.bipush (v := (-9)) dX4_leastHeaviest_0 (by decide) ?_
  refine V.istore_n (L' := [(0, vR (0, 3)), (1, vI x1), (2, vI (-9))]) dX4_leastHeaviest_2 (by decide) rfl rfl ?_
  refine V.iconst (v := 0) dX4_leastHeaviest_3 (by decide) ?_
  refine V.istore_n (L' := [(0, vR (0, 3)), (1, vI x1), (2, vI (-9)), (3, vI 0)]) dX4_leastHeaviest_4 (by decide) rfl rfl ?_
  refine V.iconst (v := 0) dX4_leastHeaviest_5 (by decide) ?_
  refine V.istore (L' := [(0, vR (0, 3)), (1, vI x1), (2, vI (-9)), (3, vI 0), (4, vI 0)]) dX4_leastHeaviest_6 (by decide) rfl rfl ?_
  exact (thX4_leastHeaviest_8 l G F S x1 F (-9) 0 0))

