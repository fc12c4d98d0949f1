abbrev mX7_isHearer : vmt := (yX7_isHearer, cX7_isHearer, 1, (some .boolean), { frames := 1, cells := 0, slots := 0, locals := 22 })
theorem mfX7_isHearer : mfS mX7_isHearer 1 := ⟨sm_X7_isHearer, ini_X7, co_X7_isHearer, by decide, by decide, by decide +kernel⟩
def fX7_isHearer (F : Nat) (x0 : Int32) (S : vs) : Option Int32 := (fX7_within F x0 0 5 S).bind (fun a_1 => gd (zb a_1) (some a_1))
theorem kX7_isHearer (l : Launch) (G : vg) (F : Nat) (x0 : Int32) (S : vs) : Rt l G mX7_isHearer none (phP S) [vI x0] (enc S) (fX7_isHearer F x0 S) := Rt.of rfl (Nat.le_of_ble_eq_true rfl) (by
  show V l G mX7_isHearer none (phP S) _ 0 [(0, vI x0)] [] (enc S) 0 0
  unfold fX7_isHearer
  refine V.iload_n dX7_isHearer_0 0 rfl ?_
  refine V.iconst (v := 0) dX7_isHearer_1 (by decide) ?_
  refine V.iconst (v := 5) dX7_isHearer_2 (by decide) ?_
  refine V.callS (M' := mX7_within) (As := [vI x0, vI 0, vI 5]) (ψ := (phP S)) dX7_isHearer_3 ml_X7_50 mfX7_within rfl ⟨by decide, by decide⟩ ⟨by decide, by decide⟩ (Nat.le_of_ble_eq_true rfl) rfl (kX7_within l G F x0 0 5 S) (fun a_1 => ?_)
  show V l G mX7_isHearer none (phP S) _ 6 [(0, vI x0)] [vI a_1] (enc S) 0 0
  refine V.chk fun h_2 => ?_
  exact V.zret rfl dX7_isHearer_6 rfl (zb_n h_2) (by decide) (by decide))

abbrev mX7_isDay : vmt := (yX7_isDay, cX7_isDay, 1, (some .boolean), { frames := 1, cells := 0, slots := 0, locals := 22 })
theorem mfX7_isDay : mfS mX7_isDay 1 := ⟨sm_X7_isDay, ini_X7, co_X7_isDay, by decide, by decide, by decide +kernel⟩
def fX7_isDay (F : Nat) (x0 : Int32) (S : vs) : Option Int32 := (fX7_within F x0 0 9999 S).bind (fun a_1 => gd (zb a_1) (some a_1))
theorem kX7_isDay (l : Launch) (G : vg) (F : Nat) (x0 : Int32) (S : vs) : Rt l G mX7_isDay none (phP S) [vI x0] (enc S) (fX7_isDay F x0 S) := Rt.of rfl (Nat.le_of_ble_eq_true rfl) (by
  show V l G mX7_isDay none (phP S) _ 0 [(0, vI x0)] [] (enc S) 0 0
  unfold fX7_isDay
  refine V.iload_n dX7_isDay_0 0 rfl ?_
  refine V.iconst (v := 0) dX7_isDay_1 (by decide) ?_
  refine V.sipush (v := 9999) dX7_isDay_2 (by decide) ?_
  refine V.callS (M' := mX7_within) (As := [vI x0, vI 0, vI 9999]) (ψ := (phP S)) dX7_isDay_5 ml_X7_50 mfX7_within rfl ⟨by decide, by decide⟩ ⟨by decide, by decide⟩ (Nat.le_of_ble_eq_true rfl) rfl (kX7_within l G F x0 0 9999 S) (fun a_1 => ?_)
  show V l G mX7_isDay none (phP S) _ 8 [(0, vI x0)] [vI a_1] (enc S) 0 0
  refine V.chk fun h_2 => ?_
  exact V.zret rfl dX7_isDay_8 rfl (zb_n h_2) (by decide) (by decide))

abbrev mX7_askedBy : vmt := (yX7_askedBy, cX7_askedBy, 4, (some .int), { frames := 0, cells := 0, slots := 0, locals := 0 })
theorem mfX7_askedBy : mfS mX7_askedBy 2 := ⟨sm_X7_askedBy, ini_X7, co_X7_askedBy, by decide, by decide, by decide +kernel⟩
def hX7_askedBy_19 (F : Nat) (S : vs) (x0 : Int32) : Nat → Int32 → Int32 → Option Int32
  | 0, _, _ => none
  | n + 1, x2, x3 => if 4 ≤ x3 then some x2 else ltt (x2 ||| ((1 : Int32) <<< (((x3 * 8) + x0) &&& 31))) (fun x_1 => ltt (x3 + 1) (fun x_2 => hX7_askedBy_19 F S x0 n x_1 x_2))

def fX7_askedBy (F : Nat) (x0 : Int32) (x1 : Int32) (S : vs) : Option Int32 := if x1 = (-9) then hX7_askedBy_19 F S x0 F 0 0 else some ((1 : Int32) <<< (((x1 * 8) + x0) &&& 31))
theorem thX7_askedBy_19 (l : Launch) (G : vg) (F : Nat) (S : vs) (x0 : Int32) : ∀ (n : Nat) (x2 : Int32) (x3 : Int32), V l G mX7_askedBy none (phP S) (hX7_askedBy_19 F S x0 n x2 x3) 19 [(0, vI x0), (2, vI x2), (3, vI x3)] [] (enc S) 0 0
  | 0, _, _ => V.nil
  | n + 1, x2, x3 => by
    have ih := thX7_askedBy_19 l G F S x0 n
    rw [hX7_askedBy_19]
    refine V.iload_n dX7_askedBy_19 2 rfl ?_
    refine V.iconst (v := 4) dX7_askedBy_20 (by decide) ?_
    refine V.icmp_ge 41 dX7_askedBy_21 (by decide) ?_ ?_
    · refine V.iload_n dX7_askedBy_41 1 rfl ?_
      exact V.iret rfl dX7_askedBy_42 rfl (by decide) (by decide)
    · refine V.iload_n dX7_askedBy_24 1 rfl ?_
      refine V.iconst (v := 1) dX7_askedBy_25 (by decide) ?_
      refine V.iload_n dX7_askedBy_26 2 rfl ?_
      refine V.bipush (v := 8) dX7_askedBy_27 (by decide) ?_
      refine V.imul dX7_askedBy_29 ?_
      refine V.iload_n dX7_askedBy_30 0 rfl ?_
      refine V.iadd dX7_askedBy_31 ?_
      refine V.ishl dX7_askedBy_32 ?_
      refine V.ior dX7_askedBy_33 ?_
      refine V.lett fun x_1 => ?_
      refine V.istore_n (L' := [(0, vI x0), (2, vI x_1), (3, vI x3)]) dX7_askedBy_34 (by decide) rfl rfl ?_
      refine V.lti (e := x3 + 1) (fun x_2 he => ?_)
      refine V.iinc (v := x_2) (L' := [(0, vI x0), (2, vI x_1), (3, vI x_2)]) dX7_askedBy_35 2 rfl he.symm (by decide) rfl rfl ?_
      refine V.goto 19 dX7_askedBy_38 (by decide) ?_
      exact (ih x_1 x_2)

theorem kX7_askedBy (l : Launch) (G : vg) (F : Nat) (x0 : Int32) (x1 : Int32) (S : vs) : Rt l G mX7_askedBy none (phP S) [vI x0, vI x1] (enc S) (fX7_askedBy F x0 x1 S) := Rt.of rfl (Nat.le_of_ble_eq_true rfl) (by
  show V l G mX7_askedBy none (phP S) _ 0 [(0, vI x0), (1, vI x1)] [] (enc S) 0 0
  unfold fX7_askedBy
  refine V.iload_n dX7_askedBy_0 1 rfl ?_
  refine V.bipush (v := (-9)) dX7_askedBy_1 (by decide) ?_
  refine V.icmp_eq 15 dX7_askedBy_3 (by decide) ?_ ?_
  · refine V.iconst (v := 0) dX7_askedBy_15 (by decide) ?_
    refine V.istore_n (L' := [(0, vI x0), (1, vI x1), (2, vI 0)]) dX7_askedBy_16 (by decide) rfl rfl ?_
    refine V.iconst (v := 0) dX7_askedBy_17 (by decide) ?_
    refine V.istore_n (L' := [(0, vI x0), (1, vI x1), (2, vI 0), (3, vI 0)]) dX7_askedBy_18 (by decide) rfl rfl ?_
    exact V.lsub [0, 2, 3] rfl (thX7_askedBy_19 l G F S x0 F 0 0)
  · refine V.iconst (v := 1) dX7_askedBy_6 (by decide) ?_
    refine V.iload_n dX7_askedBy_7 1 rfl ?_
    refine V.bipush (v := 8) dX7_askedBy_8 (by decide) ?_
    refine V.imul dX7_askedBy_10 ?_
    refine V.iload_n dX7_askedBy_11 0 rfl ?_
    refine V.iadd dX7_askedBy_12 ?_
    refine V.ishl dX7_askedBy_13 ?_
    exact V.iret rfl dX7_askedBy_14 rfl (by decide) (by decide))

abbrev mX7_counts : vmt := (yX7_counts, cX7_counts, 5, (some .int), { frames := 2, cells := 0, slots := 0, locals := 46 })
theorem mfX7_counts : mfV mX7_counts 4 := ⟨im_X7_counts, se_X7_counts, ini_X7, co_X7_counts, by decide, by decide, by decide +kernel⟩
def fX7_counts (F : Nat) (x1 : Int32) (x2 : Int32) (x3 : Int32) (x4 : Int32) (S : vs) : Option Int32 := (fX7_isFamily F x1 S).bind (fun a_1 => if a_1 = 0 then some (-1) else (fX7_isSong F x2 S).bind (fun a_2 => if a_2 = 0 then some (-1) else (fX7_isHearer F x3 S).bind (fun a_3 => if a_3 = 0 then some (-1) else (fX7_isDay F x4 S).bind (fun a_4 => if a_4 = 0 then some (-2) else (fX7_askedBy F x1 x2 S).bind (fun a_5 => (fX6_latestFor F a_5 x3 x4 S).bind (fun a_6 => some a_6))))))
theorem kX7_counts (l : Launch) (G : vg) (F : Nat) (x1 : Int32) (x2 : Int32) (x3 : Int32) (x4 : Int32) (S : vs) : Rt l G mX7_counts none (phP S) [vR (0, 0), vI x1, vI x2, vI x3, vI x4] (enc S) (fX7_counts F x1 x2 x3 x4 S) := Rt.of rfl (Nat.le_of_ble_eq_true rfl) (by
  show V l G mX7_counts none (phP S) _ 0 [(0, vR (0, 0)), (1, vI x1), (2, vI x2), (3, vI x3), (4, vI x4)] [] (enc S) 0 0
  unfold fX7_counts
  refine V.iload_n dX7_counts_0 1 rfl ?_
  refine V.callS (M' := mX7_isFamily) (As := [vI x1]) (ψ := (phP S)) dX7_counts_1 ml_X7_191 mfX7_isFamily rfl ⟨by decide, by decide⟩ ⟨by decide, by decide⟩ (Nat.le_of_ble_eq_true rfl) rfl (kX7_isFamily l G F x1 S) (fun a_1 => ?_)
  show V l G mX7_counts none (phP S) _ 4 [(0, vR (0, 0)), (1, vI x1), (2, vI x2), (3, vI x3), (4, vI x4)] [vI a_1] (enc S) 0 0
  refine V.if_eq 21 dX7_counts_4 (by decide) ?_ ?_
  · refine V.iconst (v := (-1)) dX7_counts_21 (by decide) ?_
    exact V.iret rfl dX7_counts_22 rfl (by decide) (by decide)
  · refine V.iload_n dX7_counts_7 2 rfl ?_
    refine V.callS (M' := mX7_isSong) (As := [vI x2]) (ψ := (phP S)) dX7_counts_8 ml_X7_179 mfX7_isSong rfl ⟨by decide, by decide⟩ ⟨by decide, by decide⟩ (Nat.le_of_ble_eq_true rfl) rfl (kX7_isSong l G F x2 S) (fun a_2 => ?_)
    show V l G mX7_counts none (phP S) _ 11 [(0, vR (0, 0)), (1, vI x1), (2, vI x2), (3, vI x3), (4, vI x4)] [vI a_2] (enc S) 0 0
    refine V.if_eq 21 dX7_counts_11 (by decide) ?_ ?_
    · refine V.iconst (v := (-1)) dX7_counts_21 (by decide) ?_
      exact V.iret rfl dX7_counts_22 rfl (by decide) (by decide)
    · refine V.iload_n dX7_counts_14 3 rfl ?_
      refine V.callS (M' := mX7_isHearer) (As := [vI x3]) (ψ := (phP S)) dX7_counts_15 ml_X7_188 mfX7_isHearer rfl ⟨by decide, by decide⟩ ⟨by decide, by decide⟩ (Nat.le_of_ble_eq_true rfl) rfl (kX7_isHearer l G F x3 S) (fun a_3 => ?_)
      show V l G mX7_counts none (phP S) _ 18 [(0, vR (0, 0)), (1, vI x1), (2, vI x2), (3, vI x3), (4, vI x4)] [vI a_3] (enc S) 0 0
      refine V.if_ne 23 dX7_counts_18 (by decide) ?_ ?_
      · refine V.iload dX7_counts_23 4 rfl ?_
        refine V.callS (M' := mX7_isDay) (As := [vI x4]) (ψ := (phP S)) dX7_counts_25 ml_X7_194 mfX7_isDay rfl ⟨by decide, by decide⟩ ⟨by decide, by decide⟩ (Nat.le_of_ble_eq_true rfl) rfl (kX7_isDay l G F x4 S) (fun a_4 => ?_)
        show V l G mX7_counts none (phP S) _ 28 [(0, vR (0, 0)), (1, vI x1), (2, vI x2), (3, vI x3), (4, vI x4)] [vI a_4] (enc S) 0 0
        refine V.if_eq 49 dX7_counts_28 (by decide) ?_ ?_
        · refine V.bipush (v := (-2)) dX7_counts_49 (by decide) ?_
          exact V.iret rfl dX7_counts_51 rfl (by decide) (by decide)
        · refine V.aload_n dX7_counts_31 0 rfl ?_
          refine V.sgR 7 6 dX7_counts_32 gf_X7_46 sh0_0 rfl rfl ?_
          refine V.iload_n dX7_counts_35 1 rfl ?_
          refine V.iload_n dX7_counts_36 2 rfl ?_
          refine V.callS (M' := mX7_askedBy) (As := [vI x1, vI x2]) (ψ := (phP S)) dX7_counts_37 ml_X7_198 mfX7_askedBy rfl ⟨by decide, by decide⟩ ⟨by decide, by decide⟩ (Nat.le_of_ble_eq_true rfl) rfl (kX7_askedBy l G F x1 x2 S) (fun a_5 => ?_)
          show V l G mX7_counts none (phP S) _ 40 [(0, vR (0, 0)), (1, vI x1), (2, vI x2), (3, vI x3), (4, vI x4)] [vI a_5, vR (0, 5)] (enc S) 0 0
          refine V.iload_n dX7_counts_40 3 rfl ?_
          refine V.iload dX7_counts_41 4 rfl ?_
          refine V.callV (M' := mX6_latestFor) (As := [vI a_5, vI x3, vI x4]) (ψ := (phP S)) dX7_counts_43 ml_X7_204 mfX6_latestFor rfl ⟨by decide, by decide⟩ ⟨by decide, by decide⟩ (enc_at rfl sh0_5) rfl (Nat.le_of_ble_eq_true rfl) rfl (kX6_latestFor l G F a_5 x3 x4 S) (fun a_6 => ?_)
          show V l G mX7_counts none (phP S) _ 46 [(0, vR (0, 0)), (1, vI x1), (2, vI x2), (3, vI x3), (4, vI x4)] [vI a_6] (enc S) 0 0
          refine V.goto 51 dX7_counts_46 (by decide) ?_
          exact V.iret rfl dX7_counts_51 rfl (by decide) (by decide)
      · refine V.iconst (v := (-1)) dX7_counts_21 (by decide) ?_
        exact V.iret rfl dX7_counts_22 rfl (by decide) (by decide))

abbrev mX7_may : vmt := (yX7_may, cX7_may, 4, (some .int), { frames := 2, cells := 0, slots := 0, locals := 45 })
theorem mfX7_may : mfV mX7_may 3 := ⟨im_X7_may, se_X7_may, ini_X7, co_X7_may, by decide, by decide, by decide +kernel⟩
def fX7_may (F : Nat) (x1 : Int32) (x2 : Int32) (x3 : Int32) (S : vs) : Option Int32 := (fX7_isSide F x1 S).bind (fun a_1 => if a_1 = 0 then some (-1) else (fX7_isHearer F x2 S).bind (fun a_2 => if a_2 = 0 then some (-1) else (fX7_isDay F x3 S).bind (fun a_3 => if a_3 = 0 then some (-2) else (rget 2 S (0, 6) x1).bind (fun q_4 => (fX6_letOn F x2 x3 S).bind (fun a_6 => gd (alv S.2.2 (1, q_4)) ((fX2_isLetBy F q_4 a_6 S).bind (fun a_8 => if a_8 = 0 then some 0 else some 1)))))))
theorem kX7_may (l : Launch) (G : vg) (F : Nat) (x1 : Int32) (x2 : Int32) (x3 : Int32) (S : vs) : Rt l G mX7_may none (phP S) [vR (0, 0), vI x1, vI x2, vI x3] (enc S) (fX7_may F x1 x2 x3 S) := Rt.of rfl (Nat.le_of_ble_eq_true rfl) (by
  show V l G mX7_may none (phP S) _ 0 [(0, vR (0, 0)), (1, vI x1), (2, vI x2), (3, vI x3)] [] (enc S) 0 0
  unfold fX7_may
  refine V.aload_n dX7_may_0 0 rfl ?_
  refine V.iload_n dX7_may_1 1 rfl ?_
  refine V.callV (M' := mX7_isSide) (As := [vI x1]) (ψ := (phP S)) dX7_may_2 ml_X7_57 mfX7_isSide rfl ⟨by decide, by decide⟩ ⟨by decide, by decide⟩ (enc_at rfl sh0_0) rfl (Nat.le_of_ble_eq_true rfl) rfl (kX7_isSide l G F x1 S) (fun a_1 => ?_)
  show V l G mX7_may none (phP S) _ 5 [(0, vR (0, 0)), (1, vI x1), (2, vI x2), (3, vI x3)] [vI a_1] (enc S) 0 0
  refine V.if_eq 15 dX7_may_5 (by decide) ?_ ?_
  · refine V.iconst (v := (-1)) dX7_may_15 (by decide) ?_
    exact V.iret rfl dX7_may_16 rfl (by decide) (by decide)
  · refine V.iload_n dX7_may_8 2 rfl ?_
    refine V.callS (M' := mX7_isHearer) (As := [vI x2]) (ψ := (phP S)) dX7_may_9 ml_X7_188 mfX7_isHearer rfl ⟨by decide, by decide⟩ ⟨by decide, by decide⟩ (Nat.le_of_ble_eq_true rfl) rfl (kX7_isHearer l G F x2 S) (fun a_2 => ?_)
    show V l G mX7_may none (phP S) _ 12 [(0, vR (0, 0)), (1, vI x1), (2, vI x2), (3, vI x3)] [vI a_2] (enc S) 0 0
    refine V.if_ne 17 dX7_may_12 (by decide) ?_ ?_
    · refine V.iload_n dX7_may_17 3 rfl ?_
      refine V.callS (M' := mX7_isDay) (As := [vI x3]) (ψ := (phP S)) dX7_may_18 ml_X7_194 mfX7_isDay rfl ⟨by decide, by decide⟩ ⟨by decide, by decide⟩ (Nat.le_of_ble_eq_true rfl) rfl (kX7_isDay l G F x3 S) (fun a_3 => ?_)
      show V l G mX7_may none (phP S) _ 21 [(0, vR (0, 0)), (1, vI x1), (2, vI x2), (3, vI x3)] [vI a_3] (enc S) 0 0
      refine V.if_ne 27 dX7_may_21 (by decide) ?_ ?_
      · refine V.aload_n dX7_may_27 0 rfl ?_
        refine V.sgR 7 0 dX7_may_28 gf_X7_11 sh0_0 rfl rfl ?_
        refine V.iload_n dX7_may_31 1 rfl ?_
        refine V.sbind fun q_4 h_5 => ?_
        refine V.saa (t := 2) dX7_may_32 rfl rfl h_5 ?_
        refine V.aload_n dX7_may_33 0 rfl ?_
        refine V.sgR 7 6 dX7_may_34 gf_X7_46 sh0_0 rfl rfl ?_
        refine V.iload_n dX7_may_37 2 rfl ?_
        refine V.iload_n dX7_may_38 3 rfl ?_
        refine V.callV (M' := mX6_letOn) (As := [vI x2, vI x3]) (ψ := (phP S)) dX7_may_39 ml_X7_208 mfX6_letOn rfl ⟨by decide, by decide⟩ ⟨by decide, by decide⟩ (enc_at rfl sh0_5) rfl (Nat.le_of_ble_eq_true rfl) rfl (kX6_letOn l G F x2 x3 S) (fun a_6 => ?_)
        show V l G mX7_may none (phP S) _ 42 [(0, vR (0, 0)), (1, vI x1), (2, vI x2), (3, vI x3)] [vI a_6, vR (1, q_4)] (enc S) 0 0
        refine V.chk fun h_7 => ?_
        refine V.callV (M' := mX2_isLetBy) (As := [vI a_6]) (ψ := (phP S)) dX7_may_42 ml_X7_211 mfX2_isLetBy rfl ⟨by decide, by decide⟩ ⟨by decide, by decide⟩ (enc_at h_7 rfl) rfl (Nat.le_of_ble_eq_true rfl) rfl (kX2_isLetBy l G F q_4 a_6 S) (fun a_8 => ?_)
        show V l G mX7_may none (phP S) _ 45 [(0, vR (0, 0)), (1, vI x1), (2, vI x2), (3, vI x3)] [vI a_8] (enc S) 0 0
        refine V.if_eq 52 dX7_may_45 (by decide) ?_ ?_
        · refine V.iconst (v := 0) dX7_may_52 (by decide) ?_
          exact V.iret rfl dX7_may_53 rfl (by decide) (by decide)
        · refine V.iconst (v := 1) dX7_may_48 (by decide) ?_
          refine V.goto 53 dX7_may_49 (by decide) ?_
          exact V.iret rfl dX7_may_53 rfl (by decide) (by decide)
      · refine V.bipush (v := (-2)) dX7_may_24 (by decide) ?_
        exact V.iret rfl dX7_may_26 rfl (by decide) (by decide)
    · refine V.iconst (v := (-1)) dX7_may_15 (by decide) ?_
      exact V.iret rfl dX7_may_16 rfl (by decide) (by decide))

abbrev mX7_heard : vmt := (yX7_heard, cX7_heard, 6, (some .int), { frames := 2, cells := 0, slots := 0, locals := 45 })
theorem mfX7_heard : mfV mX7_heard 2 := ⟨im_X7_heard, se_X7_heard, ini_X7, co_X7_heard, by decide, by decide, by decide +kernel⟩
def jX7_heard_67 (k35 : Int32 → Int32 → Option Int32) (F : Nat) (x3 : Int32) (x4 : Int32) (x5 : Int32) (S : vs) : Option Int32 := ltt (x5 + 1) (fun x_8 => k35 x4 x_8)

def hX7_heard_35 (F : Nat) (S : vs) (x3 : Int32) : Nat → Int32 → Int32 → Option Int32
  | 0, _, _ => none
  | n + 1, x4, x5 => if (S.1 (0, 0) 1) ≤ x5 then some x4 else (rget 2 S (0, 6) x5).bind (fun q_4 => gd (alv S.2.2 (1, q_4)) ((fX2_isLetBy F q_4 x3 S).bind (fun a_7 => if a_7 = 0 then jX7_heard_67 (hX7_heard_35 F S x3 n) F x3 x4 x5 S else ltt (x4 ||| ((1 : Int32) <<< (x5 &&& 31))) (fun x_9 => jX7_heard_67 (hX7_heard_35 F S x3 n) F x3 x_9 x5 S))))

def fX7_heard (F : Nat) (x1 : Int32) (x2 : Int32) (S : vs) : Option Int32 := (fX7_isHearer F x1 S).bind (fun a_1 => if a_1 = 0 then some (-1) else (fX7_isDay F x2 S).bind (fun a_2 => if a_2 = 0 then some (-2) else (fX6_letOn F x1 x2 S).bind (fun a_3 => hX7_heard_35 F S a_3 F 0 0)))
theorem tjX7_heard_67 (l : Launch) (G : vg) (F : Nat) (x3 : Int32) (x4 : Int32) (x5 : Int32) (S : vs) (k35 : Int32 → Int32 → Option Int32) (H35 : ∀ (z4 : Int32), ∀ (z5 : Int32), V l G mX7_heard none (phP S) (k35 z4 z5) 35 [(0, vR (0, 0)), (3, vI x3), (4, vI z4), (5, vI z5)] [] (enc S) 0 0) : V l G mX7_heard none (phP S) (jX7_heard_67 k35 F x3 x4 x5 S) 67 [(0, vR (0, 0)), (3, vI x3), (4, vI x4), (5, vI x5)] [] (enc S) 0 0 := by
  unfold jX7_heard_67
  refine V.lti (e := x5 + 1) (fun x_8 he => ?_)
  refine V.iinc (v := x_8) (L' := [(0, vR (0, 0)), (3, vI x3), (4, vI x4), (5, vI x_8)]) dX7_heard_67 3 rfl he.symm (by decide) rfl rfl ?_
  refine V.goto 35 dX7_heard_70 (by decide) ?_
  exact (H35 x4 x_8)

theorem thX7_heard_35 (l : Launch) (G : vg) (F : Nat) (S : vs) (x3 : Int32) : ∀ (n : Nat) (x4 : Int32) (x5 : Int32), V l G mX7_heard none (phP S) (hX7_heard_35 F S x3 n x4 x5) 35 [(0, vR (0, 0)), (3, vI x3), (4, vI x4), (5, vI x5)] [] (enc S) 0 0
  | 0, _, _ => V.nil
  | n + 1, x4, x5 => by
    have ih := thX7_heard_35 l G F S x3 n
    rw [hX7_heard_35]
    refine V.iload dX7_heard_35 3 rfl ?_
    refine V.aload_n dX7_heard_37 0 rfl ?_
    refine V.sgI 7 1 dX7_heard_38 gf_X7_15 sh0_0 rfl rfl ?_
    refine V.icmp_ge 73 dX7_heard_41 (by decide) ?_ ?_
    · refine V.iload dX7_heard_73 2 rfl ?_
      exact V.iret rfl dX7_heard_75 rfl (by decide) (by decide)
    · refine V.aload_n dX7_heard_44 0 rfl ?_
      refine V.sgR 7 0 dX7_heard_45 gf_X7_11 sh0_0 rfl rfl ?_
      refine V.iload dX7_heard_48 3 rfl ?_
      refine V.sbind fun q_4 h_5 => ?_
      refine V.saa (t := 2) dX7_heard_50 rfl rfl h_5 ?_
      refine V.iload_n dX7_heard_51 1 rfl ?_
      refine V.chk fun h_6 => ?_
      refine V.callV (M' := mX2_isLetBy) (As := [vI x3]) (ψ := (phP S)) dX7_heard_52 ml_X7_211 mfX2_isLetBy rfl ⟨by decide, by decide⟩ ⟨by decide, by decide⟩ (enc_at h_6 rfl) rfl (Nat.le_of_ble_eq_true rfl) rfl (kX2_isLetBy l G F q_4 x3 S) (fun a_7 => ?_)
      show V l G mX7_heard none (phP S) _ 55 [(0, vR (0, 0)), (3, vI x3), (4, vI x4), (5, vI x5)] [vI a_7] (enc S) 0 0
      refine V.if_eq 67 dX7_heard_55 (by decide) ?_ ?_
      · exact (tjX7_heard_67 l G F x3 x4 x5 S (hX7_heard_35 F S x3 n) ih)
      · refine V.iload dX7_heard_58 2 rfl ?_
        refine V.iconst (v := 1) dX7_heard_60 (by decide) ?_
        refine V.iload dX7_heard_61 3 rfl ?_
        refine V.ishl dX7_heard_63 ?_
        refine V.ior dX7_heard_64 ?_
        refine V.lett fun x_9 => ?_
        refine V.istore (L' := [(0, vR (0, 0)), (3, vI x3), (4, vI x_9), (5, vI x5)]) dX7_heard_65 (by decide) rfl rfl ?_
        exact (tjX7_heard_67 l G F x3 x_9 x5 S (hX7_heard_35 F S x3 n) ih)

theorem kX7_heard (l : Launch) (G : vg) (F : Nat) (x1 : Int32) (x2 : Int32) (S : vs) : Rt l G mX7_heard none (phP S) [vR (0, 0), vI x1, vI x2] (enc S) (fX7_heard F x1 x2 S) := Rt.of rfl (Nat.le_of_ble_eq_true rfl) (by
  show V l G mX7_heard none (phP S) _ 0 [(0, vR (0, 0)), (1, vI x1), (2, vI x2)] [] (enc S) 0 0
  unfold fX7_heard
  refine V.iload_n dX7_heard_0 1 rfl ?_
  refine V.callS (M' := mX7_isHearer) (As := [vI x1]) (ψ := (phP S)) dX7_heard_1 ml_X7_188 mfX7_isHearer rfl ⟨by decide, by decide⟩ ⟨by decide, by decide⟩ (Nat.le_of_ble_eq_true rfl) rfl (kX7_isHearer l G F x1 S) (fun a_1 => ?_)
  show V l G mX7_heard none (phP S) _ 4 [(0, vR (0, 0)), (1, vI x1), (2, vI x2)] [vI a_1] (enc S) 0 0
  refine V.if_ne 9 dX7_heard_4 (by decide) ?_ ?_
  · refine V.iload_n dX7_heard_9 2 rfl ?_
    refine V.callS (M' := mX7_isDay) (As := [vI x2]) (ψ := (phP S)) dX7_heard_10 ml_X7_194 mfX7_isDay rfl ⟨by decide, by decide⟩ ⟨by decide, by decide⟩ (Nat.le_of_ble_eq_true rfl) rfl (kX7_isDay l G F x2 S) (fun a_2 => ?_)
    show V l G mX7_heard none (phP S) _ 13 [(0, vR (0, 0)), (1, vI x1), (2, vI x2)] [vI a_2] (enc S) 0 0
    refine V.if_ne 19 dX7_heard_13 (by decide) ?_ ?_
    · refine V.aload_n dX7_heard_19 0 rfl ?_
      refine V.sgR 7 6 dX7_heard_20 gf_X7_46 sh0_0 rfl rfl ?_
      refine V.iload_n dX7_heard_23 1 rfl ?_
      refine V.iload_n dX7_heard_24 2 rfl ?_
      refine V.callV (M' := mX6_letOn) (As := [vI x1, vI x2]) (ψ := (phP S)) dX7_heard_25 ml_X7_208 mfX6_letOn rfl ⟨by decide, by decide⟩ ⟨by decide, by decide⟩ (enc_at rfl sh0_5) rfl (Nat.le_of_ble_eq_true rfl) rfl (kX6_letOn l G F x1 x2 S) (fun a_3 => ?_)
      show V l G mX7_heard none (phP S) _ 28 [(0, vR (0, 0)), (1, vI x1), (2, vI x2)] [vI a_3] (enc S) 0 0
      refine V.istore_n (L' := [(0, vR (0, 0)), (1, vI x1), (2, vI x2), (3, vI a_3)]) dX7_heard_28 (by decide) rfl rfl ?_
      refine V.iconst (v := 0) dX7_heard_29 (by decide) ?_
      refine V.istore (L' := [(0, vR (0, 0)), (1, vI x1), (2, vI x2), (3, vI a_3), (4, vI 0)]) dX7_heard_30 (by decide) rfl rfl ?_
      refine V.iconst (v := 0) dX7_heard_32 (by decide) ?_
      refine V.istore (L' := [(0, vR (0, 0)), (1, vI x1), (2, vI x2), (3, vI a_3), (4, vI 0), (5, vI 0)]) dX7_heard_33 (by decide) rfl rfl ?_
      exact V.lsub [0, 3, 4, 5] rfl (thX7_heard_35 l G F S a_3 F 0 0)
    · refine V.bipush (v := (-2)) dX7_heard_16 (by decide) ?_
      exact V.iret rfl dX7_heard_18 rfl (by decide) (by decide)
  · refine V.iconst (v := (-1)) dX7_heard_7 (by decide) ?_
    exact V.iret rfl dX7_heard_8 rfl (by decide) (by decide))

abbrev mX7_days : vmt := (yX7_days, cX7_days, 7, (some .int), { frames := 2, cells := 0, slots := 0, locals := 50 })
theorem mfX7_days : mfV mX7_days 4 := ⟨im_X7_days, se_X7_days, ini_X7, co_X7_days, by decide, by decide, by decide +kernel⟩
def jX7_days_80 (k47 : Int32 → Int32 → Option Int32) (F : Nat) (x1 : Int32) (x2 : Int32) (x3 : Int32) (x4 : Int32) (x5 : Int32) (x6 : Int32) (S : vs) : Option Int32 := ltt (x6 + 1) (fun x_7 => k47 x5 x_7)

def hX7_days_47 (F : Nat) (S : vs) (x1 : Int32) (x2 : Int32) (x3 : Int32) (x4 : Int32) : Nat → Int32 → Int32 → Option Int32
  | 0, _, _ => none
  | n + 1, x5, x6 => if (S.1 (0, 0) 1) ≤ x6 then (fX6_daysThatLet F x5 x2 x3 x4 S).bind (fun a_5 => some a_5) else (fX7_holds F x1 x6 S).bind (fun a_6 => if a_6 = 0 then jX7_days_80 (hX7_days_47 F S x1 x2 x3 x4 n) F x1 x2 x3 x4 x5 x6 S else (rget 2 S (0, 6) x6).bind (fun q_8 => gd (alv S.2.2 (1, q_8)) ((fX2_asked F q_8 S).bind (fun a_11 => ltt (x5 ||| a_11) (fun x_12 => jX7_days_80 (hX7_days_47 F S x1 x2 x3 x4 n) F x1 x2 x3 x4 x_12 x6 S)))))

def fX7_days (F : Nat) (x1 : Int32) (x2 : Int32) (x3 : Int32) (x4 : Int32) (S : vs) : Option Int32 := (fX7_isSetOfSides F x1 S).bind (fun a_1 => if a_1 = 0 then some (-1) else (fX7_isHearer F x2 S).bind (fun a_2 => if a_2 = 0 then some (-1) else (fX7_isDay F x3 S).bind (fun a_3 => if a_3 = 0 then some (-2) else (fX7_isDay F x4 S).bind (fun a_4 => if a_4 = 0 then some (-2) else if x3 ≤ x4 then hX7_days_47 F S x1 x2 x3 x4 F 0 0 else some (-2)))))
theorem tjX7_days_80 (l : Launch) (G : vg) (F : Nat) (x1 : Int32) (x2 : Int32) (x3 : Int32) (x4 : Int32) (x5 : Int32) (x6 : Int32) (S : vs) (k47 : Int32 → Int32 → Option Int32) (H47 : ∀ (z5 : Int32), ∀ (z6 : Int32), V l G mX7_days none (phP S) (k47 z5 z6) 47 [(0, vR (0, 0)), (1, vI x1), (2, vI x2), (3, vI x3), (4, vI x4), (5, vI z5), (6, vI z6)] [] (enc S) 0 0) : V l G mX7_days none (phP S) (jX7_days_80 k47 F x1 x2 x3 x4 x5 x6 S) 80 [(0, vR (0, 0)), (1, vI x1), (2, vI x2), (3, vI x3), (4, vI x4), (5, vI x5), (6, vI x6)] [] (enc S) 0 0 := by
  unfold jX7_days_80
  refine V.lti (e := x6 + 1) (fun x_7 he => ?_)
  refine V.iinc (v := x_7) (L' := [(0, vR (0, 0)), (1, vI x1), (2, vI x2), (3, vI x3), (4, vI x4), (5, vI x5), (6, vI x_7)]) dX7_days_80 6 rfl he.symm (by decide) rfl rfl ?_
  refine V.goto 47 dX7_days_83 (by decide) ?_
  exact (H47 x5 x_7)

theorem thX7_days_47 (l : Launch) (G : vg) (F : Nat) (S : vs) (x1 : Int32) (x2 : Int32) (x3 : Int32) (x4 : Int32) : ∀ (n : Nat) (x5 : Int32) (x6 : Int32), V l G mX7_days none (phP S) (hX7_days_47 F S x1 x2 x3 x4 n x5 x6) 47 [(0, vR (0, 0)), (1, vI x1), (2, vI x2), (3, vI x3), (4, vI x4), (5, vI x5), (6, vI x6)] [] (enc S) 0 0
  | 0, _, _ => V.nil
  | n + 1, x5, x6 => by
    have ih := thX7_days_47 l G F S x1 x2 x3 x4 n
    rw [hX7_days_47]
    refine V.iload dX7_days_47 6 rfl ?_
    refine V.aload_n dX7_days_49 0 rfl ?_
    refine V.sgI 7 1 dX7_days_50 gf_X7_15 sh0_0 rfl rfl ?_
    refine V.icmp_ge 86 dX7_days_53 (by decide) ?_ ?_
    · refine V.aload_n dX7_days_86 0 rfl ?_
      refine V.sgR 7 6 dX7_days_87 gf_X7_46 sh0_0 rfl rfl ?_
      refine V.iload dX7_days_90 5 rfl ?_
      refine V.iload_n dX7_days_92 2 rfl ?_
      refine V.iload_n dX7_days_93 3 rfl ?_
      refine V.iload dX7_days_94 4 rfl ?_
      refine V.callV (M' := mX6_daysThatLet) (As := [vI x5, vI x2, vI x3, vI x4]) (ψ := (phP S)) dX7_days_96 ml_X7_217 mfX6_daysThatLet rfl ⟨by decide, by decide⟩ ⟨by decide, by decide⟩ (enc_at rfl sh0_5) rfl (Nat.le_of_ble_eq_true rfl) rfl (kX6_daysThatLet l G F x5 x2 x3 x4 S) (fun a_5 => ?_)
      show V l G mX7_days none (phP S) _ 99 [(0, vR (0, 0)), (1, vI x1), (2, vI x2), (3, vI x3), (4, vI x4), (5, vI x5), (6, vI x6)] [vI a_5] (enc S) 0 0
      exact V.iret rfl dX7_days_99 rfl (by decide) (by decide)
    · refine V.iload_n dX7_days_56 1 rfl ?_
      refine V.iload dX7_days_57 6 rfl ?_
      refine V.callS (M' := mX7_holds) (As := [vI x1, vI x6]) (ψ := (phP S)) dX7_days_59 ml_X7_104 mfX7_holds rfl ⟨by decide, by decide⟩ ⟨by decide, by decide⟩ (Nat.le_of_ble_eq_true rfl) rfl (kX7_holds l G F x1 x6 S) (fun a_6 => ?_)
      show V l G mX7_days none (phP S) _ 62 [(0, vR (0, 0)), (1, vI x1), (2, vI x2), (3, vI x3), (4, vI x4), (5, vI x5), (6, vI x6)] [vI a_6] (enc S) 0 0
      refine V.if_eq 80 dX7_days_62 (by decide) ?_ ?_
      · exact (tjX7_days_80 l G F x1 x2 x3 x4 x5 x6 S (hX7_days_47 F S x1 x2 x3 x4 n) ih)
      · refine V.iload dX7_days_65 5 rfl ?_
        refine V.aload_n dX7_days_67 0 rfl ?_
        refine V.sgR 7 0 dX7_days_68 gf_X7_11 sh0_0 rfl rfl ?_
        refine V.iload dX7_days_71 6 rfl ?_
        refine V.sbind fun q_8 h_9 => ?_
        refine V.saa (t := 2) dX7_days_73 rfl rfl h_9 ?_
        refine V.chk fun h_10 => ?_
        refine V.callV (M' := mX2_asked) (As := []) (ψ := (phP S)) dX7_days_74 ml_X7_214 mfX2_asked rfl ⟨by decide, by decide⟩ ⟨by decide, by decide⟩ (enc_at h_10 rfl) rfl (Nat.le_of_ble_eq_true rfl) rfl (kX2_asked l G F q_8 S) (fun a_11 => ?_)
        show V l G mX7_days none (phP S) _ 77 [(0, vR (0, 0)), (1, vI x1), (2, vI x2), (3, vI x3), (4, vI x4), (5, vI x5), (6, vI x6)] [vI a_11, vI x5] (enc S) 0 0
        refine V.ior dX7_days_77 ?_
        refine V.lett fun x_12 => ?_
        refine V.istore (L' := [(0, vR (0, 0)), (1, vI x1), (2, vI x2), (3, vI x3), (4, vI x4), (5, vI x_12), (6, vI x6)]) dX7_days_78 (by decide) rfl rfl ?_
        exact (tjX7_days_80 l G F x1 x2 x3 x4 x_12 x6 S (hX7_days_47 F S x1 x2 x3 x4 n) ih)

theorem kX7_days (l : Launch) (G : vg) (F : Nat) (x1 : Int32) (x2 : Int32) (x3 : Int32) (x4 : Int32) (S : vs) : Rt l G mX7_days none (phP S) [vR (0, 0), vI x1, vI x2, vI x3, vI x4] (enc S) (fX7_days F x1 x2 x3 x4 S) := Rt.of rfl (Nat.le_of_ble_eq_true rfl) (by
  show V l G mX7_days none (phP S) _ 0 [(0, vR (0, 0)), (1, vI x1), (2, vI x2), (3, vI x3), (4, vI x4)] [] (enc S) 0 0
  unfold fX7_days
  refine V.aload_n dX7_days_0 0 rfl ?_
  refine V.iload_n dX7_days_1 1 rfl ?_
  refine V.callV (M' := mX7_isSetOfSides) (As := [vI x1]) (ψ := (phP S)) dX7_days_2 ml_X7_121 mfX7_isSetOfSides rfl ⟨by decide, by decide⟩ ⟨by decide, by decide⟩ (enc_at rfl sh0_0) rfl (Nat.le_of_ble_eq_true rfl) rfl (kX7_isSetOfSides l G F x1 S) (fun a_1 => ?_)
  show V l G mX7_days none (phP S) _ 5 [(0, vR (0, 0)), (1, vI x1), (2, vI x2), (3, vI x3), (4, vI x4)] [vI a_1] (enc S) 0 0
  refine V.if_eq 15 dX7_days_5 (by decide) ?_ ?_
  · refine V.iconst (v := (-1)) dX7_days_15 (by decide) ?_
    exact V.iret rfl dX7_days_16 rfl (by decide) (by decide)
  · refine V.iload_n dX7_days_8 2 rfl ?_
    refine V.callS (M' := mX7_isHearer) (As := [vI x2]) (ψ := (phP S)) dX7_days_9 ml_X7_188 mfX7_isHearer rfl ⟨by decide, by decide⟩ ⟨by decide, by decide⟩ (Nat.le_of_ble_eq_true rfl) rfl (kX7_isHearer l G F x2 S) (fun a_2 => ?_)
    show V l G mX7_days none (phP S) _ 12 [(0, vR (0, 0)), (1, vI x1), (2, vI x2), (3, vI x3), (4, vI x4)] [vI a_2] (enc S) 0 0
    refine V.if_ne 17 dX7_days_12 (by decide) ?_ ?_
    · refine V.iload_n dX7_days_17 3 rfl ?_
      refine V.callS (M' := mX7_isDay) (As := [vI x3]) (ψ := (phP S)) dX7_days_18 ml_X7_194 mfX7_isDay rfl ⟨by decide, by decide⟩ ⟨by decide, by decide⟩ (Nat.le_of_ble_eq_true rfl) rfl (kX7_isDay l G F x3 S) (fun a_3 => ?_)
      show V l G mX7_days none (phP S) _ 21 [(0, vR (0, 0)), (1, vI x1), (2, vI x2), (3, vI x3), (4, vI x4)] [vI a_3] (enc S) 0 0
      refine V.if_eq 38 dX7_days_21 (by decide) ?_ ?_
      · refine V.bipush (v := (-2)) dX7_days_38 (by decide) ?_
        exact V.iret rfl dX7_days_40 rfl (by decide) (by decide)
      · refine V.iload dX7_days_24 4 rfl ?_
        refine V.callS (M' := mX7_isDay) (As := [vI x4]) (ψ := (phP S)) dX7_days_26 ml_X7_194 mfX7_isDay rfl ⟨by decide, by decide⟩ ⟨by decide, by decide⟩ (Nat.le_of_ble_eq_true rfl) rfl (kX7_isDay l G F x4 S) (fun a_4 => ?_)
        show V l G mX7_days none (phP S) _ 29 [(0, vR (0, 0)), (1, vI x1), (2, vI x2), (3, vI x3), (4, vI x4)] [vI a_4] (enc S) 0 0
        refine V.if_eq 38 dX7_days_29 (by decide) ?_ ?_
        · refine V.bipush (v := (-2)) dX7_days_38 (by decide) ?_
          exact V.iret rfl dX7_days_40 rfl (by decide) (by decide)
        · refine V.iload dX7_days_32 4 rfl ?_
          refine V.iload_n dX7_days_34 3 rfl ?_
          refine V.icmp_ge 41 dX7_days_35 (by decide) ?_ ?_
          · refine V.iconst (v := 0) dX7_days_41 (by decide) ?_
            refine V.istore (L' := [(0, vR (0, 0)), (1, vI x1), (2, vI x2), (3, vI x3), (4, vI x4), (5, vI 0)]) dX7_days_42 (by decide) rfl rfl ?_
            refine V.iconst (v := 0) dX7_days_44 (by decide) ?_
            refine V.istore (L' := [(0, vR (0, 0)), (1, vI x1), (2, vI x2), (3, vI x3), (4, vI x4), (5, vI 0), (6, vI 0)]) dX7_days_45 (by decide) rfl rfl ?_
            exact (thX7_days_47 l G F S x1 x2 x3 x4 F 0 0)
          · refine V.bipush (v := (-2)) dX7_days_38 (by decide) ?_
            exact V.iret rfl dX7_days_40 rfl (by decide) (by decide)
    · refine V.iconst (v := (-1)) dX7_days_15 (by decide) ?_
      exact V.iret rfl dX7_days_16 rfl (by decide) (by decide))

abbrev mX7_stepsUp : vmt := (yX7_stepsUp, cX7_stepsUp, 5, (some .int), { frames := 1, cells := 0, slots := 0, locals := 21 })
theorem mfX7_stepsUp : mfV mX7_stepsUp 2 := ⟨im_X7_stepsUp, se_X7_stepsUp, ini_X7, co_X7_stepsUp, by decide, by decide, by decide +kernel⟩
def hX7_stepsUp_5 (F : Nat) (S : vs) (x2 : Int32) : Nat → Int32 → Int32 → Option Int32
  | 0, _, _ => none
  | n + 1, x3, x4 => if (S.1 (0, 0) 1) ≤ x4 then some (-9) else (fX7_isSide F x3 S).bind (fun a_1 => if a_1 = 0 then some (-9) else if x3 = x2 then some x4 else (rget 2 S (0, 6) x3).bind (fun q_2 => gd (alv S.2.2 (1, q_2)) (ltt (S.1 (1, q_2) 8) (fun x_5 => ltt (x4 + 1) (fun x_6 => hX7_stepsUp_5 F S x2 n x_5 x_6)))))

def fX7_stepsUp (F : Nat) (x1 : Int32) (x2 : Int32) (S : vs) : Option Int32 := hX7_stepsUp_5 F S x2 F x1 0
theorem thX7_stepsUp_5 (l : Launch) (G : vg) (F : Nat) (S : vs) (x2 : Int32) : ∀ (n : Nat) (x3 : Int32) (x4 : Int32), V l G mX7_stepsUp none (phP S) (hX7_stepsUp_5 F S x2 n x3 x4) 5 [(0, vR (0, 0)), (2, vI x2), (3, vI x3), (4, vI x4)] [] (enc S) 0 0
  | 0, _, _ => V.nil
  | n + 1, x3, x4 => by
    have ih := thX7_stepsUp_5 l G F S x2 n
    rw [hX7_stepsUp_5]
    refine V.iload dX7_stepsUp_5 3 rfl ?_
    refine V.aload_n dX7_stepsUp_7 0 rfl ?_
    refine V.sgI 7 1 dX7_stepsUp_8 gf_X7_15 sh0_0 rfl rfl ?_
    refine V.icmp_ge 46 dX7_stepsUp_11 (by decide) ?_ ?_
    · refine V.bipush (v := (-9)) dX7_stepsUp_46 (by decide) ?_
      exact V.iret rfl dX7_stepsUp_48 rfl (by decide) (by decide)
    · refine V.aload_n dX7_stepsUp_14 0 rfl ?_
      refine V.iload_n dX7_stepsUp_15 2 rfl ?_
      refine V.callV (M' := mX7_isSide) (As := [vI x3]) (ψ := (phP S)) dX7_stepsUp_16 ml_X7_57 mfX7_isSide rfl ⟨by decide, by decide⟩ ⟨by decide, by decide⟩ (enc_at rfl sh0_0) rfl (Nat.le_of_ble_eq_true rfl) rfl (kX7_isSide l G F x3 S) (fun a_1 => ?_)
      show V l G mX7_stepsUp none (phP S) _ 19 [(0, vR (0, 0)), (2, vI x2), (3, vI x3), (4, vI x4)] [vI a_1] (enc S) 0 0
      refine V.if_eq 46 dX7_stepsUp_19 (by decide) ?_ ?_
      · refine V.bipush (v := (-9)) dX7_stepsUp_46 (by decide) ?_
        exact V.iret rfl dX7_stepsUp_48 rfl (by decide) (by decide)
      · refine V.iload_n dX7_stepsUp_22 2 rfl ?_
        refine V.iload_n dX7_stepsUp_23 1 rfl ?_
        refine V.icmp_ne 30 dX7_stepsUp_24 (by decide) ?_ ?_
        · refine V.aload_n dX7_stepsUp_30 0 rfl ?_
          refine V.sgR 7 0 dX7_stepsUp_31 gf_X7_11 sh0_0 rfl rfl ?_
          refine V.iload_n dX7_stepsUp_34 2 rfl ?_
          refine V.sbind fun q_2 h_3 => ?_
          refine V.saa (t := 2) dX7_stepsUp_35 rfl rfl h_3 ?_
          refine V.chk fun h_4 => ?_
          refine V.sgI 2 8 dX7_stepsUp_36 gf_X7_85 rfl rfl h_4 ?_
          refine V.lett fun x_5 => ?_
          refine V.istore_n (L' := [(0, vR (0, 0)), (2, vI x2), (3, vI x_5), (4, vI x4)]) dX7_stepsUp_39 (by decide) rfl rfl ?_
          refine V.lti (e := x4 + 1) (fun x_6 he => ?_)
          refine V.iinc (v := x_6) (L' := [(0, vR (0, 0)), (2, vI x2), (3, vI x_5), (4, vI x_6)]) dX7_stepsUp_40 3 rfl he.symm (by decide) rfl rfl ?_
          refine V.goto 5 dX7_stepsUp_43 (by decide) ?_
          exact (ih x_5 x_6)
        · refine V.iload dX7_stepsUp_27 3 rfl ?_
          exact V.iret rfl dX7_stepsUp_29 rfl (by decide) (by decide)

theorem kX7_stepsUp (l : Launch) (G : vg) (F : Nat) (x1 : Int32) (x2 : Int32) (S : vs) : Rt l G mX7_stepsUp none (phP S) [vR (0, 0), vI x1, vI x2] (enc S) (fX7_stepsUp F x1 x2 S) := Rt.of rfl (Nat.le_of_ble_eq_true rfl) (by
  show V l G mX7_stepsUp none (phP S) _ 0 [(0, vR (0, 0)), (1, vI x1), (2, vI x2)] [] (enc S) 0 0
  unfold fX7_stepsUp
  refine V.iload_n dX7_stepsUp_0 1 rfl ?_
  refine V.istore_n (L' := [(0, vR (0, 0)), (1, vI x1), (2, vI x2), (3, vI x1)]) dX7_stepsUp_1 (by decide) rfl rfl ?_
  refine V.iconst (v := 0) dX7_stepsUp_2 (by decide) ?_
  refine V.istore (L' := [(0, vR (0, 0)), (1, vI x1), (2, vI x2), (3, vI x1), (4, vI 0)]) dX7_stepsUp_3 (by decide) rfl rfl ?_
  exact V.lsub [0, 2, 3, 4] rfl (thX7_stepsUp_5 l G F S x2 F x1 0))

abbrev mX7_copy : vmt := (yX7_copy, cX7_copy, 4, (some .int), { frames := 2, cells := 0, slots := 0, locals := 45 })
theorem mfX7_copy : mfV mX7_copy 2 := ⟨im_X7_copy, se_X7_copy, ini_X7, co_X7_copy, by decide, by decide, by decide +kernel⟩
def jX7_copy_24 (F : Nat) (x1 : Int32) (x2 : Int32) (S : vs) : Option (Int32 × vs) := (fX7_stepsUp F x2 x1 S).bind (fun a_2 => if a_2 = (-9) then (rget 2 S (0, 6) x1).bind (fun q_3 => gd (alv S.2.2 (1, q_3)) (ltt (S.1 (1, q_3) 8) (fun x_6 => stp (s2 S (1, q_3) 8 x2) (fun S_7 => some (x_6, S_7))))) else some ((-3), S))

def fX7_copy (F : Nat) (x1 : Int32) (x2 : Int32) (S : vs) : Option (Int32 × vs) := (fX7_isSide F x1 S).bind (fun a_1 => if a_1 = 0 then some ((-1), S) else if x2 = (-9) then jX7_copy_24 F x1 x2 S else (fX7_isSide F x2 S).bind (fun a_8 => if a_8 = 0 then some ((-1), S) else jX7_copy_24 F x1 x2 S))
theorem tjX7_copy_24 (l : Launch) (G : vg) (F : Nat) (x1 : Int32) (x2 : Int32) (S : vs) : V l G mX7_copy none phI (jX7_copy_24 F x1 x2 S) 24 [(0, vR (0, 0)), (1, vI x1), (2, vI x2)] [] (enc S) 0 0 := by
  unfold jX7_copy_24
  refine V.aload_n dX7_copy_24 0 rfl ?_
  refine V.iload_n dX7_copy_25 2 rfl ?_
  refine V.iload_n dX7_copy_26 1 rfl ?_
  refine V.callV (M' := mX7_stepsUp) (As := [vI x2, vI x1]) (ψ := (phP S)) dX7_copy_27 ml_X7_220 mfX7_stepsUp rfl ⟨by decide, by decide⟩ ⟨by decide, by decide⟩ (enc_at rfl sh0_0) rfl (Nat.le_of_ble_eq_true rfl) rfl (kX7_stepsUp l G F x2 x1 S) (fun a_2 => ?_)
  show V l G mX7_copy none phI _ 30 [(0, vR (0, 0)), (1, vI x1), (2, vI x2)] [vI a_2] (enc S) 0 0
  refine V.bipush (v := (-9)) dX7_copy_30 (by decide) ?_
  refine V.icmp_eq 38 dX7_copy_32 (by decide) ?_ ?_
  · refine V.aload_n dX7_copy_38 0 rfl ?_
    refine V.sgR 7 0 dX7_copy_39 gf_X7_11 sh0_0 rfl rfl ?_
    refine V.iload_n dX7_copy_42 1 rfl ?_
    refine V.sbind fun q_3 h_4 => ?_
    refine V.saa (t := 2) dX7_copy_43 rfl rfl h_4 ?_
    refine V.chk fun h_5 => ?_
    refine V.sgI 2 8 dX7_copy_44 gf_X7_85 rfl rfl h_5 ?_
    refine V.lett fun x_6 => ?_
    refine V.istore_n (L' := [(0, vR (0, 0)), (1, vI x1), (2, vI x2), (3, vI x_6)]) dX7_copy_47 (by decide) rfl rfl ?_
    refine V.aload_n dX7_copy_48 0 rfl ?_
    refine V.sgR 7 0 dX7_copy_49 gf_X7_11 sh0_0 rfl rfl ?_
    refine V.iload_n dX7_copy_52 1 rfl ?_
    refine V.saa (t := 2) dX7_copy_53 rfl rfl h_4 ?_
    refine V.iload_n dX7_copy_54 2 rfl ?_
    refine V.spI 2 8 dX7_copy_55 pf_X7_85 rfl rfl h_5 ?_
    refine V.sst fun S_7 => ?_
    refine V.iload_n dX7_copy_58 3 rfl ?_
    exact V.iret rfl dX7_copy_59 rfl (by decide) (by decide)
  · refine V.bipush (v := (-3)) dX7_copy_35 (by decide) ?_
    exact V.iret rfl dX7_copy_37 rfl (by decide) (by decide)

theorem kX7_copy (l : Launch) (G : vg) (F : Nat) (x1 : Int32) (x2 : Int32) (S : vs) : Rt l G mX7_copy none phI [vR (0, 0), vI x1, vI x2] (enc S) (fX7_copy F x1 x2 S) := Rt.of rfl (Nat.le_of_ble_eq_true rfl) (by
  show V l G mX7_copy none phI _ 0 [(0, vR (0, 0)), (1, vI x1), (2, vI x2)] [] (enc S) 0 0
  unfold fX7_copy
  refine V.aload_n dX7_copy_0 0 rfl ?_
  refine V.iload_n dX7_copy_1 1 rfl ?_
  refine V.callV (M' := mX7_isSide) (As := [vI x1]) (ψ := (phP S)) dX7_copy_2 ml_X7_57 mfX7_isSide rfl ⟨by decide, by decide⟩ ⟨by decide, by decide⟩ (enc_at rfl sh0_0) rfl (Nat.le_of_ble_eq_true rfl) rfl (kX7_isSide l G F x1 S) (fun a_1 => ?_)
  show V l G mX7_copy none phI _ 5 [(0, vR (0, 0)), (1, vI x1), (2, vI x2)] [vI a_1] (enc S) 0 0
  refine V.if_eq 22 dX7_copy_5 (by decide) ?_ ?_
  · refine V.iconst (v := (-1)) dX7_copy_22 (by decide) ?_
    exact V.iret rfl dX7_copy_23 rfl (by decide) (by decide)
  · refine V.iload_n dX7_copy_8 2 rfl ?_
    refine V.bipush (v := (-9)) dX7_copy_9 (by decide) ?_
    refine V.icmp_eq 24 dX7_copy_11 (by decide) ?_ ?_
    · exact (tjX7_copy_24 l G F x1 x2 S)
    · refine V.aload_n dX7_copy_14 0 rfl ?_
      refine V.iload_n dX7_copy_15 2 rfl ?_
      refine V.callV (M' := mX7_isSide) (As := [vI x2]) (ψ := (phP S)) dX7_copy_16 ml_X7_57 mfX7_isSide rfl ⟨by decide, by decide⟩ ⟨by decide, by decide⟩ (enc_at rfl sh0_0) rfl (Nat.le_of_ble_eq_true rfl) rfl (kX7_isSide l G F x2 S) (fun a_8 => ?_)
      show V l G mX7_copy none phI _ 19 [(0, vR (0, 0)), (1, vI x1), (2, vI x2)] [vI a_8] (enc S) 0 0
      refine V.if_ne 24 dX7_copy_19 (by decide) ?_ ?_
      · exact (tjX7_copy_24 l G F x1 x2 S)
      · refine V.iconst (v := (-1)) dX7_copy_22 (by decide) ?_
        exact V.iret rfl dX7_copy_23 rfl (by decide) (by decide))

abbrev mX7_copies : vmt := (yX7_copies, cX7_copies, 4, (some .int), { frames := 2, cells := 0, slots := 0, locals := 45 })
theorem mfX7_copies : mfV mX7_copies 1 := ⟨im_X7_copies, se_X7_copies, ini_X7, co_X7_copies, by decide, by decide, by decide +kernel⟩
def jX7_copies_39 (k14 : Int32 → Int32 → Option Int32) (F : Nat) (x1 : Int32) (x2 : Int32) (x3 : Int32) (S : vs) : Option Int32 := ltt (x3 + 1) (fun x_3 => k14 x2 x_3)

def hX7_copies_14 (F : Nat) (S : vs) (x1 : Int32) : Nat → Int32 → Int32 → Option Int32
  | 0, _, _ => none
  | n + 1, x2, x3 => if (S.1 (0, 0) 1) ≤ x3 then some x2 else (fX7_stepsUp F x3 x1 S).bind (fun a_2 => if a_2 = (-9) then jX7_copies_39 (hX7_copies_14 F S x1 n) F x1 x2 x3 S else ltt (x2 ||| ((1 : Int32) <<< (x3 &&& 31))) (fun x_4 => jX7_copies_39 (hX7_copies_14 F S x1 n) F x1 x_4 x3 S))

def fX7_copies (F : Nat) (x1 : Int32) (S : vs) : Option Int32 := (fX7_isSide F x1 S).bind (fun a_1 => if a_1 = 0 then some (-1) else hX7_copies_14 F S x1 F 0 0)
theorem tjX7_copies_39 (l : Launch) (G : vg) (F : Nat) (x1 : Int32) (x2 : Int32) (x3 : Int32) (S : vs) (k14 : Int32 → Int32 → Option Int32) (H14 : ∀ (z2 : Int32), ∀ (z3 : Int32), V l G mX7_copies none (phP S) (k14 z2 z3) 14 [(0, vR (0, 0)), (1, vI x1), (2, vI z2), (3, vI z3)] [] (enc S) 0 0) : V l G mX7_copies none (phP S) (jX7_copies_39 k14 F x1 x2 x3 S) 39 [(0, vR (0, 0)), (1, vI x1), (2, vI x2), (3, vI x3)] [] (enc S) 0 0 := by
  unfold jX7_copies_39
  refine V.lti (e := x3 + 1) (fun x_3 he => ?_)
  refine V.iinc (v := x_3) (L' := [(0, vR (0, 0)), (1, vI x1), (2, vI x2), (3, vI x_3)]) dX7_copies_39 3 rfl he.symm (by decide) rfl rfl ?_
  refine V.goto 14 dX7_copies_42 (by decide) ?_
  exact (H14 x2 x_3)

theorem thX7_copies_14 (l : Launch) (G : vg) (F : Nat) (S : vs) (x1 : Int32) : ∀ (n : Nat) (x2 : Int32) (x3 : Int32), V l G mX7_copies none (phP S) (hX7_copies_14 F S x1 n x2 x3) 14 [(0, vR (0, 0)), (1, vI x1), (2, vI x2), (3, vI x3)] [] (enc S) 0 0
  | 0, _, _ => V.nil
  | n + 1, x2, x3 => by
    have ih := thX7_copies_14 l G F S x1 n
    rw [hX7_copies_14]
    refine V.iload_n dX7_copies_14 3 rfl ?_
    refine V.aload_n dX7_copies_15 0 rfl ?_
    refine V.sgI 7 1 dX7_copies_16 gf_X7_15 sh0_0 rfl rfl ?_
    refine V.icmp_ge 45 dX7_copies_19 (by decide) ?_ ?_
    · refine V.iload_n dX7_copies_45 2 rfl ?_
      exact V.iret rfl dX7_copies_46 rfl (by decide) (by decide)
    · refine V.aload_n dX7_copies_22 0 rfl ?_
      refine V.iload_n dX7_copies_23 3 rfl ?_
      refine V.iload_n dX7_copies_24 1 rfl ?_
      refine V.callV (M' := mX7_stepsUp) (As := [vI x3, vI x1]) (ψ := (phP S)) dX7_copies_25 ml_X7_220 mfX7_stepsUp rfl ⟨by decide, by decide⟩ ⟨by decide, by decide⟩ (enc_at rfl sh0_0) rfl (Nat.le_of_ble_eq_true rfl) rfl (kX7_stepsUp l G F x3 x1 S) (fun a_2 => ?_)
      show V l G mX7_copies none (phP S) _ 28 [(0, vR (0, 0)), (1, vI x1), (2, vI x2), (3, vI x3)] [vI a_2] (enc S) 0 0
      refine V.bipush (v := (-9)) dX7_copies_28 (by decide) ?_
      refine V.icmp_eq 39 dX7_copies_30 (by decide) ?_ ?_
      · exact (tjX7_copies_39 l G F x1 x2 x3 S (hX7_copies_14 F S x1 n) ih)
      · refine V.iload_n dX7_copies_33 2 rfl ?_
        refine V.iconst (v := 1) dX7_copies_34 (by decide) ?_
        refine V.iload_n dX7_copies_35 3 rfl ?_
        refine V.ishl dX7_copies_36 ?_
        refine V.ior dX7_copies_37 ?_
        refine V.lett fun x_4 => ?_
        refine V.istore_n (L' := [(0, vR (0, 0)), (1, vI x1), (2, vI x_4), (3, vI x3)]) dX7_copies_38 (by decide) rfl rfl ?_
        exact (tjX7_copies_39 l G F x1 x_4 x3 S (hX7_copies_14 F S x1 n) ih)

theorem kX7_copies (l : Launch) (G : vg) (F : Nat) (x1 : Int32) (S : vs) : Rt l G mX7_copies none (phP S) [vR (0, 0), vI x1] (enc S) (fX7_copies F x1 S) := Rt.of rfl (Nat.le_of_ble_eq_true rfl) (by
  show V l G mX7_copies none (phP S) _ 0 [(0, vR (0, 0)), (1, vI x1)] [] (enc S) 0 0
  unfold fX7_copies
  refine V.aload_n dX7_copies_0 0 rfl ?_
  refine V.iload_n dX7_copies_1 1 rfl ?_
  refine V.callV (M' := mX7_isSide) (As := [vI x1]) (ψ := (phP S)) dX7_copies_2 ml_X7_57 mfX7_isSide rfl ⟨by decide, by decide⟩ ⟨by decide, by decide⟩ (enc_at rfl sh0_0) rfl (Nat.le_of_ble_eq_true rfl) rfl (kX7_isSide l G F x1 S) (fun a_1 => ?_)
  show V l G mX7_copies none (phP S) _ 5 [(0, vR (0, 0)), (1, vI x1)] [vI a_1] (enc S) 0 0
  refine V.if_ne 10 dX7_copies_5 (by decide) ?_ ?_
  · refine V.iconst (v := 0) dX7_copies_10 (by decide) ?_
    refine V.istore_n (L' := [(0, vR (0, 0)), (1, vI x1), (2, vI 0)]) dX7_copies_11 (by decide) rfl rfl ?_
    refine V.iconst (v := 0) dX7_copies_12 (by decide) ?_
    refine V.istore_n (L' := [(0, vR (0, 0)), (1, vI x1), (2, vI 0), (3, vI 0)]) dX7_copies_13 (by decide) rfl rfl ?_
    exact (thX7_copies_14 l G F S x1 F 0 0)
  · refine V.iconst (v := (-1)) dX7_copies_8 (by decide) ?_
    exact V.iret rfl dX7_copies_9 rfl (by decide) (by decide))

