theorem inTbl1 {w : Cond} {i : Nat} (h : tables_1_1[i]? = some w) : w ∈ lw_tbl := List.mem_append_right _ (List.mem_append_left _ (List.mem_of_getElem? h))
theorem inTbl2 {w : Cond} {i : Nat} (h : tables_1_2[i]? = some w) : w ∈ lw_tbl := List.mem_append_right _ (List.mem_append_right _ (List.mem_append_left _ (List.mem_of_getElem? h)))
theorem inTbl4 {w : Cond} {i : Nat} (h : tables_1_4[i]? = some w) : w ∈ lw_tbl := List.mem_append_right _ (List.mem_append_right _ (List.mem_append_right _ (List.mem_append_right _ (List.mem_append_left _ (List.mem_of_getElem? h)))))
set_option maxHeartbeats 4000000 in
set_option maxRecDepth 100000 in
/-- THE LAW, from its entry, over an invariant that every turn keeps -/
theorem whole_start_open {p : Program} {e : Env} {s : State} {m : MethodId} {below : List Frame} {meth : Method} {c : Code} (l : Launch) {b L : Nat} {xs : Nat → Int32} (hL : L ≤ 3072) (C0 : lw_At p s m meth c b L xs) (F : Nat) (Inv : vs → Prop) (HA : StAll F Inv) (H0 : Inv S0) : W p l e room_1 s m #[Value.ref b] below meth c s.heap [] 0 0 (lw_Z below #[Value.ref b] s) (entryFrame m ([Value.ref b] : List Value).toArray 4) := by
  obtain ⟨hx, hb, hr, hml, hown, hts, hX, hbl, hlocks, hgv⟩ := id C0
  have htg : ∀ w ∈ wsG, w.before #[Value.ref b] s = true := fun w hw => hts w (List.mem_filter.mp hw).1
  obtain ⟨c0, i0, k0⟩ := u_known (C := RX0) (T := TX0) (N := 12) (n := 12) htg inX0 (htg _ ins_X0)
  obtain ⟨c1, i1, k1⟩ := u_known (C := RX1) (T := TX1) (N := 6) (n := 6) htg inX1 (htg _ ins_X1)
  obtain ⟨c2, i2, k2⟩ := u_known (C := RX2) (T := TX2) (N := 11) (n := 11) htg inX2 (htg _ ins_X2)
  obtain ⟨c3, i3, k3⟩ := u_known (C := RX3) (T := TX3) (N := 5) (n := 5) htg inX3 (htg _ ins_X3)
  obtain ⟨c4, i4, k4⟩ := u_known (C := RX4) (T := TX4) (N := 2) (n := 2) htg inX4 (htg _ ins_X4)
  obtain ⟨c5, i5, k5⟩ := u_known (C := RX5) (T := TX5) (N := 5) (n := 5) htg inX5 (htg _ ins_X5)
  obtain ⟨c6, i6, k6⟩ := u_known (C := RX6) (T := TX6) (N := 2) (n := 2) htg inX6 (htg _ ins_X6)
  obtain ⟨c7, i7, k7⟩ := u_known (C := RX7) (T := TX7) (N := 7) (n := 7) htg inX7 (htg _ ins_X7)
  obtain ⟨c8, i8, k8⟩ := u_known (C := RX8) (T := TX8) (N := 37) (n := 37) htg inX8 (htg _ ins_X8)
  have wSide : (Cond.arrayOver (.object RX2)).before #[Value.ref b] s = true := hts _ (inTbl1 (i := 22) rfl)
  have wII : (Cond.arrayOver (.array .int)).before #[Value.ref b] s = true := hts _ (inTbl1 (i := 30) rfl)
  have wSign : (Cond.arrayOver (.object RX3)).before #[Value.ref b] s = true := hts _ (inTbl1 (i := 76) rfl)
  have wText : (Cond.arrayOver (.object RX5)).before #[Value.ref b] s = true := hts _ (inTbl1 (i := 118) rfl)
  have wNest : (Cond.methodLinkNest RX1 52 yX7_holds RX7).before #[Value.ref b] s = true := hts _ (inTbl2 (i := 213) rfl)
  obtain ⟨aI, kI, pI, nI1, nI2, nI3⟩ := Cond.arrayClass_spec (htg _ ac_int)
  obtain ⟨aZ, kZ, pZ, nZ1, nZ2, nZ3⟩ := Cond.arrayClass_spec (htg _ ac_boolean)
  obtain ⟨pS, aS, kS, nS1, nS2, nS3, nS4, nS5⟩ := Cond.arrayOver_spec wSide
  obtain ⟨pG, aG, kG, nG1, nG2, nG3, nG4, nG5⟩ := Cond.arrayOver_spec wSign
  obtain ⟨pT, aT, kT, nT1, nT2, nT3, nT4, nT5⟩ := Cond.arrayOver_spec wText
  obtain ⟨pM, aM, kM, nM1, nM2, nM3, nM4, nM5⟩ := Jvm.Stand.arrayOver_specB wII
  obtain ⟨dC, dI, hKc⟩ : ∃ (dC : Nat → ClassId) (dI : Nat → Nat → Nat), ∀ (k : Nat) (q : vw_C), vwCl[k]? = some q → u_Kn s q.1 q.2.1 q.2.2 (dC k) (dI k) := by
    refine ⟨fun k => if k = 0 then c0 else if k = 1 then c1 else if k = 2 then c2 else if k = 3 then c3 else if k = 4 then c4 else if k = 5 then c5 else if k = 6 then c6 else if k = 7 then c7 else c8, fun k => if k = 0 then i0 else if k = 1 then i1 else if k = 2 then i2 else if k = 3 then i3 else if k = 4 then i4 else if k = 5 then i5 else if k = 6 then i6 else if k = 7 then i7 else i8, ?_⟩
    intro k q hq
    match k, hq with
    | 0, hq => cases hq; exact k0
    | 1, hq => cases hq; exact k1
    | 2, hq => cases hq; exact k2
    | 3, hq => cases hq; exact k3
    | 4, hq => cases hq; exact k4
    | 5, hq => cases hq; exact k5
    | 6, hq => cases hq; exact k6
    | 7, hq => cases hq; exact k7
    | 8, hq => cases hq; exact k8
    | k + 9, hq => simp [vwCl] at hq
  obtain ⟨ar, h0, h1, h2, h3, h4, h5⟩ : ∃ ar : Nat → ClassId, ar 0 = aI ∧ ar 1 = aZ ∧ ar 2 = aS ∧ ar 3 = aG ∧ ar 4 = aT ∧ ar 5 = aM := ⟨fun t => if t = 0 then aI else if t = 1 then aZ else if t = 2 then aS else if t = 3 then aG else if t = 4 then aT else aM, rfl, rfl, rfl, rfl, rfl, rfl⟩
  have hK : Kk ((dC, dI), ar, s.heap.size) s := by
    refine ⟨⟨hKc, fun k q hq => ?_⟩, va_Nw.of rfl wNest, va_AO.of wSide, va_AO.of wSign, va_AO.of wText, Jvm.Stand.arrayOver_alikeB (Vm.Alike.refl s.vm) wII⟩
    match k, hq with
    | 0, hq => cases hq; show ArrOfT s (ar 0) .int ∧ va_RA s (ar 0) .int; rw [h0]; exact ⟨fun N z => ⟨fun k h => (by cases h), kI, nI2, pI, nI3⟩, nI1⟩
    | 1, hq => cases hq; show ArrOfT s (ar 1) .boolean ∧ va_RA s (ar 1) .boolean; rw [h1]; exact ⟨fun N z => ⟨fun k h => (by cases h), kZ, nZ2, pZ, nZ3⟩, nZ1⟩
    | 2, hq => cases hq; show ArrOfT s (ar 2) (.object RX2) ∧ va_RA s (ar 2) (.object RX2); rw [h2]; exact ⟨fun N z => ⟨fun k h => (by cases h), kS, nS3, pS, nS4⟩, kS, pS, nS3, nS4, nS1, nS5⟩
    | 3, hq => cases hq; show ArrOfT s (ar 3) (.object RX3) ∧ va_RA s (ar 3) (.object RX3); rw [h3]; exact ⟨fun N z => ⟨fun k h => (by cases h), kG, nG3, pG, nG4⟩, kG, pG, nG3, nG4, nG1, nG5⟩
    | 4, hq => cases hq; show ArrOfT s (ar 4) (.object RX5) ∧ va_RA s (ar 4) (.object RX5); rw [h4]; exact ⟨fun N z => ⟨fun k h => (by cases h), kT, nT3, pT, nT4⟩, kT, pT, nT3, nT4, nT1, nT5⟩
    | 5, hq => cases hq; show ArrOfT s (ar 5) (.array .int) ∧ va_RA s (ar 5) (.array .int); rw [h5]; exact ⟨fun N z => ⟨fun k h => (by cases h), kM, nM3, pM, nM4⟩, nM5⟩
    | k + 6, hq => simp at hq
  generalize hG : (((dC, dI), ar, s.heap.size) : vg) = G at hK
  have hGs : G.2.2 = s.heap.size := by rw [← hG]
  have St : LSt G p s m meth c b L xs := ⟨hx, hb, hr, hml, hown, htg, hX, hbl, hlocks, hK, hGs, hL⟩
  have K : LW p l e s m below meth c b G 0 [] [] wd_0 0 0 := by
    refine LW.nO St (0, 0) (ci := 7) tyX7 [.inr none, .inl 0, .inl 0, .inr none, .inr none, .inr none, .inr none] dL_law_0 cl_L_7 ins_X7 ini_X7 rfl inX7 tyX7_ok (fun j hj al => by match j, hj with | 0, _ => rfl | 1, _ => rfl | 2, _ => rfl | 3, _ => rfl | 4, _ => rfl | 5, _ => rfl | 6, _ => rfl | j + 7, hj => omega) rfl rfl rfl rfl (by decide) (by decide) ?_
    show LW p l e s m below meth c b G 3 [] [vR (0, 0)] wd_1 1 7
    refine LW.dup St dL_law_3 rfl ?_
    refine LW.cIa St (M' := mX7_init) (wf := wd_51) dL_law_4 ml_L_9 mfX7_init ⟨by decide, by decide⟩ ⟨by decide, by decide⟩ (Nat.le_of_ble_eq_true rfl) rfl rfl (kX7_init l G) ?_
    show LW p l e s m below meth c b G 7 [] [vR (0, 0)] wd_51 28 2412
    refine LW.st1 St dL_law_7 ?_
    refine LW.nO St (0, 1) (ci := 8) tyX8 [.inl 0, .inl 0, .inl 0, .inr none, .inr none, .inr none, .inr none, .inr none, .inr none, .inr none, .inr none, .inr none, .inr none, .inr none, .inl 0, .inr none, .inr none, .inr none, .inr none, .inr none, .inl 0, .inl 0, .inr none, .inr none, .inl 0, .inr none, .inr none, .inr none, .inr none, .inr none, .inl 0, .inr none, .inr none, .inl 0, .inr none, .inr none, .inr none] dL_law_8 cl_L_10 ins_X8 ini_X8 rfl inX8 tyX8_ok (fun j hj al => by match j, hj with | 0, _ => rfl | 1, _ => rfl | 2, _ => rfl | 3, _ => rfl | 4, _ => rfl | 5, _ => rfl | 6, _ => rfl | 7, _ => rfl | 8, _ => rfl | 9, _ => rfl | 10, _ => rfl | 11, _ => rfl | 12, _ => rfl | 13, _ => rfl | 14, _ => rfl | 15, _ => rfl | 16, _ => rfl | 17, _ => rfl | 18, _ => rfl | 19, _ => rfl | 20, _ => rfl | 21, _ => rfl | 22, _ => rfl | 23, _ => rfl | 24, _ => rfl | 25, _ => rfl | 26, _ => rfl | 27, _ => rfl | 28, _ => rfl | 29, _ => rfl | 30, _ => rfl | 31, _ => rfl | 32, _ => rfl | 33, _ => rfl | 34, _ => rfl | 35, _ => rfl | 36, _ => rfl | j + 37, hj => omega) rfl rfl rfl rfl (by decide) (by decide) ?_
    show LW p l e s m below meth c b G 11 [(1, vR (0, 0))] [vR (0, 1)] wd_52 29 2449
    refine LW.dup St dL_law_11 rfl ?_
    refine LW.cIa St (M' := mX8_init) (wf := wd_108) dL_law_12 ml_L_12 mfX8_init ⟨by decide, by decide⟩ ⟨by decide, by decide⟩ (Nat.le_of_ble_eq_true rfl) rfl rfl (kX8_init l G) ?_
    show LW p l e s m below meth c b G 15 [(1, vR (0, 0))] [vR (0, 1)] wd_108 57 5046
    refine LW.st2 St dL_law_15 ?_
    refine LW.iconst (v := 0) St dL_law_16 (by decide) ?_
    refine LW.st3 St dL_law_17 ?_
    have h := law_loop (below := below) (l := l) (e := e) St F Inv HA L 0 0 S0 H0 (by omega) (by omega) rfl
    exact fun al H locs ls hH hS hl => h al H locs ls (Hol0 hH) hS hl
  have hl := lv_entry ([.ref b]) (n := 4) (Nat.le_of_ble_eq_true rfl)
  rw [lg_entry_eq]
  exact K (fun _ => 0) s.heap [] _ ⟨fun _ _ h => (by cases h), fun _ _ _ _ h => (by cases h), fun _ _ h => (by cases h), fun _ _ _ h => (by cases h)⟩ va_S.rf hl
