theorem w0_1000 {F : Nat} {x : Int32} {S : vs} : fX7_within F x 0 1000 S = some (b01 (wi 0 1000 x)) := wi_eq 0 1000 rfl rfl
theorem i0_1000 {F : Nat} {x : Int32} {S : vs} : fX8_in F x.toInt64 0 1000 S = some (b01 (wi 0 1000 x)) := in_eq 0 1000 rfl rfl
theorem w0_100 {F : Nat} {x : Int32} {S : vs} : fX7_within F x 0 100 S = some (b01 (wi 0 100 x)) := wi_eq 0 100 rfl rfl
theorem i0_100 {F : Nat} {x : Int32} {S : vs} : fX8_in F x.toInt64 0 100 S = some (b01 (wi 0 100 x)) := in_eq 0 100 rfl rfl
theorem w1_1000 {F : Nat} {x : Int32} {S : vs} : fX7_within F x 1 1000 S = some (b01 (wi 1 1000 x)) := wi_eq 1 1000 rfl rfl
theorem i1_1000 {F : Nat} {x : Int32} {S : vs} : fX8_in F x.toInt64 1 1000 S = some (b01 (wi 1 1000 x)) := in_eq 1 1000 rfl rfl
theorem w1_100 {F : Nat} {x : Int32} {S : vs} : fX7_within F x 1 100 S = some (b01 (wi 1 100 x)) := wi_eq 1 100 rfl rfl
theorem i1_100 {F : Nat} {x : Int32} {S : vs} : fX8_in F x.toInt64 1 100 S = some (b01 (wi 1 100 x)) := in_eq 1 100 rfl rfl
theorem w1_3 {F : Nat} {x : Int32} {S : vs} : fX7_within F x 1 3 S = some (b01 (wi 1 3 x)) := wi_eq 1 3 rfl rfl
theorem i1_3 {F : Nat} {x : Int32} {S : vs} : fX8_in F x.toInt64 1 3 S = some (b01 (wi 1 3 x)) := in_eq 1 3 rfl rfl
theorem w0_3000 {F : Nat} {x : Int32} {S : vs} : fX7_within F x 0 3000 S = some (b01 (wi 0 3000 x)) := wi_eq 0 3000 rfl rfl
theorem i0_3000 {F : Nat} {x : Int32} {S : vs} : fX8_in F x.toInt64 0 3000 S = some (b01 (wi 0 3000 x)) := in_eq 0 3000 rfl rfl
theorem w0_600000 {F : Nat} {x : Int32} {S : vs} : fX7_within F x 0 600000 S = some (b01 (wi 0 600000 x)) := wi_eq 0 600000 rfl rfl
theorem i0_600000 {F : Nat} {x : Int32} {S : vs} : fX8_in F x.toInt64 0 600000 S = some (b01 (wi 0 600000 x)) := in_eq 0 600000 rfl rfl
theorem w1_30000 {F : Nat} {x : Int32} {S : vs} : fX7_within F x 1 30000 S = some (b01 (wi 1 30000 x)) := wi_eq 1 30000 rfl rfl
theorem i1_30000 {F : Nat} {x : Int32} {S : vs} : fX8_in F x.toInt64 1 30000 S = some (b01 (wi 1 30000 x)) := in_eq 1 30000 rfl rfl
theorem w1_9 {F : Nat} {x : Int32} {S : vs} : fX7_within F x 1 9 S = some (b01 (wi 1 9 x)) := wi_eq 1 9 rfl rfl
theorem i1_9 {F : Nat} {x : Int32} {S : vs} : fX8_in F x.toInt64 1 9 S = some (b01 (wi 1 9 x)) := in_eq 1 9 rfl rfl
theorem w0_99 {F : Nat} {x : Int32} {S : vs} : fX7_within F x 0 99 S = some (b01 (wi 0 99 x)) := wi_eq 0 99 rfl rfl
theorem i0_99 {F : Nat} {x : Int32} {S : vs} : fX8_in F x.toInt64 0 99 S = some (b01 (wi 0 99 x)) := in_eq 0 99 rfl rfl
theorem w0_255 {F : Nat} {x : Int32} {S : vs} : fX7_within F x 0 255 S = some (b01 (wi 0 255 x)) := wi_eq 0 255 rfl rfl
theorem i0_255 {F : Nat} {x : Int32} {S : vs} : fX8_in F x.toInt64 0 255 S = some (b01 (wi 0 255 x)) := in_eq 0 255 rfl rfl
theorem w0_3 {F : Nat} {x : Int32} {S : vs} : fX7_within F x 0 3 S = some (b01 (wi 0 3 x)) := wi_eq 0 3 rfl rfl
theorem i0_3 {F : Nat} {x : Int32} {S : vs} : fX8_in F x.toInt64 0 3 S = some (b01 (wi 0 3 x)) := in_eq 0 3 rfl rfl
theorem w0_7 {F : Nat} {x : Int32} {S : vs} : fX7_within F x 0 7 S = some (b01 (wi 0 7 x)) := wi_eq 0 7 rfl rfl
theorem i0_7 {F : Nat} {x : Int32} {S : vs} : fX8_in F x.toInt64 0 7 S = some (b01 (wi 0 7 x)) := in_eq 0 7 rfl rfl
theorem w0_5 {F : Nat} {x : Int32} {S : vs} : fX7_within F x 0 5 S = some (b01 (wi 0 5 x)) := wi_eq 0 5 rfl rfl
theorem i0_5 {F : Nat} {x : Int32} {S : vs} : fX8_in F x.toInt64 0 5 S = some (b01 (wi 0 5 x)) := in_eq 0 5 rfl rfl
theorem w0_9999 {F : Nat} {x : Int32} {S : vs} : fX7_within F x 0 9999 S = some (b01 (wi 0 9999 x)) := wi_eq 0 9999 rfl rfl
theorem i0_9999 {F : Nat} {x : Int32} {S : vs} : fX8_in F x.toInt64 0 9999 S = some (b01 (wi 0 9999 x)) := in_eq 0 9999 rfl rfl
theorem al23 (d : Nat × Nat × Nat) : alen 0 d (0, 23) = 16 := al0 23 16 d rfl
theorem al24 (d : Nat × Nat × Nat) : alen 0 d (0, 24) = 16 := al0 24 16 d rfl
theorem al25 (d : Nat × Nat × Nat) : alen 0 d (0, 25) = 16 := al0 25 16 d rfl
theorem al26 (d : Nat × Nat × Nat) : alen 0 d (0, 26) = 16 := al0 26 16 d rfl
theorem al27 (d : Nat × Nat × Nat) : alen 0 d (0, 27) = 16 := al0 27 16 d rfl
theorem al28 (d : Nat × Nat × Nat) : alen 0 d (0, 28) = 16 := al0 28 16 d rfl
theorem al29 (d : Nat × Nat × Nat) : alen 0 d (0, 29) = 16 := al0 29 16 d rfl
theorem al30 (d : Nat × Nat × Nat) : alen 0 d (0, 30) = 16 := al0 30 16 d rfl
theorem al31 (d : Nat × Nat × Nat) : alen 0 d (0, 31) = 16 := al0 31 16 d rfl
theorem al32 (d : Nat × Nat × Nat) : alen 0 d (0, 32) = 16 := al0 32 16 d rfl
theorem al33 (d : Nat × Nat × Nat) : alen 0 d (0, 33) = 16 := al0 33 16 d rfl
theorem al34 (d : Nat × Nat × Nat) : alen 0 d (0, 34) = 60 := al0 34 60 d rfl
theorem al35 (d : Nat × Nat × Nat) : alen 0 d (0, 35) = 60 := al0 35 60 d rfl
theorem al36 (d : Nat × Nat × Nat) : alen 0 d (0, 36) = 60 := al0 36 60 d rfl
theorem al37 (d : Nat × Nat × Nat) : alen 0 d (0, 37) = 60 := al0 37 60 d rfl
theorem al39 (d : Nat × Nat × Nat) : alen 0 d (0, 39) = 7 := al0 39 7 d rfl
theorem al40 (d : Nat × Nat × Nat) : alen 0 d (0, 40) = 7 := al0 40 7 d rfl
theorem al41 (d : Nat × Nat × Nat) : alen 0 d (0, 41) = 60 := al0 41 60 d rfl
theorem al42 (d : Nat × Nat × Nat) : alen 0 d (0, 42) = 60 := al0 42 60 d rfl
theorem al43 (d : Nat × Nat × Nat) : alen 0 d (0, 43) = 60 := al0 43 60 d rfl
theorem al44 (d : Nat × Nat × Nat) : alen 0 d (0, 44) = 60 := al0 44 60 d rfl
theorem al46 (d : Nat × Nat × Nat) : alen 0 d (0, 46) = 6 := al0 46 6 d rfl
theorem al47 (d : Nat × Nat × Nat) : alen 0 d (0, 47) = 6 := al0 47 6 d rfl
theorem al48 (d : Nat × Nat × Nat) : alen 0 d (0, 48) = 3 := al0 48 3 d rfl
theorem al49 (d : Nat × Nat × Nat) : alen 0 d (0, 49) = 896 := al0 49 896 d rfl
theorem al50 (d : Nat × Nat × Nat) : alen 0 d (0, 50) = 896 := al0 50 896 d rfl
theorem al7 (d : Nat × Nat × Nat) : alen 0 d (0, 7) = 6 := al0 7 6 d rfl
theorem al8 (d : Nat × Nat × Nat) : alen 0 d (0, 8) = 6 := al0 8 6 d rfl
theorem al10 (d : Nat × Nat × Nat) : alen 0 d (0, 10) = 3 := al0 10 3 d rfl
theorem al11 (d : Nat × Nat × Nat) : alen 0 d (0, 11) = 64 := al0 11 64 d rfl
theorem al12 (d : Nat × Nat × Nat) : alen 0 d (0, 12) = 64 := al0 12 64 d rfl
theorem al13 (d : Nat × Nat × Nat) : alen 0 d (0, 13) = 64 := al0 13 64 d rfl
theorem al14 (d : Nat × Nat × Nat) : alen 0 d (0, 14) = 64 := al0 14 64 d rfl
theorem al15 (d : Nat × Nat × Nat) : alen 0 d (0, 15) = 64 := al0 15 64 d rfl
theorem al16 (d : Nat × Nat × Nat) : alen 0 d (0, 16) = 64 := al0 16 64 d rfl
theorem al18 (d : Nat × Nat × Nat) : alen 0 d (0, 18) = 7 := al0 18 7 d rfl
theorem al19 (d : Nat × Nat × Nat) : alen 0 d (0, 19) = 7 := al0 19 7 d rfl
theorem al20 (d : Nat × Nat × Nat) : alen 0 d (0, 20) = 896 := al0 20 896 d rfl
theorem al21 (d : Nat × Nat × Nat) : alen 0 d (0, 21) = 896 := al0 21 896 d rfl
theorem al38 (d : Nat × Nat × Nat) : alen 1 d (0, 38) = 60 := al1 38 60 d rfl
theorem al45 (d : Nat × Nat × Nat) : alen 1 d (0, 45) = 60 := al1 45 60 d rfl
theorem par_cong {sd sd' : Nat → Nat → Int32} (h : ∀ i, sd' i 8 = sd i 8) : par sd' = par sd := by
  funext q
  simp only [par, h]
theorem chn_cong {sd sd' : Nat → Nat → Int32} (h : ∀ i, sd' i 8 = sd i 8) (i m : Nat) : chn sd' i m = chn sd i m := by
  induction m with
  | zero => rfl
  | succ m ih => simp only [chn, ih, par_cong h]
theorem ok_up3 {n i : Nat} {yr x : Int32} {sd : Nat → Nat → Int32} (h : OkS n yr sd) (hx : rg 0 100 x) : OkS n yr (up2 sd i 3 x) := by
  obtain ⟨a, b, c, d⟩ := h
  refine ⟨a, b, fun k hk => ?_, fun k hk => by obtain ⟨m, hm⟩ := d k hk; exact ⟨m, by rw [chn_cong (fun i => up2_j sd x (by decide))]; exact hm⟩⟩
  obtain ⟨c0, c1, c2, c3, c4, c5, c9, c10, c8⟩ := c k hk
  rw [up2_j sd x (show (0 : Nat) ≠ 3 by decide)]
  rw [up2_j sd x (show (1 : Nat) ≠ 3 by decide)]
  rw [up2_j sd x (show (2 : Nat) ≠ 3 by decide)]
  rw [up2_j sd x (show (4 : Nat) ≠ 3 by decide)]
  rw [up2_j sd x (show (5 : Nat) ≠ 3 by decide)]
  rw [up2_j sd x (show (9 : Nat) ≠ 3 by decide)]
  rw [up2_j sd x (show (10 : Nat) ≠ 3 by decide)]
  rw [up2_j sd x (show (8 : Nat) ≠ 3 by decide)]
  have e : rg 0 100 (up2 sd i 3 x k 3) := by
    by_cases e : k = i
    · rw [e, up2_s]; exact hx
    · rw [up2_i sd x e]; exact c3
  exact ⟨c0, c1, c2, e, c4, c5, c9, c10, c8⟩
theorem ok_up4 {n i : Nat} {yr x : Int32} {sd : Nat → Nat → Int32} (h : OkS n yr sd) (hx : rg 1 1000 x) : OkS n yr (up2 sd i 4 x) := by
  obtain ⟨a, b, c, d⟩ := h
  refine ⟨a, b, fun k hk => ?_, fun k hk => by obtain ⟨m, hm⟩ := d k hk; exact ⟨m, by rw [chn_cong (fun i => up2_j sd x (by decide))]; exact hm⟩⟩
  obtain ⟨c0, c1, c2, c3, c4, c5, c9, c10, c8⟩ := c k hk
  rw [up2_j sd x (show (0 : Nat) ≠ 4 by decide)]
  rw [up2_j sd x (show (1 : Nat) ≠ 4 by decide)]
  rw [up2_j sd x (show (2 : Nat) ≠ 4 by decide)]
  rw [up2_j sd x (show (3 : Nat) ≠ 4 by decide)]
  rw [up2_j sd x (show (5 : Nat) ≠ 4 by decide)]
  rw [up2_j sd x (show (9 : Nat) ≠ 4 by decide)]
  rw [up2_j sd x (show (10 : Nat) ≠ 4 by decide)]
  rw [up2_j sd x (show (8 : Nat) ≠ 4 by decide)]
  have e : rg 1 1000 (up2 sd i 4 x k 4) := by
    by_cases e : k = i
    · rw [e, up2_s]; exact hx
    · rw [up2_i sd x e]; exact c4
  exact ⟨c0, c1, c2, c3, e, c5, c9, c10, c8⟩
theorem ok_up5 {n i : Nat} {yr x : Int32} {sd : Nat → Nat → Int32} (h : OkS n yr sd) (hx : rg 1 1000 x) : OkS n yr (up2 sd i 5 x) := by
  obtain ⟨a, b, c, d⟩ := h
  refine ⟨a, b, fun k hk => ?_, fun k hk => by obtain ⟨m, hm⟩ := d k hk; exact ⟨m, by rw [chn_cong (fun i => up2_j sd x (by decide))]; exact hm⟩⟩
  obtain ⟨c0, c1, c2, c3, c4, c5, c9, c10, c8⟩ := c k hk
  rw [up2_j sd x (show (0 : Nat) ≠ 5 by decide)]
  rw [up2_j sd x (show (1 : Nat) ≠ 5 by decide)]
  rw [up2_j sd x (show (2 : Nat) ≠ 5 by decide)]
  rw [up2_j sd x (show (3 : Nat) ≠ 5 by decide)]
  rw [up2_j sd x (show (4 : Nat) ≠ 5 by decide)]
  rw [up2_j sd x (show (9 : Nat) ≠ 5 by decide)]
  rw [up2_j sd x (show (10 : Nat) ≠ 5 by decide)]
  rw [up2_j sd x (show (8 : Nat) ≠ 5 by decide)]
  have e : rg 1 1000 (up2 sd i 5 x k 5) := by
    by_cases e : k = i
    · rw [e, up2_s]; exact hx
    · rw [up2_i sd x e]; exact c5
  exact ⟨c0, c1, c2, c3, c4, e, c9, c10, c8⟩
theorem ok_up6 {n i : Nat} {yr x : Int32} {sd : Nat → Nat → Int32} (h : OkS n yr sd) : OkS n yr (up2 sd i 6 x) := by
  obtain ⟨a, b, c, d⟩ := h
  refine ⟨a, b, fun k hk => ?_, fun k hk => by obtain ⟨m, hm⟩ := d k hk; exact ⟨m, by rw [chn_cong (fun i => up2_j sd x (by decide))]; exact hm⟩⟩
  obtain ⟨c0, c1, c2, c3, c4, c5, c9, c10, c8⟩ := c k hk
  rw [up2_j sd x (show (0 : Nat) ≠ 6 by decide)]
  rw [up2_j sd x (show (1 : Nat) ≠ 6 by decide)]
  rw [up2_j sd x (show (2 : Nat) ≠ 6 by decide)]
  rw [up2_j sd x (show (3 : Nat) ≠ 6 by decide)]
  rw [up2_j sd x (show (4 : Nat) ≠ 6 by decide)]
  rw [up2_j sd x (show (5 : Nat) ≠ 6 by decide)]
  rw [up2_j sd x (show (9 : Nat) ≠ 6 by decide)]
  rw [up2_j sd x (show (10 : Nat) ≠ 6 by decide)]
  rw [up2_j sd x (show (8 : Nat) ≠ 6 by decide)]
  exact ⟨c0, c1, c2, c3, c4, c5, c9, c10, c8⟩
theorem ok_up7 {n i : Nat} {yr x : Int32} {sd : Nat → Nat → Int32} (h : OkS n yr sd) : OkS n yr (up2 sd i 7 x) := by
  obtain ⟨a, b, c, d⟩ := h
  refine ⟨a, b, fun k hk => ?_, fun k hk => by obtain ⟨m, hm⟩ := d k hk; exact ⟨m, by rw [chn_cong (fun i => up2_j sd x (by decide))]; exact hm⟩⟩
  obtain ⟨c0, c1, c2, c3, c4, c5, c9, c10, c8⟩ := c k hk
  rw [up2_j sd x (show (0 : Nat) ≠ 7 by decide)]
  rw [up2_j sd x (show (1 : Nat) ≠ 7 by decide)]
  rw [up2_j sd x (show (2 : Nat) ≠ 7 by decide)]
  rw [up2_j sd x (show (3 : Nat) ≠ 7 by decide)]
  rw [up2_j sd x (show (4 : Nat) ≠ 7 by decide)]
  rw [up2_j sd x (show (5 : Nat) ≠ 7 by decide)]
  rw [up2_j sd x (show (9 : Nat) ≠ 7 by decide)]
  rw [up2_j sd x (show (10 : Nat) ≠ 7 by decide)]
  rw [up2_j sd x (show (8 : Nat) ≠ 7 by decide)]
  exact ⟨c0, c1, c2, c3, c4, c5, c9, c10, c8⟩
theorem ok_up9 {n i : Nat} {yr x : Int32} {sd : Nat → Nat → Int32} (h : OkS n yr sd) (hx : rg 0 255 x) : OkS n yr (up2 sd i 9 x) := by
  obtain ⟨a, b, c, d⟩ := h
  refine ⟨a, b, fun k hk => ?_, fun k hk => by obtain ⟨m, hm⟩ := d k hk; exact ⟨m, by rw [chn_cong (fun i => up2_j sd x (by decide))]; exact hm⟩⟩
  obtain ⟨c0, c1, c2, c3, c4, c5, c9, c10, c8⟩ := c k hk
  rw [up2_j sd x (show (0 : Nat) ≠ 9 by decide)]
  rw [up2_j sd x (show (1 : Nat) ≠ 9 by decide)]
  rw [up2_j sd x (show (2 : Nat) ≠ 9 by decide)]
  rw [up2_j sd x (show (3 : Nat) ≠ 9 by decide)]
  rw [up2_j sd x (show (4 : Nat) ≠ 9 by decide)]
  rw [up2_j sd x (show (5 : Nat) ≠ 9 by decide)]
  rw [up2_j sd x (show (10 : Nat) ≠ 9 by decide)]
  rw [up2_j sd x (show (8 : Nat) ≠ 9 by decide)]
  have e : rg 0 255 (up2 sd i 9 x k 9) := by
    by_cases e : k = i
    · rw [e, up2_s]; exact hx
    · rw [up2_i sd x e]; exact c9
  exact ⟨c0, c1, c2, c3, c4, c5, e, c10, c8⟩
theorem ok_up10 {n i : Nat} {yr x : Int32} {sd : Nat → Nat → Int32} (h : OkS n yr sd) (hx : rg 0 3 x) : OkS n yr (up2 sd i 10 x) := by
  obtain ⟨a, b, c, d⟩ := h
  refine ⟨a, b, fun k hk => ?_, fun k hk => by obtain ⟨m, hm⟩ := d k hk; exact ⟨m, by rw [chn_cong (fun i => up2_j sd x (by decide))]; exact hm⟩⟩
  obtain ⟨c0, c1, c2, c3, c4, c5, c9, c10, c8⟩ := c k hk
  rw [up2_j sd x (show (0 : Nat) ≠ 10 by decide)]
  rw [up2_j sd x (show (1 : Nat) ≠ 10 by decide)]
  rw [up2_j sd x (show (2 : Nat) ≠ 10 by decide)]
  rw [up2_j sd x (show (3 : Nat) ≠ 10 by decide)]
  rw [up2_j sd x (show (4 : Nat) ≠ 10 by decide)]
  rw [up2_j sd x (show (5 : Nat) ≠ 10 by decide)]
  rw [up2_j sd x (show (9 : Nat) ≠ 10 by decide)]
  rw [up2_j sd x (show (8 : Nat) ≠ 10 by decide)]
  have e : rg 0 3 (up2 sd i 10 x k 10) := by
    by_cases e : k = i
    · rw [e, up2_s]; exact hx
    · rw [up2_i sd x e]; exact c10
  exact ⟨c0, c1, c2, c3, c4, c5, c9, e, c8⟩
