set_option maxRecDepth 100000 in
set_option maxHeartbeats 4000000 in
theorem enc0_sub : ∀ (a i : Nat) (c : vc), enc S0 (a, i) = some c → wd_108 (a, i) = some c := fun a i c h => by
  match a, i, h with
  | 0, 0, h => exact (show wd_108 (0, 0) = enc S0 (0, 0) from rfl).trans h
  | 0, 1, h => exact (show wd_108 (0, 1) = enc S0 (0, 1) from rfl).trans h
  | 0, 2, h => exact (show wd_108 (0, 2) = enc S0 (0, 2) from rfl).trans h
  | 0, 3, h => exact (show wd_108 (0, 3) = enc S0 (0, 3) from rfl).trans h
  | 0, 4, h => exact (show wd_108 (0, 4) = enc S0 (0, 4) from rfl).trans h
  | 0, 5, h => exact (show wd_108 (0, 5) = enc S0 (0, 5) from rfl).trans h
  | 0, 6, h => exact (show wd_108 (0, 6) = enc S0 (0, 6) from rfl).trans h
  | 0, 7, h => exact (show wd_108 (0, 7) = enc S0 (0, 7) from rfl).trans h
  | 0, 8, h => exact (show wd_108 (0, 8) = enc S0 (0, 8) from rfl).trans h
  | 0, 9, h => exact (show wd_108 (0, 9) = enc S0 (0, 9) from rfl).trans h
  | 0, 10, h => exact (show wd_108 (0, 10) = enc S0 (0, 10) from rfl).trans h
  | 0, 11, h => exact (show wd_108 (0, 11) = enc S0 (0, 11) from rfl).trans h
  | 0, 12, h => exact (show wd_108 (0, 12) = enc S0 (0, 12) from rfl).trans h
  | 0, 13, h => exact (show wd_108 (0, 13) = enc S0 (0, 13) from rfl).trans h
  | 0, 14, h => exact (show wd_108 (0, 14) = enc S0 (0, 14) from rfl).trans h
  | 0, 15, h => exact (show wd_108 (0, 15) = enc S0 (0, 15) from rfl).trans h
  | 0, 16, h => exact (show wd_108 (0, 16) = enc S0 (0, 16) from rfl).trans h
  | 0, 17, h => exact (show wd_108 (0, 17) = enc S0 (0, 17) from rfl).trans h
  | 0, 18, h => exact (show wd_108 (0, 18) = enc S0 (0, 18) from rfl).trans h
  | 0, 19, h => exact (show wd_108 (0, 19) = enc S0 (0, 19) from rfl).trans h
  | 0, 20, h => exact (show wd_108 (0, 20) = enc S0 (0, 20) from rfl).trans h
  | 0, 21, h => exact (show wd_108 (0, 21) = enc S0 (0, 21) from rfl).trans h
  | 0, 22, h => exact (show wd_108 (0, 22) = enc S0 (0, 22) from rfl).trans h
  | 0, 23, h => exact (show wd_108 (0, 23) = enc S0 (0, 23) from rfl).trans h
  | 0, 24, h => exact (show wd_108 (0, 24) = enc S0 (0, 24) from rfl).trans h
  | 0, 25, h => exact (show wd_108 (0, 25) = enc S0 (0, 25) from rfl).trans h
  | 0, 26, h => exact (show wd_108 (0, 26) = enc S0 (0, 26) from rfl).trans h
  | 0, 27, h => exact (show wd_108 (0, 27) = enc S0 (0, 27) from rfl).trans h
  | 0, 28, h => exact (show wd_108 (0, 28) = enc S0 (0, 28) from rfl).trans h
  | 0, 29, h => exact (show wd_108 (0, 29) = enc S0 (0, 29) from rfl).trans h
  | 0, 30, h => exact (show wd_108 (0, 30) = enc S0 (0, 30) from rfl).trans h
  | 0, 31, h => exact (show wd_108 (0, 31) = enc S0 (0, 31) from rfl).trans h
  | 0, 32, h => exact (show wd_108 (0, 32) = enc S0 (0, 32) from rfl).trans h
  | 0, 33, h => exact (show wd_108 (0, 33) = enc S0 (0, 33) from rfl).trans h
  | 0, 34, h => exact (show wd_108 (0, 34) = enc S0 (0, 34) from rfl).trans h
  | 0, 35, h => exact (show wd_108 (0, 35) = enc S0 (0, 35) from rfl).trans h
  | 0, 36, h => exact (show wd_108 (0, 36) = enc S0 (0, 36) from rfl).trans h
  | 0, 37, h => exact (show wd_108 (0, 37) = enc S0 (0, 37) from rfl).trans h
  | 0, 38, h => exact (show wd_108 (0, 38) = enc S0 (0, 38) from rfl).trans h
  | 0, 39, h => exact (show wd_108 (0, 39) = enc S0 (0, 39) from rfl).trans h
  | 0, 40, h => exact (show wd_108 (0, 40) = enc S0 (0, 40) from rfl).trans h
  | 0, 41, h => exact (show wd_108 (0, 41) = enc S0 (0, 41) from rfl).trans h
  | 0, 42, h => exact (show wd_108 (0, 42) = enc S0 (0, 42) from rfl).trans h
  | 0, 43, h => exact (show wd_108 (0, 43) = enc S0 (0, 43) from rfl).trans h
  | 0, 44, h => exact (show wd_108 (0, 44) = enc S0 (0, 44) from rfl).trans h
  | 0, 45, h => exact (show wd_108 (0, 45) = enc S0 (0, 45) from rfl).trans h
  | 0, 46, h => exact (show wd_108 (0, 46) = enc S0 (0, 46) from rfl).trans h
  | 0, 47, h => exact (show wd_108 (0, 47) = enc S0 (0, 47) from rfl).trans h
  | 0, 48, h => exact (show wd_108 (0, 48) = enc S0 (0, 48) from rfl).trans h
  | 0, 49, h => exact (show wd_108 (0, 49) = enc S0 (0, 49) from rfl).trans h
  | 0, 50, h => exact (show wd_108 (0, 50) = enc S0 (0, 50) from rfl).trans h
  | 0, i + 51, h => exact absurd h (by rw [show enc S0 (0, i + 51) = none from rfl]; exact fun q => by cases q)
  | 1, i, h => exact absurd h (by simp [enc, alv, S0])
  | 2, i, h => exact absurd h (by simp [enc, alv, S0])
  | 3, i, h => exact absurd h (by simp [enc, alv, S0])
  | 4, 0, h => exact (show wd_108 (4, 0) = enc S0 (4, 0) from rfl).trans h
  | 4, 1, h => exact (show wd_108 (4, 1) = enc S0 (4, 1) from rfl).trans h
  | 4, 2, h => exact (show wd_108 (4, 2) = enc S0 (4, 2) from rfl).trans h
  | 4, 3, h => exact (show wd_108 (4, 3) = enc S0 (4, 3) from rfl).trans h
  | 4, 4, h => exact (show wd_108 (4, 4) = enc S0 (4, 4) from rfl).trans h
  | 4, 5, h => exact (show wd_108 (4, 5) = enc S0 (4, 5) from rfl).trans h
  | 4, i + 6, h => exact absurd h (by simp [enc, alv, S0]; intro h6; omega)
  | a + 5, i, h => exact absurd h (by simp [enc, shp, S0])
set_option maxRecDepth 100000 in
set_option maxHeartbeats 4000000 in
theorem enc0_cl : ∀ (a i : Nat) (c : vc) (r : vk), enc S0 (a, i) = some c → vref c r → ∃ d, enc S0 r = some d := fun a i c r h hv => by
  match a, i, h with
  | 0, 0, h =>
    cases h
    have hv : Sum.inr (some r) ∈ fenc (fun _ => 0) 0 fsX7 := hv
    simp [fenc] at hv
    rcases hv with rfl | rfl | rfl | rfl | rfl
    · exact ⟨_, rfl⟩
    · exact ⟨_, rfl⟩
    · exact ⟨_, rfl⟩
    · exact ⟨_, rfl⟩
    · exact ⟨_, rfl⟩
  | 0, 1, h =>
    cases h
    have hv : Sum.inr (some r) ∈ fenc (fun _ => 0) 0 fsX8 := hv
    simp [fenc] at hv
    rcases hv with rfl | rfl | rfl | rfl | rfl | rfl | rfl | rfl | rfl | rfl | rfl | rfl | rfl | rfl | rfl | rfl | rfl | rfl | rfl | rfl | rfl | rfl | rfl | rfl | rfl | rfl | rfl | rfl
    · exact ⟨_, rfl⟩
    · exact ⟨_, rfl⟩
    · exact ⟨_, rfl⟩
    · exact ⟨_, rfl⟩
    · exact ⟨_, rfl⟩
    · exact ⟨_, rfl⟩
    · exact ⟨_, rfl⟩
    · exact ⟨_, rfl⟩
    · exact ⟨_, rfl⟩
    · exact ⟨_, rfl⟩
    · exact ⟨_, rfl⟩
    · exact ⟨_, rfl⟩
    · exact ⟨_, rfl⟩
    · exact ⟨_, rfl⟩
    · exact ⟨_, rfl⟩
    · exact ⟨_, rfl⟩
    · exact ⟨_, rfl⟩
    · exact ⟨_, rfl⟩
    · exact ⟨_, rfl⟩
    · exact ⟨_, rfl⟩
    · exact ⟨_, rfl⟩
    · exact ⟨_, rfl⟩
    · exact ⟨_, rfl⟩
    · exact ⟨_, rfl⟩
    · exact ⟨_, rfl⟩
    · exact ⟨_, rfl⟩
    · exact ⟨_, rfl⟩
    · exact ⟨_, rfl⟩
  | 0, 2, h =>
    cases h
    have hv : Sum.inr (some r) ∈ fenc (fun _ => 0) 0 fsX0 := hv
    simp [fenc] at hv
    rcases hv with rfl | rfl | rfl | rfl | rfl | rfl | rfl | rfl | rfl | rfl
    · exact ⟨_, rfl⟩
    · exact ⟨_, rfl⟩
    · exact ⟨_, rfl⟩
    · exact ⟨_, rfl⟩
    · exact ⟨_, rfl⟩
    · exact ⟨_, rfl⟩
    · exact ⟨_, rfl⟩
    · exact ⟨_, rfl⟩
    · exact ⟨_, rfl⟩
    · exact ⟨_, rfl⟩
  | 0, 3, h =>
    cases h
    have hv : Sum.inr (some r) ∈ fenc (fun _ => 0) 0 fsX4 := hv
    simp [fenc] at hv
    rcases hv with rfl
    · exact ⟨_, rfl⟩
  | 0, 4, h =>
    cases h
    have hv : Sum.inr (some r) ∈ fenc (fun _ => 0) 0 fsX1 := hv
    simp [fenc] at hv
    rcases hv with rfl | rfl | rfl | rfl
    · exact ⟨_, rfl⟩
    · exact ⟨_, rfl⟩
    · exact ⟨_, rfl⟩
    · exact ⟨_, rfl⟩
  | 0, 5, h =>
    cases h
    have hv : Sum.inr (some r) ∈ fenc (fun _ => 0) 0 fsX6 := hv
    simp [fenc] at hv
    rcases hv with rfl
    · exact ⟨_, rfl⟩
  | 0, 6, h =>
    cases h
    obtain ⟨j, hj⟩ := hv
    cases hj
  | 0, 7, h => cases h; exact hv.elim
  | 0, 8, h => cases h; exact hv.elim
  | 0, 9, h =>
    cases h
    obtain ⟨j, hj⟩ := hv
    by_cases h6 : j < 6
    · simp only [renc, h6, if_true, Option.map_some] at hj
      cases hj
      exact ⟨_, by unfold enc; rw [if_pos (by simpa [alv, kdt] using h6)]; rfl⟩
    · simp [renc, h6] at hj
  | 0, 10, h => cases h; exact hv.elim
  | 0, 11, h => cases h; exact hv.elim
  | 0, 12, h => cases h; exact hv.elim
  | 0, 13, h => cases h; exact hv.elim
  | 0, 14, h => cases h; exact hv.elim
  | 0, 15, h => cases h; exact hv.elim
  | 0, 16, h => cases h; exact hv.elim
  | 0, 17, h =>
    cases h
    obtain ⟨j, hj⟩ := hv
    cases hj
  | 0, 18, h => cases h; exact hv.elim
  | 0, 19, h => cases h; exact hv.elim
  | 0, 20, h => cases h; exact hv.elim
  | 0, 21, h => cases h; exact hv.elim
  | 0, 22, h =>
    cases h
    obtain ⟨j, hj⟩ := hv
    cases hj
  | 0, 23, h => cases h; exact hv.elim
  | 0, 24, h => cases h; exact hv.elim
  | 0, 25, h => cases h; exact hv.elim
  | 0, 26, h => cases h; exact hv.elim
  | 0, 27, h => cases h; exact hv.elim
  | 0, 28, h => cases h; exact hv.elim
  | 0, 29, h => cases h; exact hv.elim
  | 0, 30, h => cases h; exact hv.elim
  | 0, 31, h => cases h; exact hv.elim
  | 0, 32, h => cases h; exact hv.elim
  | 0, 33, h => cases h; exact hv.elim
  | 0, 34, h => cases h; exact hv.elim
  | 0, 35, h => cases h; exact hv.elim
  | 0, 36, h => cases h; exact hv.elim
  | 0, 37, h => cases h; exact hv.elim
  | 0, 38, h => cases h; exact hv.elim
  | 0, 39, h => cases h; exact hv.elim
  | 0, 40, h => cases h; exact hv.elim
  | 0, 41, h => cases h; exact hv.elim
  | 0, 42, h => cases h; exact hv.elim
  | 0, 43, h => cases h; exact hv.elim
  | 0, 44, h => cases h; exact hv.elim
  | 0, 45, h => cases h; exact hv.elim
  | 0, 46, h => cases h; exact hv.elim
  | 0, 47, h => cases h; exact hv.elim
  | 0, 48, h => cases h; exact hv.elim
  | 0, 49, h => cases h; exact hv.elim
  | 0, 50, h => cases h; exact hv.elim
  | 0, i + 51, h => exact absurd h (by rw [show enc S0 (0, i + 51) = none from rfl]; exact fun q => by cases q)
  | 1, i, h => exact absurd h (by simp [enc, alv, S0])
  | 2, i, h => exact absurd h (by simp [enc, alv, S0])
  | 3, i, h => exact absurd h (by simp [enc, alv, S0])
  | 4, 0, h => cases h; exact hv.elim
  | 4, 1, h => cases h; exact hv.elim
  | 4, 2, h => cases h; exact hv.elim
  | 4, 3, h => cases h; exact hv.elim
  | 4, 4, h => cases h; exact hv.elim
  | 4, 5, h => cases h; exact hv.elim
  | 4, i + 6, h => exact absurd h (by simp [enc, alv, S0]; intro h6; omega)
  | a + 5, i, h => exact absurd h (by simp [enc, shp, S0])
theorem Hol0 {G : vg} {al : vk → Nat} {H : Heap} (h : Hol G al wd_108 H) : Hol G al (enc S0) H := by
  obtain ⟨h1, h2, h3, h4⟩ := h
  exact ⟨fun k c hk => h1 k c (enc0_sub k.1 k.2 c hk), fun j k a b hj hk e => h2 j k a b (enc0_sub j.1 j.2 a hj) (enc0_sub k.1 k.2 b hk) e, fun k c hk => h3 k c (enc0_sub k.1 k.2 c hk), fun k c r hk hv => enc0_cl k.1 k.2 c r hk hv⟩

