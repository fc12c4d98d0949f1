/-! codes and their digits -/
def cd (B : Nat) (f : Nat → Nat) : Nat → Nat
  | 0 => 0
  | m + 1 => cd B f m * B + f m
theorem cd_lt {B : Nat} {f : Nat → Nat} : ∀ m, (∀ p, p < m → f p < B) → cd B f m < B ^ m
  | 0, _ => by simp [cd]
  | m + 1, h => by
    have h1 := cd_lt m (fun p hp => h p (by omega))
    have h2 := h m (by omega)
    rw [cd, Nat.pow_succ]
    have : (cd B f m + 1) * B ≤ B ^ m * B := Nat.mul_le_mul_right B h1
    rw [Nat.succ_mul] at this
    omega
theorem dg_last (B m c : Nat) : dg B (m + 1) c m = c % B := by
  unfold dg
  rw [show m + 1 - 1 - m = 0 by omega, Nat.pow_zero, Nat.div_one]
theorem dg_up {B m c p : Nat} (h : p < m) : dg B (m + 1) c p = dg B m (c / B) p := by
  unfold dg
  rw [show m + 1 - 1 - p = (m - 1 - p) + 1 by omega, Nat.pow_succ, Nat.mul_comm, ← Nat.div_div_eq_div_mul]
theorem dg_cd {B : Nat} {f : Nat → Nat} : ∀ m, (∀ p, p < m → f p < B) → ∀ p, p < m → dg B m (cd B f m) p = f p
  | 0, _, p, hp => by omega
  | m + 1, h, p, hp => by
    have hB : 0 < B := by have := h m (by omega); omega
    have hm := h m (by omega)
    by_cases e : p = m
    · subst e
      rw [dg_last, cd, Nat.mul_comm, Nat.mul_add_mod, Nat.mod_eq_of_lt hm]
    · rw [dg_up (by omega), cd, Nat.mul_comm, Nat.mul_add_div hB, Nat.div_eq_of_lt hm, Nat.add_zero]
      exact dg_cd m (fun p hp => h p (by omega)) p (by omega)
theorem cd_congr {B : Nat} {f g : Nat → Nat} : ∀ m, (∀ p, p < m → f p = g p) → cd B f m = cd B g m
  | 0, _ => rfl
  | m + 1, h => by rw [cd, cd, cd_congr m (fun p hp => h p (by omega)), h m (by omega)]
theorem cd_dg {B : Nat} (hB : 0 < B) : ∀ m c, c < B ^ m → cd B (dg B m c) m = c
  | 0, c, h => by
    rw [Nat.pow_zero] at h
    rw [cd]; omega
  | m + 1, c, h => by
    rw [cd, dg_last, cd_congr m (fun p hp => dg_up hp), cd_dg hB m (c / B) (by
      rw [Nat.div_lt_iff_lt_mul hB]
      rw [Nat.pow_succ] at h
      exact h), Nat.mul_comm]
    exact Nat.div_add_mod c B
theorem cd_lex {B : Nat} {f g : Nat → Nat} {p : Nat} (ha : ∀ q, q < p → f q = g q) (hl : f p < g p) : ∀ m, p < m → (∀ q, q < m → f q < B) → cd B f m < cd B g m
  | 0, h, _ => by omega
  | m + 1, h, hb => by
    rw [cd, cd]
    by_cases e : p = m
    · subst e
      rw [cd_congr p ha]
      omega
    · have h1 := cd_lex ha hl m (by omega) (fun q hq => hb q (by omega))
      have h2 := hb m (by omega)
      have : (cd B f m + 1) * B ≤ cd B g m * B := Nat.mul_le_mul_right B h1
      rw [Nat.succ_mul] at this
      omega
theorem uS_congr {lh nh : Nat → Int} {m y : Nat} {f g : Nat → Nat} (h : ∀ p, p < m → f p = g p) : uS lh nh m f y = uS lh nh m g y := smI_congr m (fun i hi => by rw [h i hi])
theorem vS_congr {sv : Nat → Nat → Int} {m Y : Nat} {f g : Nat → Nat} (h : ∀ p, p < m → f p = g p) : vS sv m Y f = vS sv m Y g := smI_congr m (fun i hi => by rw [h i hi])
def cut (Y : Nat) (f : Nat → Nat) (p : Nat) : Nat := if f p < 2 * Y then f p else 2 * Y
theorem uS_cut {lh nh : Nat → Int} {m y Y : Nat} {f : Nat → Nat} (hy : y < Y) : uS lh nh m (cut Y f) y = uS lh nh m f y := smI_congr m (fun i hi => by
  unfold cut
  by_cases c : f i < 2 * Y
  · rw [if_pos c]
  · rw [if_neg c, if_neg (by omega), if_neg (by omega)])
theorem vS_cut {sv : Nat → Nat → Int} {m Y : Nat} {f : Nat → Nat} : vS sv m Y (cut Y f) = vS sv m Y f := smI_congr m (fun i hi => by
  unfold cut
  by_cases c : f i < 2 * Y
  · rw [if_pos c]
  · rw [if_neg c, if_neg (by omega), if_neg c])
def feas (lh nh : Nat → Int) (m Y : Nat) (H : Int) (f : Nat → Nat) : Prop := ∀ y, y < Y → uS lh nh m f y ≤ H
/-- the plan that is taken -/
def isP (lh nh : Nat → Int) (sv : Nat → Nat → Int) (m Y : Nat) (H : Int) (f : Nat → Nat) : Prop := (∀ p, p < m → f p ≤ 2 * Y) ∧ feas lh nh m Y H f ∧ (∀ g, feas lh nh m Y H g → vS sv m Y g ≤ vS sv m Y f) ∧ ∀ g p, feas lh nh m Y H g → p < m → (∀ q, q < p → g q = f q) → g p < f p → vS sv m Y g < vS sv m Y f
theorem isP_of {lh nh : Nat → Int} {sv : Nat → Nat → Int} {m Y a : Nat} {H : Int} (ha : a < (2 * Y + 1) ^ m) (h1 : feas lh nh m Y H (dg (2 * Y + 1) m a)) (h2 : ∀ c, c < (2 * Y + 1) ^ m → feas lh nh m Y H (dg (2 * Y + 1) m c) → vS sv m Y (dg (2 * Y + 1) m c) ≤ vS sv m Y (dg (2 * Y + 1) m a)) (h3 : ∀ c, c < a → feas lh nh m Y H (dg (2 * Y + 1) m c) → vS sv m Y (dg (2 * Y + 1) m c) < vS sv m Y (dg (2 * Y + 1) m a)) : isP lh nh sv m Y H (dg (2 * Y + 1) m a) := by
  have hB : 0 < 2 * Y + 1 := by omega
  have ct : ∀ g p, cut Y g p < 2 * Y + 1 := fun g p => by unfold cut; split <;> omega
  have eq : ∀ g p, p < m → dg (2 * Y + 1) m (cd (2 * Y + 1) (cut Y g) m) p = cut Y g p := fun g p hp => dg_cd m (fun p _ => ct g p) p hp
  have fe : ∀ g, feas lh nh m Y H g → feas lh nh m Y H (dg (2 * Y + 1) m (cd (2 * Y + 1) (cut Y g) m)) := fun g hg y hy => by
    rw [uS_congr (eq g), uS_cut hy]; exact hg y hy
  have ve : ∀ g, vS sv m Y (dg (2 * Y + 1) m (cd (2 * Y + 1) (cut Y g) m)) = vS sv m Y g := fun g => by rw [vS_congr (eq g), vS_cut]
  refine ⟨fun p hp => by have := dg_lt (m := m) (c := a) (p := p) hB; omega, h1, fun g hg => ?_, fun g p hg hp hq hl => ?_⟩
  · have := h2 _ (cd_lt m (fun p _ => ct g p)) (fe g hg)
    rw [ve g] at this
    exact this
  · have b := fun q => dg_lt (m := m) (c := a) (p := q) hB
    have lt : cd (2 * Y + 1) (cut Y g) m < a := by
      have := cd_lex (B := 2 * Y + 1) (f := cut Y g) (g := dg (2 * Y + 1) m a) (p := p) (fun q hqp => by
        have e := hq q hqp
        have := b q
        unfold cut
        rw [e]
        split <;> omega) (by
        have := b p
        unfold cut
        rw [if_pos (by omega)]
        exact hl) m hp (fun q _ => ct g q)
      rw [cd_dg hB m a ha] at this
      exact this
    have := h3 _ lt (fe g hg)
    rw [ve g] at this
    exact this
theorem mp15 {F n s Y : Nat} {yr H : Int32} {sd : Nat → Nat → Int32} {S : vs} (oS : OkS n yr sd) (hS : MS n yr sd S) (h6 : pcs s n ≤ 6) (hY : 1 ≤ Y ∧ Y ≤ 3) (hH : 0 ≤ H.toInt) (hF : 100 ≤ F) {m B : Nat} (hm : m = pcs s n) (hB : B = 2 * Y + 1) {fe : Nat → Prop} {sav : Nat → Int} (hfe : ∀ c, fe c ↔ feas (lhI sd s) (nhI sd s) m Y H.toInt (dg B m c)) (hsav : ∀ c, sav c = vS (svI sd s) m Y (dg B m c)) (hex : ∃ c, c < B ^ m ∧ fe c) : ∀ (d k fuel : Nat) (x4 x5 : Int32) (U : vs), k + d = B ^ m → d < fuel → Ag scr S U → MB m s U → ((x4 = (-9) ∧ ∀ c, c < k → ¬ fe c) ∨ ∃ a, a < k ∧ x4 = nI a ∧ fe a ∧ x5.toInt = sav a ∧ (∀ c, c < k → fe c → sav c ≤ sav a) ∧ ∀ c, c < a → fe c → sav c < sav a) → ∃ U' a, hX8_plan_15 F (nI Y) H fuel x4 x5 (nI k) U = some U' ∧ Ag scr S U' ∧ MB m s U' ∧ a < B ^ m ∧ fe a ∧ (∀ c, c < B ^ m → fe c → sav c ≤ sav a) ∧ (∀ c, c < a → fe c → sav c < sav a) ∧ WR sd s m Y (dg B m a) U' := by
  have pl : B ^ m ≤ 117649 := by rw [hB]; exact pw_le hY.2 (by omega)
  intro d
  induction d with
  | zero =>
    intro k fuel x4 x5 U hk hf hA hM hi
    obtain ⟨f, rfl⟩ : ∃ f, fuel = f + 1 := ⟨fuel - 1, by omega⟩
    have : k = B ^ m := by omega
    subst this
    have mc := mCodes (F := F) (Y := Y) hM (by omega) hF
    rw [← hB] at mc
    rcases hi with ⟨-, h2⟩ | ⟨a, a1, a2, a3, a4, a5, a6⟩
    · obtain ⟨c, c1, c2⟩ := hex
      exact absurd c2 (h2 c c1)
    · obtain ⟨U', e, g1, g2, g3⟩ := mWeigh (F := F) (c := a) (Y := Y) oS hS h6 hY (by omega) hF hA (by rw [← hm]; exact hM)
      rw [← hm, ← hB] at g3
      rw [← hm] at g2
      refine ⟨U', a, ?_, g1, g2, a1, a3, a5, a6, g3⟩
      rw [hX8_plan_15, mc]
      simp only [Option.bind_some]
      rw [if_pos (Int32.le_refl _), a2, e]
      rfl
  | succ d ih =>
    intro k fuel x4 x5 U hk hf hA hM hi
    obtain ⟨f, rfl⟩ : ∃ f, fuel = f + 1 := ⟨fuel - 1, by omega⟩
    have mc := mCodes (F := F) (Y := Y) hM (by omega) hF
    rw [← hB] at mc
    obtain ⟨U1, e, g1, g2, g3⟩ := mWeigh (F := F) (c := k) (Y := Y) oS hS h6 hY (by omega) hF hA (by rw [← hm]; exact hM)
    obtain ⟨r, er, hr⟩ := mMost (F := F) oS h6 hY g3
    rw [← hm] at g2
    rw [← hm, ← hB] at g3 hr
    have fk : fe k ↔ ¬ H < r := by
      rw [hfe, fa_lt, Int.not_lt, hr.2 _ hH]
      exact Iff.rfl
    have sk : (U1.1 (0, 1) 33).toInt = sav k := by rw [hsav]; exact g3.1
    rw [hX8_plan_15, mc]
    simp only [Option.bind_some]
    rw [if_neg (nle_nI (show k < B ^ m by omega) (by omega)), e]
    simp only [Option.bind_some]
    rw [er]
    simp only [Option.bind_some, jX8_plan_66, jX8_plan_56, ltt, nI_1]
    have sp : ∀ c, c < k + 1 → c < k ∨ c = k := fun c hc => by omega
    by_cases c1 : H < r
    · rw [if_pos c1]
      have nk : ¬ fe k := fun z => fk.mp z c1
      refine ih (k + 1) f x4 x5 U1 (by omega) (by omega) g1 g2 ?_
      rcases hi with ⟨h1, h2⟩ | ⟨a, a1, a2, a3, a4, a5, a6⟩
      · refine Or.inl ⟨h1, fun c hc => ?_⟩
        rcases sp c hc with z | z
        · exact h2 c z
        · rw [z]; exact nk
      · refine Or.inr ⟨a, by omega, a2, a3, a4, fun c hc hf => ?_, a6⟩
        rcases sp c hc with z | z
        · exact a5 c z hf
        · rw [z] at hf; exact absurd hf nk
    · rw [if_neg c1]
      have yk := fk.mpr c1
      rcases hi with ⟨h1, h2⟩ | ⟨a, a1, a2, a3, a4, a5, a6⟩
      · rw [if_pos h1]
        refine ih (k + 1) f _ _ U1 (by omega) (by omega) g1 g2 (Or.inr ⟨k, by omega, rfl, yk, sk, fun c hc hf => ?_, fun c hc hf => absurd hf (h2 c hc)⟩)
        rcases sp c hc with z | z
        · exact absurd hf (h2 c z)
        · rw [z]; exact Int.le_refl _
      · rw [if_neg (show ¬ x4 = (-9) by rw [a2]; exact nI_nm9 (by omega))]
        by_cases c2 : (U1.1 (0, 1) 33) ≤ x5
        · rw [if_pos c2]
          rw [fa_le, sk, a4] at c2
          refine ih (k + 1) f x4 x5 U1 (by omega) (by omega) g1 g2 (Or.inr ⟨a, by omega, a2, a3, a4, fun c hc hf => ?_, a6⟩)
          rcases sp c hc with z | z
          · exact a5 c z hf
          · rw [z]; exact c2
        · rw [if_neg c2]
          rw [fa_le, sk, a4] at c2
          refine ih (k + 1) f _ _ U1 (by omega) (by omega) g1 g2 (Or.inr ⟨k, by omega, rfl, yk, sk, fun c hc hf => ?_, fun c hc hf => ?_⟩)
          · rcases sp c hc with z | z
            · have := a5 c z hf; omega
            · rw [z]; exact Int.le_refl _
          · have := a5 c hc hf; omega
theorem mPlan {F n s Y : Nat} {yr H : Int32} {sd : Nat → Nat → Int32} {S : vs} (oS : OkS n yr sd) (hS : MS n yr sd S) (h6 : pcs s n ≤ 6) (hs : s < 65536) (hY : 1 ≤ Y ∧ Y ≤ 3) (hH : 0 ≤ H.toInt) (hF : 200000 ≤ F) : ∃ U' f, fX8_plan F (nI s) (nI Y) H S = some U' ∧ Ag scr S U' ∧ MB (pcs s n) s U' ∧ isP (lhI sd s) (nhI sd s) (svI sd s) (pcs s n) Y H.toInt f ∧ WR sd s (pcs s n) Y f U' := by
  obtain ⟨U1, e1, g1, m1⟩ := mGather (F := F) oS hS h6 hs (by omega)
  have pl : (2 * Y + 1) ^ (pcs s n) ≤ 117649 := pw_le hY.2 h6
  have hB : 0 < 2 * Y + 1 := by omega
  obtain ⟨U', a, e, g2, m2, a1, a2, a3, a4, a5⟩ := mp15 (F := F) (H := H) (m := pcs s n) (B := 2 * Y + 1) oS hS h6 hY hH (by omega) rfl rfl (fe := fun c => feas (lhI sd s) (nhI sd s) (pcs s n) Y H.toInt (dg (2 * Y + 1) (pcs s n) c)) (sav := fun c => vS (svI sd s) (pcs s n) Y (dg (2 * Y + 1) (pcs s n) c)) (fun c => Iff.rfl) (fun c => rfl) ⟨cd (2 * Y + 1) (fun _ => 2 * Y) (pcs s n), cd_lt _ (fun p _ => by omega), fun y hy => by
    rw [uS_congr (dg_cd (pcs s n) (fun p _ => by omega)), show uS (lhI sd s) (nhI sd s) (pcs s n) (fun _ => 2 * Y) y = 0 from smI_zero _ (fun i hi => by simp only []; rw [if_neg (by omega)])]
    exact hH⟩ ((2 * Y + 1) ^ (pcs s n)) 0 F (-9) 0 U1 (by omega) (by omega) g1 m1 (Or.inl ⟨rfl, fun c hc => by omega⟩)
  refine ⟨U', dg (2 * Y + 1) (pcs s n) a, ?_, g2, m2, isP_of a1 a2 a3 a4, a5⟩
  unfold fX8_plan
  rw [e1]
  simp only [Option.bind_some]
  rw [nI_0] at e
  exact e
