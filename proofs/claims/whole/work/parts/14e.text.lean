/-! text -/
theorem Inv.texts {S : vs} {tc : Nat} {tx : Nat → Nat → Int32} {pm : Nat → Nat} (a : OkT tc tx pm) (b : RT tc tx pm S) (c : MT tc tx S) (d : I3t S) : Inv S := Inv.of d.1 d.2.1 d.2.2 ⟨tc, tx, pm, a, b, c⟩
theorem k3t_T0 : sok (0, 1) 0 ∧ gok (0, 1) 0 ∧ pok (0, 1) 0 := by simp [sok, gok, pok]
theorem k3t_24 : sok (0, 1) 24 ∧ gok (0, 1) 24 ∧ pok (0, 1) 24 := by simp [sok, gok, pok]
theorem k3t_ms {a : Nat} (j : Nat) (h : 41 ≤ a ∧ a ≤ 45) : sok (0, a) j ∧ gok (0, a) j ∧ pok (0, a) j := by
  refine ⟨⟨⟨by simp, fun q => by simp at q; omega⟩, fun _ => by simp; omega, fun q => by simp at q; omega⟩, ⟨⟨by simp, fun q => by simp at q; omega⟩, fun _ => by simp; omega, fun q => by simp at q; omega⟩, ⟨fun q => by simp at q; omega, fun q => by simp at q; omega, fun q => by simp at q; omega⟩, fun q => by simp at q; omega, fun q => by simp at q; omega, fun q => by simp at q; omega⟩
theorem cAsked {F : Nat} {f so : Int32} {S : vs} (hF : 100 ≤ F) (hf : rg 0 7 f) : fX7_askedBy F f so S = some (prs f so) := by
  unfold fX7_askedBy prs
  by_cases c : so = (-9)
  · rw [if_pos c, if_pos c]
    obtain ⟨m, rfl⟩ : ∃ m, F = m + 5 := ⟨F - 5, by omega⟩
    have e : ∀ G, hX7_askedBy_19 G S f (m + 5) 0 0 = some (((((0 : Int32) ||| ((1 : Int32) <<< (((0 * 8) + f) &&& 31))) ||| ((1 : Int32) <<< (((1 * 8) + f) &&& 31))) ||| ((1 : Int32) <<< (((2 * 8) + f) &&& 31))) ||| ((1 : Int32) <<< (((3 * 8) + f) &&& 31))) := by
      intro G
      rw [hX7_askedBy_19, if_neg (by decide)]
      simp only [ltt]
      rw [show (0 : Int32) + 1 = 1 from rfl, hX7_askedBy_19, if_neg (by decide)]
      simp only [ltt]
      rw [show (1 : Int32) + 1 = 2 from rfl, hX7_askedBy_19, if_neg (by decide)]
      simp only [ltt]
      rw [show (2 : Int32) + 1 = 3 from rfl, hX7_askedBy_19, if_neg (by decide)]
      simp only [ltt]
      rw [show (3 : Int32) + 1 = 4 from rfl, hX7_askedBy_19, if_pos (by decide)]
    rw [e]
    obtain ⟨a, ha, rfl⟩ := rg_of (n := 7) hf
    have : ∀ a : Fin 8, (((((0 : Int32) ||| ((1 : Int32) <<< (((0 * 8) + nI a.val) &&& 31))) ||| ((1 : Int32) <<< (((1 * 8) + nI a.val) &&& 31))) ||| ((1 : Int32) <<< (((2 * 8) + nI a.val) &&& 31))) ||| ((1 : Int32) <<< (((3 * 8) + nI a.val) &&& 31))) = (1 : Int32) <<< (nI a.val &&& 31) ||| (1 : Int32) <<< ((8 + nI a.val) &&& 31) ||| (1 : Int32) <<< ((16 + nI a.val) &&& 31) ||| (1 : Int32) <<< ((24 + nI a.val) &&& 31) := by decide +kernel
    rw [this ⟨a, by omega⟩]
  · rw [if_neg c, if_neg c]
def ini3 (S : vs) (n : Nat) (x0 x1 x2 x3 x4 : Int32) : vs := s2 (s2 (s2 (s2 (s2 S (3, n) 0 x0) (3, n) 1 x1) (3, n) 2 x2) (3, n) 3 x3) (3, n) 4 x4
theorem ini3_eq {F n : Nat} {x0 x1 x2 x3 x4 : Int32} {S : vs} (h : alv S.2.2 (3, n) = true) (hz : zb x4 = true) : fX5_init F n x0 x1 x2 x3 x4 S = some (ini3 S n x0 x1 x2 x3 x4) := by
  simp only [fX5_init, stp, gd, s2_2, h, hz, if_true]
  rfl
theorem ini3_o {n : Nat} {x0 x1 x2 x3 x4 : Int32} {S : vs} {k : vk} {j : Nat} (hk : k ≠ (3, n)) : (ini3 S n x0 x1 x2 x3 x4).1 k j = S.1 k j := by
  unfold ini3
  simp [s2_at, hk]
theorem sn3_o {S : vs} {k : vk} {j : Nat} (hk : k ≠ (3, S.2.2.2.2)) : (sn3 S).1 k j = S.1 k j := by simp [sn3, hk]
def nT (S : vs) (n b : Nat) (x1 x2 x3 x4 : Int32) : vs := s2 (r2 (ini3 (sn3 S) n (nI n) x1 x2 x3 x4) (0, 22) b n) (0, 5) 1 (nI (n + 1))
theorem nT_o {S : vs} {n b : Nat} {x1 x2 x3 x4 : Int32} (hn : S.2.2.2.2 = n) {k : vk} {j : Nat} (hk : k ≠ (3, n)) (h0 : k ≠ (0, 5)) : (nT S n b x1 x2 x3 x4).1 k j = S.1 k j := by
  unfold nT
  rw [s2_at, if_neg (fun q => h0 q.1), r2_1, ini3_o hk, sn3_o (by rw [hn]; exact hk)]
theorem nT_r {S : vs} {n b : Nat} {x1 x2 x3 x4 : Int32} (k : vk) (i : Nat) : (nT S n b x1 x2 x3 x4).2.1 k i = if k = (0, 22) ∧ i = b then some n else S.2.1 k i := by
  show (r2 (ini3 (sn3 S) n (nI n) x1 x2 x3 x4) (0, 22) b n).2.1 k i = _
  rw [r2_at]
  rfl
theorem cj49 {F tc b : Nat} {x1 x2 x3 x4 : Int32} {S : vs} (h1 : S.2.2.2.2 = tc) (h2 : S.1 (0, 5) 1 = nI tc) (hb : b < 60) (hz : zb x4 = true) : jX6_add_49 F x1 x2 x3 x4 (nI b) S = some (nI tc, nT S tc b x1 x2 x3 x4) := by
  have al : alv (sn3 S).2.2 (3, tc) = true := by
    show decide (tc < S.2.2.2.2 + 1) = true
    rw [h1]; exact decide_eq_true (by omega)
  have al2 : alv (ini3 (sn3 S) tc (nI tc) x1 x2 x3 x4).2.2 (3, tc) = true := al
  have b0 : (sn3 S).1 (0, 5) 1 = nI tc := by rw [sn3_o (by simp)]; exact h2
  have b1 : (r2 (ini3 (sn3 S) tc (nI tc) x1 x2 x3 x4) (0, 22) b tc).1 (0, 5) 1 = nI tc := by rw [r2_1, ini3_o (by simp)]; exact b0
  have b2 : (nT S tc b x1 x2 x3 x4).1 (0, 5) 1 = nI (tc + 1) := by unfold nT; rw [s2_at, if_pos ⟨rfl, rfl⟩]
  simp only [jX6_add_49, stp, h1, b0, ini3_eq al hz, Option.bind_some, gd, inb_nI hb (by decide), al2, if_true, cl_nI (show b < 2 ^ 31 by omega), b1, nI_1]
  rw [show s2 (r2 (ini3 (sn3 S) tc (nI tc) x1 x2 x3 x4) (0, 22) b tc) (0, 5) 1 (nI (tc + 1)) = nT S tc b x1 x2 x3 x4 from rfl, b2, nI_pred]
/-- a state with a gap at a place -/
def Sh (S U : vs) (tc : Nat) (pm : Nat → Nat) (a : Nat) : Prop := U.1 = S.1 ∧ U.2.2 = S.2.2 ∧ (∀ k i, k ≠ (0, 22) → U.2.1 k i = S.2.1 k i) ∧ (∀ p, p < a → U.2.1 (0, 22) p = some (pm p)) ∧ ∀ p, a < p → p ≤ tc → U.2.1 (0, 22) p = some (pm (p - 1))
theorem cins {F tc : Nat} {tx : Nat → Nat → Int32} {pm : Nat → Nat} {S : vs} {x1 x2 x3 x4 : Int32} (o : OkT tc tx pm) (h : RT tc tx pm S) (h60 : tc < 60) : ∀ (a fuel : Nat) (U : vs), a < fuel → a ≤ tc → Sh S U tc pm a → (∀ p, a ≤ p → p < tc → x3.toInt < (tx (pm p) 3).toInt) → ∃ b V, b ≤ tc ∧ hX6_add_6 F x1 x2 x3 x4 fuel (nI a) U = jX6_add_49 F x1 x2 x3 x4 (nI b) V ∧ Sh S V tc pm b ∧ (∀ p, b ≤ p → p < tc → x3.toInt < (tx (pm p) 3).toInt) ∧ ∀ p, p < b → (tx (pm p) 3).toInt ≤ x3.toInt
  | 0, fuel, U, hf, ha, hs, hp => by
    obtain ⟨f, rfl⟩ : ∃ f, fuel = f + 1 := ⟨fuel - 1, by omega⟩
    refine ⟨0, U, by omega, ?_, hs, hp, fun p hq => by omega⟩
    rw [hX6_add_6, if_pos (show nI 0 ≤ 0 from Int32.le_refl _)]
  | a + 1, fuel, U, hf, ha, hs, hp => by
    obtain ⟨f, rfl⟩ : ∃ f, fuel = f + 1 := ⟨fuel - 1, by omega⟩
    obtain ⟨s1, s2', s3, s4, s5⟩ := hs
    have hpa := o.2.2.1 a (by omega)
    have e1 : nI (a + 1) - 1 = nI a := nI_pred a
    have e2 : nI (a + 1) + (-1) = nI a := by rw [← e1, Int32.sub_eq_add_neg]
    have rg : rget 4 U (0, 22) (nI a) = some (pm a) := by
      unfold rget
      rw [if_pos (show alv U.2.2 (0, 22) = true from rfl), sh0_22]
      simp only [inb_nI (show a < 60 by omega) (by decide), and_self, if_true]
      rw [cl_nI (by omega)]
      exact s4 a (by omega)
    have al : alv U.2.2 (3, pm a) = true := by rw [s2']; exact alv3 h hpa
    have d3 : U.1 (3, pm a) 3 = tx (pm a) 3 := by rw [s1]; exact (h.2.2.2 (pm a) hpa).2.2.2.1
    rw [hX6_add_6, if_neg (show ¬ nI (a + 1) ≤ 0 from nle_nI (a := 0) (by omega) (by omega)), e1, rg]
    simp only [Option.bind_some, gd, al, if_true, d3, fa_le]
    by_cases c : (tx (pm a) 3).toInt ≤ x3.toInt
    · refine ⟨a + 1, U, ha, by rw [if_pos c], ⟨s1, s2', s3, s4, s5⟩, hp, fun p hq => ?_⟩
      have := srt o (show p ≤ a by omega) (by omega)
      omega
    · rw [if_neg c, if_pos (inb_nI (by omega) (by decide)), cl_nI (by omega)]
      simp only [stp, ltt, e2]
      refine cins o h h60 a f _ (by omega) (by omega) ⟨s1, s2', fun k i hk => ?_, fun p hq => ?_, fun p hq hq2 => ?_⟩ (fun p hq hq2 => ?_)
      · rw [r2_at, if_neg (fun z => hk z.1)]; exact s3 k i hk
      · rw [r2_at, if_neg (fun z => by have := z.2; omega)]; exact s4 p (by omega)
      · rw [r2_at]
        by_cases e : p = a + 1
        · rw [if_pos ⟨rfl, e⟩, e]; rfl
        · rw [if_neg (fun z => e z.2)]; exact s5 p (by omega) hq2
      · by_cases e : p = a
        · rw [e]; omega
        · exact hp p (by omega) hq2
def ipm (pm : Nat → Nat) (tc b p : Nat) : Nat := if p < b then pm p else if p = b then tc else pm (p - 1)
def ntx (f so h day l : Int32) (j : Nat) : Int32 := if j = 0 then f else if j = 1 then so else if j = 2 then h else if j = 3 then day else l
theorem nT_s {S V : vs} {tc b : Nat} {tx : Nat → Nat → Int32} {pm : Nat → Nat} {f so x2 x3 x4 : Int32} (h : RT tc tx pm S) (hs : Sh S V tc pm b) (hb : b ≤ tc) : RT (tc + 1) (asd tx tc (ntx f so x2 x3 x4)) (ipm pm tc b) (nT V tc b (prs f so) x2 x3 x4) := by
  obtain ⟨s1, s2', s3, s4, s5⟩ := hs
  obtain ⟨a0, a1, a2, a3⟩ := h
  have v0 : V.2.2.2.2 = tc := by rw [s2']; exact a0
  refine ⟨?_, ?_, fun p hp => ?_, fun t ht => ?_⟩
  · show V.2.2.2.2 + 1 = tc + 1; rw [v0]
  · unfold nT; rw [s2_at, if_pos ⟨rfl, rfl⟩]
  · rw [nT_r]
    unfold ipm
    by_cases e : p = b
    · rw [if_pos ⟨rfl, e⟩, if_neg (by omega), if_pos e]
    · rw [if_neg (fun z => e z.2)]
      by_cases c : p < b
      · rw [if_pos c]; exact s4 p c
      · rw [if_neg c, if_neg e]; exact s5 p (by omega) (by omega)
  · unfold asd
    by_cases e : t = tc
    · subst e
      simp only [if_true]
      unfold nT ini3 ntx
      refine ⟨?_, ?_, ?_, ?_, ?_⟩ <;> simp [s2_at, r2_1]
    · simp only [e, if_false]
      rw [nT_o v0 (by simp; exact e) (by simp), nT_o v0 (by simp; exact e) (by simp), nT_o v0 (by simp; exact e) (by simp), nT_o v0 (by simp; exact e) (by simp), nT_o v0 (by simp; exact e) (by simp), s1]
      exact a3 t (by omega)
def nM3 (S : vs) (n : Nat) (x1 x2 x3 x4 x5 : Int32) : vs := s2 (s2 (s2 (s2 (s2 (s2 S (0, 41) n x1) (0, 42) n x2) (0, 43) n x3) (0, 44) n x4) (0, 45) n x5) (0, 1) 24 (nI (n + 1))
theorem nM3_s {S : vs} {n : Nat} {x1 x2 x3 x4 x5 : Int32} {tx : Nat → Nat → Int32} (h : MT n tx S) : MT (n + 1) (asd tx n (ntx x1 x2 x3 x4 x5)) (nM3 S n x1 x2 x3 x4 x5) := by
  obtain ⟨a, b⟩ := h
  refine ⟨by simp [nM3, s2_at], fun i j hi hj => ?_⟩
  unfold asd nM3 ntx
  by_cases q : i = n
  · subst q
    rcases (show j = 0 ∨ j = 1 ∨ j = 2 ∨ j = 3 ∨ j = 4 by omega) with rfl | rfl | rfl | rfl | rfl <;> simp [s2_at]
  · have := b i j (by omega) hj
    simp only [s2_at, q, and_false, if_false]
    rw [if_neg (fun z => by have := z.1; simp at this; omega)]
    exact this
theorem ok_ins {tc b : Nat} {tx : Nat → Nat → Int32} {pm : Nat → Nat} {f so x2 x3 x4 : Int32} (o : OkT tc tx pm) (h60 : tc < 60) (hb : b ≤ tc) (r0 : rg 0 7 f) (r1 : so = (-9) ∨ rg 0 3 so) (r2 : x2 = (-9) ∨ rg 0 5 x2) (r3 : rg 0 9999 x3) (r4 : x4 = 0 ∨ x4 = 1) (hp : ∀ p, b ≤ p → p < tc → x3.toInt < (tx (pm p) 3).toInt) (hq : ∀ p, p < b → (tx (pm p) 3).toInt ≤ x3.toInt) : OkT (tc + 1) (asd tx tc (ntx f so x2 x3 x4)) (ipm pm tc b) := by
  obtain ⟨o1, o2, o3, o4, o5⟩ := o
  refine ⟨by omega, fun t ht => ?_, fun p hp' => ?_, fun t ht => ?_, fun p q h1 h2 => ?_⟩
  · unfold asd
    by_cases e : t = tc
    · simp only [e, if_true]; exact ⟨r0, r1, r2, r3, r4⟩
    · simp only [e, if_false]; exact o2 t (by omega)
  · unfold ipm
    split
    · have := o3 p (by omega); omega
    · split
      · omega
      · have := o3 (p - 1) (by omega); omega
  · by_cases e : t = tc
    · exact ⟨b, by omega, by unfold ipm; rw [if_neg (by omega), if_pos rfl, e]⟩
    · obtain ⟨p, hp1, hp2⟩ := o4 t (by omega)
      by_cases c : p < b
      · exact ⟨p, by omega, by unfold ipm; rw [if_pos c]; exact hp2⟩
      · exact ⟨p + 1, by omega, by unfold ipm; rw [if_neg (by omega), if_neg (by omega)]; exact hp2⟩
  · have ne : ∀ p, p < tc → ¬ pm p = tc := fun p h => by have := o3 p h; omega
    have e3 : ∀ p, p < tc → asd tx tc (ntx f so x2 x3 x4) (pm p) 3 = tx (pm p) 3 := fun p h => by unfold asd; rw [if_neg (ne p h)]
    have e4 : asd tx tc (ntx f so x2 x3 x4) tc 3 = x3 := by unfold asd; rw [if_pos rfl]; rfl
    unfold ipm
    by_cases c1 : p < b
    · rw [if_pos c1, e3 p (by omega)]
      by_cases c2 : q < b
      · rw [if_pos c2, e3 q (by omega)]; exact o5 p q h1 (by omega)
      · rw [if_neg c2]
        by_cases c3 : q = b
        · rw [if_pos c3, e4]
          have a1 := hq p c1
          have a2 := o3 p (by omega)
          by_cases z : (tx (pm p) 3).toInt = x3.toInt
          · exact Or.inr ⟨z, a2⟩
          · exact Or.inl (by omega)
        · rw [if_neg c3, e3 (q - 1) (by omega)]; exact o5 p (q - 1) (by omega) (by omega)
    · rw [if_neg c1]
      by_cases c3 : p = b
      · rw [if_pos c3, e4, if_neg (by omega), if_neg (by omega), e3 (q - 1) (by omega)]
        exact Or.inl (hp (q - 1) (by omega) (by omega))
      · rw [if_neg c3, if_neg (show ¬ q < b by omega), if_neg (show ¬ q = b by omega), e3 (p - 1) (by omega), e3 (q - 1) (by omega)]
        exact o5 (p - 1) (q - 1) (by omega) (by omega)
theorem bz_z (x : Int32) : zb (bz x) = true := by unfold bz; split <;> rfl
theorem bz_o (x : Int32) : bz x = 0 ∨ bz x = 1 := by unfold bz; split <;> simp
def nk (lo hi : Int) (x : Int32) : Bool := decide (x = (-9)) || wi lo hi x
set_option maxHeartbeats 4000000 in
theorem pst21 (F : Nat) (hF : 100 ≤ F) : St21 F Inv := by
  intro S hI x1 x2 x3 x4 x5'
  have hz := bz_z x5'
  have hb := bz_o x5'
  generalize bz x5' = x5 at hz hb
  obtain ⟨tc, tx, pm, oT, rT, mT⟩ := hI.t
  have hg := oT.1
  -- the class and the model come to the same point
  have C : fX7_text F x1 x2 x3 x4 x5 S = if wi 0 7 x1 = true ∧ nk 0 3 x2 = true ∧ nk 0 5 x3 = true then (fX7_isDay F x4 S).bind (fun a_2 => if a_2 = 0 then some ((-2), S) else (fX6_isFull F S).bind (fun a_3 => if a_3 = 0 then (fX7_askedBy F x1 x2 S).bind (fun a_4 => (fX6_add F a_4 x3 x4 x5 S).bind (fun a_5 => some (a_5.1, a_5.2))) else some ((-4), S))) else some ((-1), S) := by
    unfold nk
    by_cases c1 : wi 0 7 x1 = true <;> by_cases c2 : x2 = (-9) <;> by_cases c2' : wi 0 3 x2 = true <;> by_cases c3 : x3 = (-9) <;> by_cases c3' : wi 0 5 x3 = true <;> simp [fX7_text, jX7_text_13, jX7_text_18, jX7_text_33, jX7_text_38, isSong_eq, isHearer_eq, isFamily_eq, b01_ite, c1, c2, c2', c3, c3']
  have M : ∀ U, fX8_text F x1 x2 x3 x4 x5 U = if wi 0 7 x1 = true ∧ nk 0 3 x2 = true ∧ nk 0 5 x3 = true then jX8_text_55 F x1 x2 x3 x4 x5 (T0 U) else some ((-1), T0 U) := fun U => by
    unfold nk
    by_cases c1 : wi 0 7 x1 = true <;> by_cases c2 : x2 = (-9) <;> by_cases c2' : wi 0 3 x2 = true <;> by_cases c3 : x3 = (-9) <;> by_cases c3' : wi 0 5 x3 = true <;> simp [fX8_text, stp, jX8_text_35, i0_7, i0_3, i0_5, b01_ite, c1, c2, c2', c3, c3']
  by_cases c : wi 0 7 x1 = true ∧ nk 0 3 x2 = true ∧ nk 0 5 x3 = true
  · rw [if_pos c] at C
    obtain ⟨c1, c2, c3⟩ := c
    have r0 := wi_t.mp c1
    have r1 : x2 = (-9) ∨ rg 0 3 x2 := by
      unfold nk at c2
      rw [Bool.or_eq_true, decide_eq_true_eq] at c2
      exact c2.imp id wi_t.mp
    have r2' : x3 = (-9) ∨ rg 0 5 x3 := by
      unfold nk at c3
      rw [Bool.or_eq_true, decide_eq_true_eq] at c3
      exact c3.imp id wi_t.mp
    by_cases c4 : wi 0 9999 x4 = true
    · by_cases c5 : tc = 60
      · subst c5
        have mT' : MT 60 tx (T0 S) := mT.ag (T0_ag S)
        refine ⟨-4, S, T0 S, ?_, ?_, hI.ag (T0_ag S)⟩
        · rw [C]
          simp [isDay_eq, fX6_isFull, c4, b01_ite, rT.2.1, show ¬ (nI 60 < 60) by decide]
        · refine (M _).trans ?_
          rw [if_pos ⟨c1, c2, c3⟩]
          simp [jX8_text_55, noDay_eq, c4, b01_ite, mT'.1, show nI 60 = 60 from rfl]
      · have h60 : tc < 60 := by omega
        have hin : inb (nI tc) 60 = true := inb_nI h60 (by decide)
        have hcl : (nI tc).toNatClampNeg = tc := cl_nI (by omega)
        have hlt : nI tc < 60 := nI_lt h60 (by decide)
        have hne : ¬ nI tc = 60 := fun e => by
          have := (nI_eq (a := tc) (b := 60) (by omega) (by decide)).mp e
          omega
        obtain ⟨b, V, hb', e, hs, hp, hq⟩ := cins (F := F) (x1 := prs x1 x2) (x2 := x3) (x3 := x4) (x4 := x5) oT rT h60 tc F S (by omega) (Nat.le_refl _) ⟨rfl, rfl, fun _ _ _ => rfl, rT.2.2.1, fun p h1 h2 => by omega⟩ (fun p h1 h2 => by omega)
        have v0 : V.2.2.2.2 = tc := by rw [hs.2.1]; exact rT.1
        have v5 : V.1 (0, 5) 1 = nI tc := by rw [hs.1]; exact rT.2.1
        rw [cj49 v0 v5 (by omega) hz] at e
        have ea : fX6_add F (prs x1 x2) x3 x4 x5 S = some (nI tc, nT V tc b (prs x1 x2) x3 x4 x5) := by
          unfold fX6_add
          rw [rT.2.1]
          exact e
        have r3 := nT_s (f := x1) (so := x2) (x2 := x3) (x3 := x4) (x4 := x5) rT hs hb'
        have ok' := ok_ins (f := x1) (so := x2) (x2 := x3) (x3 := x4) (x4 := x5) oT h60 hb' r0 r1 r2' (wi_t.mp c4) hb hp hq
        have fr : ∀ {k : vk} {j : Nat}, k ≠ (3, tc) → k ≠ (0, 5) → (nT V tc b (prs x1 x2) x3 x4 x5).1 k j = S.1 k j := fun hk h0 => by rw [nT_o v0 hk h0, hs.1]
        have fq : ∀ {k : vk} {i : Nat}, k ≠ (0, 22) → (nT V tc b (prs x1 x2) x3 x4 x5).2.1 k i = S.2.1 k i := fun hk => by rw [nT_r, if_neg (fun z => hk z.1), hs.2.2.1 _ _ hk]
        have fd1 : (nT V tc b (prs x1 x2) x3 x4 x5).2.2.1 = S.2.2.1 := by show V.2.2.1 = _; rw [hs.2.1]
        have fd2 : (nT V tc b (prs x1 x2) x3 x4 x5).2.2.2.1 = S.2.2.2.1 := by show V.2.2.2.1 = _; rw [hs.2.1]
        have m1 : MT tc tx (nT V tc b (prs x1 x2) x3 x4 x5) := ⟨(fr (by simp) (by simp)).trans mT.1, fun t j ht hj => (fr (by simp) (by simp; omega)).trans (mT.2 t j ht hj)⟩
        have i3 : I3t (nT V tc b (prs x1 x2) x3 x4 x5) := ⟨hI.s.cg fd1 (fun a j ha => fr (by simp) (by simp; omega)) (fun i => fq (by simp)) (fun i j => fr (by simp) (by simp)), hI.g.cg fd2 (fun a j ha => fr (by simp) (by simp; omega)) (fun i => fq (by simp)) (fun i j => fr (by simp) (by simp)), hI.p.cg (fun a j ha => fr (by simp) (by simp; omega))⟩
        have m2 : MT tc tx (T0 (nT V tc b (prs x1 x2) x3 x4 x5)) := m1.fr (by simp) (by simp)
        have m3 := nM3_s (x1 := x1) (x2 := x2) (x3 := x3) (x4 := x4) (x5 := x5) m2
        refine ⟨nI tc, nT V tc b (prs x1 x2) x3 x4 x5, nM3 (T0 (nT V tc b (prs x1 x2) x3 x4 x5)) tc x1 x2 x3 x4 x5, ?_, ?_, ?_⟩
        · rw [C]
          simp [isDay_eq, fX6_isFull, c4, b01_ite, rT.2.1, hlt, cAsked hF r0, ea]
        · refine (M _).trans ?_
          rw [if_pos ⟨c1, c2, c3⟩]
          generalize T0 (nT V tc b (prs x1 x2) x3 x4 x5) = U at m2 m3
          have b0 : U.1 (0, 1) 24 = nI tc := m2.1
          simp only [jX8_text_55, noDay_eq, c4, b01_ite, Bool.not_true, Bool.false_eq_true, Option.bind_some, if_true, b0, hne, if_false, stp, gd, al41, al42, al43, al44, al45, hz, s2_at, hin, hcl, Prod.mk.injEq, show ((1 : Nat) = 41) = False by decide, show ((1 : Nat) = 42) = False by decide, show ((1 : Nat) = 43) = False by decide, show ((1 : Nat) = 44) = False by decide, show ((1 : Nat) = 45) = False by decide, and_false, false_and, and_self, nI_1, nI_pred]
          rfl
        · refine Inv.texts ok' ?_ m3 ?_
          · unfold nM3
            exact ((((((r3.fr (by simp) (by simp)).fr (by simp) (by simp)).fr (by simp) (by simp)).fr (by simp) (by simp)).fr (by simp) (by simp)).fr (by simp) (by simp)).fr (by simp) (by simp)
          · unfold nM3
            exact ((((((i3.fr k3t_T0).fr (k3t_ms _ (by decide))).fr (k3t_ms _ (by decide))).fr (k3t_ms _ (by decide))).fr (k3t_ms _ (by decide))).fr (k3t_ms _ (by decide))).fr k3t_24
    · refine ⟨-2, S, T0 S, ?_, ?_, hI.ag (T0_ag S)⟩
      · rw [C]
        simp [isDay_eq, c4, b01_ite]
      · refine (M _).trans ?_
        rw [if_pos ⟨c1, c2, c3⟩]
        simp [jX8_text_55, noDay_eq, c4, b01_ite]
  · rw [if_neg c] at C
    exact ⟨-1, S, T0 S, C, (M S).trans (if_neg c), hI.ag (T0_ag S)⟩
