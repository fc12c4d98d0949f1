def stp {β : Type} (S : vs) (f : vs → Option β) : Option β := f S
def ltt {β : Type} (x : Int32) (f : Int32 → Option β) : Option β := f x
def nz (y : Int32) : Bool := decide (¬ y = 0)
theorem nz_n {y : Int32} (h : nz y = true) : ¬ y = 0 := by unfold nz at h; exact of_decide_eq_true h
theorem i32ne {x : Int32} {k : Nat} (h : ¬ x = OfNat.ofNat k) : x.toInt ≠ (OfNat.ofNat k : Int32).toInt := fun e => h (Int32.toInt_inj.mp e)
section VAux
variable {l : Launch} {G : vg} {M : vmt} {o : Option vw} {β : Type} {φ : β → Option Int32 × vw} {res A B : Option β} {pc : Nat} {L : vls} {st : List vv} {S : vs} {cs sl : Nat} {w : vw}
theorem V.sst {f : vs → Option β} (k : ∀ S1 : vs, V l G M o φ (f S1) pc L st (enc S1) cs sl) : V l G M o φ (stp S f) pc L st (enc S) cs sl := k S
theorem V.lett {x : Int32} {f : Int32 → Option β} (k : ∀ y : Int32, V l G M o φ (f y) pc L (vI y :: st) w cs sl) : V l G M o φ (ltt x f) pc L (vI x :: st) w cs sl := k x
theorem V.lti {e : Int32} {f : Int32 → Option β} (k : ∀ y : Int32, y = e → V l G M o φ (f y) pc L st w cs sl) : V l G M o φ (ltt e f) pc L st w cs sl := k e rfl
theorem V.ite {c : Prop} [Decidable c] (kt : c → V l G M o φ A pc L st w cs sl) (kf : ¬ c → V l G M o φ B pc L st w cs sl) : V l G M o φ (if c then A else B) pc L st w cs sl := by
  by_cases h : c
  · rw [if_pos h]; exact kt h
  · rw [if_neg h]; exact kf h
theorem V.tsI {x : Int32} {dflt hi : Int} {offs : Array Int} {len : Nat} (k tgt : Nat) (hd : decode M.2.1 pc = .ok (.tableswitch dflt 0 hi offs, len)) (hx : x = OfNat.ofNat k) (h1 : ¬ (OfNat.ofNat k : Int32).toInt < 0) (h2 : ¬ hi < (OfNat.ofNat k : Int32).toInt) {off : Int} (ho : offs[((OfNat.ofNat k : Int32).toInt - 0).toNat]? = some off) (ht : (pc : Int) + off = (tgt : Int)) (kk : V l G M o φ res tgt L st w cs sl) : V l G M o φ res pc L (vI x :: st) w cs sl := by
  subst hx
  intro p e s m args below meth c al0 al H locs ls S hB hH hS hl b hr
  exact lv_tableIn S.1 S.2.1 hd h1 h2 ho ht (kk p e s m args below meth c al0 al H locs ls S hB hH hS hl b hr)
theorem V.tsO {x : Int32} {dflt hi : Int} {offs : Array Int} {len : Nat} (tgt : Nat) (hd : decode M.2.1 pc = .ok (.tableswitch dflt 0 hi offs, len)) (h : x.toInt < 0 ∨ hi < x.toInt) (ht : (pc : Int) + dflt = (tgt : Int)) (kk : V l G M o φ res tgt L st w cs sl) : V l G M o φ res pc L (vI x :: st) w cs sl := by
  intro p e s m args below meth c al0 al H locs ls S hB hH hS hl b hr
  exact lv_tableOut S.1 S.2.1 hd h ht (kk p e s m args below meth c al0 al H locs ls S hB hH hS hl b hr)
theorem V.salen {k : vk} (hd : decode M.2.1 pc = .ok (.arraylength, 1)) (hp : decide (0 < alen 0 S.2.2 k) = true) (kk : V l G M o φ res (pc + 1) L (vI (nI (alen 0 S.2.2 k)) :: st) (enc S) cs sl) : V l G M o φ res pc L (vR k :: st) (enc S) cs sl := by
  intro p e s m args below meth c al0 al H locs ls Sd0 hB hH hS hl b hr
  have h0 : inb 0 (alen 0 S.2.2 k) = true := by
    unfold inb
    rw [Bool.and_eq_true, decide_eq_true_eq, decide_eq_true_eq]
    exact ⟨by decide, of_decide_eq_true hp⟩
  have ha : va_at G.1 vwCl (al k, .inl (G.2.1 0, alen 0 S.2.2 k, .inl (S.1 k))) H := hH.1 _ _ (enc_at (alen_at h0).1 (alen_at h0).2)
  exact va_alen Sd0.1 Sd0.2.1 Sd0.2.2.2.2.2.2.2.2.1.1 (va_P1 ha) 0 0 rfl (ty := .int) rfl rfl hd (kk p e s m args below meth c al0 al H locs ls Sd0 hB hH hS hl b hr)
end VAux
