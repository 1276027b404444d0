/-! WHAT WAS SEEN, tried -/
theorem RFS_in (B : BK) (Z : Nat → Int → Int → Int) (k : Int) : RFS B Z k = -2 ∨ RFS B Z k = -6 ∨ RFS B Z k = 0 := by
  unfold RFS
  (repeat' split) <;> simp
theorem RFS_0 {B : BK} {Z : Nat → Int → Int → Int} {k : Int} (h : RFS B Z k = 0) : (0 ≤ k ∧ k < 4) ∧ B 0 0 ≠ 0 ∧ Z 0 k 0 ≠ 0 ∧ SND B Z k := by
  unfold RFS at h
  by_cases h1 : (k < 0 ∨ 4 ≤ k) ∨ B 0 0 = 0
  · rw [if_pos h1] at h; omega
  · rw [if_neg h1] at h
    by_cases h2 : Z 0 k 0 = 0
    · rw [if_pos h2] at h; omega
    · rw [if_neg h2] at h
      by_cases h3 : SND B Z k
      · exact ⟨by omega, by omega, h2, h3⟩
      · rw [if_neg h3] at h; omega
theorem SND_cong {B B' : BK} {Z : Nat → Int → Int → Int} {k : Int} (h1 : B' 1 0 = B 1 0) (h6 : B' 6 0 = B 6 0) (h : SND B Z k) : SND B' Z k := by
  refine ⟨h.1, fst_m1.mpr (fun t ht => ?_)⟩
  have := fst_m1.mp h.2 t ht
  show ¬ BAD B' (Z 3 k) t
  unfold BAD
  rw [h1, h6]
  exact this
def mxv (g : Int → Int) : Nat → Int
  | 0 => 0
  | n + 1 => max (mxv g n) (g n)
theorem mxv_cong {f g : Int → Int} : ∀ {n : Nat}, (∀ k : Int, 0 ≤ k ∧ k < n → f k = g k) → mxv f n = mxv g n
  | 0, _ => rfl
  | n + 1, h => by rw [mxv, mxv, mxv_cong (fun k hk => h k (by omega)), h n (by omega)]
theorem mxv_0 {f : Int → Int} : ∀ {n : Nat}, (∀ k : Int, 0 ≤ k ∧ k < n → f k = 0) → mxv f n = 0
  | 0, _ => rfl
  | n + 1, h => by rw [mxv, mxv_0 (fun k hk => h k (by omega)), h n (by omega)]; rfl
theorem mxv_in {f : Int → Int} {c : Int} (hc : 0 ≤ c) : ∀ {n : Nat}, (∀ k : Int, 0 ≤ k ∧ k < n → f k ≤ c) → 0 ≤ mxv f n ∧ mxv f n ≤ c
  | 0, _ => by rw [mxv]; omega
  | n + 1, h => by
    have ih := mxv_in hc (n := n) (f := f) (fun k hk => h k (by omega))
    have := h n (by omega)
    rw [mxv]
    omega
theorem mxv_up {f g : Int → Int} {s : Int} (hs : f s ≤ g s) (ho : ∀ k : Int, k ≠ s → g k = f k) : ∀ {n : Nat}, 0 ≤ s → mxv g n = if s < n then max (mxv f n) (g s) else mxv f n
  | 0, h0 => by rw [if_neg (by omega)]; rfl
  | n + 1, h0 => by
    have ih := mxv_up hs ho (n := n) h0
    rw [mxv, mxv, ih]
    by_cases e : s = n
    · subst e
      rw [if_neg (by omega), if_pos (by omega)]
      omega
    · rw [ho n (fun q => e q.symm)]
      by_cases q : s < n
      · rw [if_pos q, if_pos (by omega)]; omega
      · rw [if_neg q, if_neg (by omega)]
def TLY (B : BK) (e f y s : Int) (n : Nat) : Int := sumN (fun w => bI (bt f w = 1 ∧ SHD (sB B 13 e w) (bt 0) y e = s)) n
def LFW (B : BK) (e f y : Int) : Int := mxv (fun s => TLY B e f y s (B 1 0 + 1).toNat) 61
/-- the most so far -/
def MOS (B : BK) (e f y : Int) (n : Nat) : Int := mxv (fun s => TLY B e f y s n) 61
theorem TLY_S (B : BK) (e f y s : Int) (n : Nat) : TLY B e f y s (n + 1) = TLY B e f y s n + bI (bt f n = 1 ∧ SHD (sB B 13 e n) (bt 0) y e = s) := rfl
theorem TLY_in (B : BK) (e f y s : Int) (n : Nat) : 0 ≤ TLY B e f y s n ∧ TLY B e f y s n ≤ n := suI_in (fun w => bt f w = 1 ∧ SHD (sB B 13 e w) (bt 0) y e = s) n
theorem MOS_in (B : BK) (e f y : Int) (n : Nat) : 0 ≤ MOS B e f y n ∧ MOS B e f y n ≤ n := mxv_in (by omega) (fun k _ => (TLY_in B e f y k n).2)
theorem LFW_in {B : BK} (hs : WS B) (e f y : Int) : 0 ≤ LFW B e f y ∧ LFW B e f y ≤ 21 := by
  have := MOS_in B e f y (B 1 0 + 1).toNat
  unfold MOS at this
  unfold LFW
  omega
theorem MOS_no {B : BK} {e f y : Int} {n : Nat} (h : ¬ bt f n = 1) : MOS B e f y (n + 1) = MOS B e f y n := by
  unfold MOS
  exact mxv_cong (fun s _ => by rw [TLY_S, bI_f (fun q => h q.1)]; omega)
theorem MOS_yes {B : BK} {e f y s : Int} {n : Nat} (h : bt f n = 1) (hs : SHD (sB B 13 e n) (bt 0) y e = s) (h0 : 0 ≤ s ∧ s < 61) : MOS B e f y (n + 1) = max (MOS B e f y n) (TLY B e f y s n + 1) := by
  unfold MOS
  have h1 : TLY B e f y s (n + 1) = TLY B e f y s n + 1 := by rw [TLY_S, bI_t ⟨h, hs⟩]
  have h2 : ∀ k : Int, k ≠ s → TLY B e f y k (n + 1) = TLY B e f y k n := fun k hk => by rw [TLY_S, bI_f (fun q => hk (q.2.symm.trans hs))]; omega
  have := mxv_up (f := fun s => TLY B e f y s n) (g := fun s => TLY B e f y s (n + 1)) (s := s) (by show TLY B e f y s n ≤ TLY B e f y s (n + 1); omega) h2 (n := 61) h0.1
  rw [this, if_pos (by omega), h1]
/-- the best question, and what it leaves -/
def BQ (B : BK) (e f : Int) : Nat → Int × Int
  | 0 => (-1, POP f)
  | n + 1 => if LFW B e f n < (BQ B e f n).2 then ((n : Int), LFW B e f n) else BQ B e f n
theorem BQ_in {B : BK} (hs : WS B) (e f : Int) : ∀ n : Nat, (0 ≤ (BQ B e f n).2 ∧ (BQ B e f n).2 ≤ 24) ∧ (-1 ≤ (BQ B e f n).1 ∧ (BQ B e f n).1 < n) ∧ ((BQ B e f n).1 = -1 → (BQ B e f n).2 = POP f) ∧ ((BQ B e f n).1 ≠ -1 → (BQ B e f n).2 = LFW B e f (BQ B e f n).1)
  | 0 => ⟨POP_in, ⟨by show -1 ≤ (-1 : Int); omega, by show (-1 : Int) < ((0 : Nat) : Int); omega⟩, fun _ => rfl, fun q => absurd rfl q⟩
  | n + 1 => by
    have ih := BQ_in hs e f n
    have h := LFW_in hs e f n
    rw [BQ]
    split
    · exact ⟨by show 0 ≤ LFW B e f n ∧ LFW B e f n ≤ 24; omega, by show -1 ≤ (n : Int) ∧ (n : Int) < ((n + 1 : Nat) : Int); omega, fun q => absurd (show (n : Int) = -1 from q) (by omega), fun _ => rfl⟩
    · exact ⟨ih.1, by omega, ih.2.2.1, ih.2.2.2⟩
theorem FTY_in {B : BK} (hs : WS B) (Z : Nat → Int → Int → Int) (s e : Int) : 0 ≤ FTY B Z s e ∧ FTY B Z s e < 2097152 := by
  have h := bsI_in (fun w => FIT (sB B 13 e w) (bt 0) Z s) (B 1 0 + 1).toNat
  have h2 := p2_le (a := (((B 1 0 + 1).toNat : Nat) : Int)) (b := 21) (by omega)
  have h3 : p2 21 = 2097152 := rfl
  unfold FTY
  exact ⟨h.1, by have := h.2; omega⟩
def RQ (B : BK) (Z : Nat → Int → Int → Int) (s e x : Int) : Int := if e < 0 ∨ B 6 0 ≤ e then -2 else if RFS B Z s ≠ 0 then RFS B Z s else x
def q_dates (B : BK) (Z : Nat → Int → Int → Int) (s e : Int) : Int := RQ B Z s e (POP (FTY B Z s e))
def q_first (B : BK) (Z : Nat → Int → Int → Int) (s e : Int) : Int := RQ B Z s e (fst (fun y => bt (FTY B Z s e) y = 1) (B 1 0 + 1).toNat 0)
def q_last (B : BK) (Z : Nat → Int → Int → Int) (s e : Int) : Int := RQ B Z s e (lst (fun y => bt (FTY B Z s e) y = 1) (B 1 0 + 1).toNat)
def q_ask (B : BK) (Z : Nat → Int → Int → Int) (s e : Int) : Int := RQ B Z s e (BQ B e (FTY B Z s e) (B 1 0 + 1).toNat).1
def q_leaves (B : BK) (Z : Nat → Int → Int → Int) (s e : Int) : Int := RQ B Z s e (BQ B e (FTY B Z s e) (B 1 0 + 1).toNat).2
/-- what is supposed -/
def SUP (σ : MM) (B : BK) (e : Int) (n : Int) : Prop := ∀ w y : Int, 0 ≤ w ∧ w < n → 0 ≤ y ∧ y ≤ B 1 0 → σ 30 w y = SHD (sB B 13 e w) (bt 0) y e
theorem lst_S (p : Int → Prop) [DecidablePred p] (n : Nat) : lst p (n + 1) = if p n then (n : Int) else lst p n := rfl
