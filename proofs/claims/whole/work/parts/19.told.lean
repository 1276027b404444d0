/-! what a settled course tells -/
def SHD (B : BK) (w : Int → Int) (y e : Int) : Int := YS B w y.toNat 0 e
def RSD (B : BK) (w : Int → Int) (y e : Int) : Int := YS B w y.toNat 2 e
theorem CK.sh {σ : MM} {j : Int} {B : BK} {w : Int → Int} {y e : Int} (h : CK σ j B w) (hy : 0 ≤ y ∧ y ≤ B 1 0) (he : 0 ≤ e ∧ e < B 6 0) : σ 22 (21 * j + y) e = SHD B w y e := by
  obtain ⟨n, rfl⟩ := Int.eq_ofNat_of_zero_le hy.1
  have := ((h n hy.2).2.1 e he).1
  rw [RS_0] at this
  exact this
theorem CK.ri {σ : MM} {j : Int} {B : BK} {w : Int → Int} {y : Int} (h : CK σ j B w) (hs : WS B) (hy : 0 ≤ y ∧ y ≤ B 1 0) : σ 21 j y = bsN (fun e => RSD B w y e) (B 6 0).toNat := by
  obtain ⟨n, rfl⟩ := Int.eq_ofNat_of_zero_le hy.1
  obtain ⟨h1, h2, h3⟩ := h n hy.2
  have e7 : ∀ m : Nat, (m : Int) ≤ 7 → (∀ e : Int, (m : Int) ≤ e → e < 7 → bt (σ 21 j n) e = 0) → σ 21 j n = bsN (bt (σ 21 j n)) m := by
    intro m hm hz
    have key : ∀ k : Nat, m + k ≤ 7 → bsN (bt (σ 21 j n)) (m + k) = bsN (bt (σ 21 j n)) m := by
      intro k
      induction k with
      | zero => intro _; rfl
      | succ k ih =>
        intro hk
        show bsN (bt (σ 21 j n)) (m + k) + bt (σ 21 j n) ((m + k : Nat) : Int) * p2 ((m + k : Nat) : Int) = _
        rw [ih (by omega), hz _ (by omega) (by omega), Int.zero_mul, Int.add_zero]
    have := key (7 - m) (by omega)
    rw [show m + (7 - m) = 7 by omega] at this
    rw [← this]
    exact bs_of h1 (fun i _ => rfl)
  rw [e7 (B 6 0).toNat (by omega) (fun e q1 q2 => by
    have := h3 e (by omega) (by omega)
    rw [RS_2] at this
    exact this)]
  refine bsN_cong (fun e q1 q2 => ?_)
  have := (h2 e (by omega)).2.1
  rw [RS_2] at this
  exact this
theorem SHD_in {B : BK} {r y e : Int} (hW : WB B) (he : 0 ≤ e ∧ e < B 6 0) : 0 ≤ SHD B (bt r) y e ∧ SHD B (bt r) y e ≤ 60 := ((TB_YS hW (w := bt r) (fun k _ => bt_01 r k) y.toNat) e he).1
theorem RSD_01 {B : BK} {r y e : Int} (hW : WB B) (he : 0 ≤ e ∧ e < B 6 0) : RSD B (bt r) y e = 0 ∨ RSD B (bt r) y e = 1 := ((TB_YS hW (w := bt r) (fun k _ => bt_01 r k) y.toNat) e he).2.1
theorem bt_0 (k : Int) : bt 0 k = 0 := by unfold bt; simp
theorem bsN_S (f : Int → Int) (n : Nat) : bsN f (n + 1) = bsN f n + f n * p2 n := rfl
theorem sumN_S (f : Int → Int) (n : Nat) : sumN f (n + 1) = sumN f n + f n := rfl
theorem bsI_in (p : Int → Prop) [DecidablePred p] (n : Nat) : 0 ≤ bsN (fun e => bI (p e)) n ∧ bsN (fun e => bI (p e)) n < p2 n := bsN_in (fun k _ _ => (bI_01 (p k)).symm.elim Or.inr Or.inl)
theorem suI_in (p : Int → Prop) [DecidablePred p] (n : Nat) : 0 ≤ sumN (fun e => bI (p e)) n ∧ sumN (fun e => bI (p e)) n ≤ n := by
  induction n with
  | zero => exact ⟨Int.le_refl 0, Int.le_refl 0⟩
  | succ n ih =>
    rw [sumN_S]
    show 0 ≤ _ + bI (p n) ∧ _ + bI (p n) ≤ _
    rcases bI_01 (p n) with h | h <;> omega
theorem bt_I {p : Int → Prop} [DecidablePred p] {n : Nat} {i : Int} (hi : 0 ≤ i ∧ i < n) : (bt (bsN (fun e => bI (p e)) n) i = 1 ↔ p i) := by
  rw [bt_bs (fun k _ _ => (bI_01 (p k)).symm.elim Or.inr Or.inl) hi]
  unfold bI
  split <;> rename_i h <;> simp [h]
theorem p2_31 {n : Nat} (h : n ≤ 30) : p2 n ≤ 1073741824 := p2_lt31 (by omega)
/-- of a first -/
theorem fst_S {p : Int → Prop} [DecidablePred p] {k : Nat} {i : Int} (hk : 0 < k) : fst p k i = if p i then i else fst p (k - 1) (i + 1) := by
  cases k with
  | zero => omega
  | succ k => rfl
theorem bst_S (p : Int → Prop) [DecidablePred p] (g : Int → Int) (n : Nat) : bst p g (n + 1) = if p n ∧ (bst p g n = -1 ∨ g (bst p g n) < g n) then (n : Int) else bst p g n := rfl
