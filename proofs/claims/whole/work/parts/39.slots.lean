/-! WHAT STAYS, when the class tries -/
abbrev SCR (t : Nat) (k : Int) : Prop := (3 ≤ t ∧ t ≤ 17 ∧ (k = 2 ∨ k = 0)) ∨ (t = 21 ∧ k = 1) ∨ ((t = 22 ∨ t = 23) ∧ 21 ≤ k) ∨ (30 ≤ t ∧ t ≤ 33)
def Keep (σ σ' : MM) : Prop := ∀ (t : Nat) (k z : Int), ¬ SCR t k → σ' t k z = σ t k z
theorem Keep.rf {σ : MM} : Keep σ σ := fun _ _ _ _ => rfl
theorem Keep.tr {σ σ1 σ2 : MM} (h : Keep σ σ1) (h2 : Keep σ1 σ2) : Keep σ σ2 := fun t k z a => (h2 t k z a).trans (h t k z a)
theorem OffB.keep {b : Int} {σ σ' : MM} (h : OffB b σ σ') (hb : b = 2 ∨ b = 0) : Keep σ σ' := fun t k z a => h t k z (fun q => a (by unfold SCR; omega))
theorem OffC.keep {σ σ' : MM} (h : OffC 1 σ σ') : Keep σ σ' := fun t k z a => h t k z (fun q => a (by unfold SCR; omega)) (fun q => a (by unfold SCR; omega))
theorem Keep.set {σ : MM} {t : Nat} {k z v : Int} (h : SCR t k) : Keep σ (setI σ t k z v) := fun t' k' z' a => by
  have : ¬ (t' = t ∧ k' = k ∧ z' = z) := fun q => a (by rw [q.1, q.2.1]; exact h)
  simp only [setI, this, if_false]
theorem Keep.CB {σ σ' : MM} {b : Int} {B : BK} (h : Keep σ σ') (hb : b = 1 ∨ 3 ≤ b) (hB : CB σ b B) : CB σ' b B := hB.cong (fun t ht => by funext z; exact h t b z (by unfold SCR; omega))
theorem Keep.ck {σ σ' : MM} {B : BK} {w : Int → Int} (h : Keep σ σ') (hs : WS B) (hk : CK σ 0 B w) : CK σ' 0 B w := fun y hy => by
  have e1 : ∀ z, σ' 21 0 z = σ 21 0 z := fun z => h 21 0 z (by unfold SCR; omega)
  have e2 : ∀ z, σ' 22 (21 * 0 + y) z = σ 22 (21 * 0 + y) z := fun z => h 22 _ z (by unfold SCR; omega)
  have e3 : ∀ z, σ' 23 (21 * 0 + y) z = σ 23 (21 * 0 + y) z := fun z => h 23 _ z (by unfold SCR; omega)
  have hk := hk y hy
  have e : RS σ' 0 y = RS σ 0 y := by funext f x; unfold RS; rw [e1, e2, e3]
  unfold RK at hk ⊢
  rw [e, e1]
  exact hk
/-! SLOTS: told, width, how many, cells -/
def ZR (σ : MM) (Z : Nat → Int → Int → Int) : Prop := ∀ k : Int, 0 ≤ k ∧ k < 4 → σ 27 k 1 = Z 0 k 0 ∧ (Z 0 k 0 = 0 ∨ Z 0 k 0 = 1) ∧ (Z 0 k 0 = 1 → (σ 27 k 2 = Z 1 k 0 ∧ 0 ≤ Z 1 k 0 ∧ Z 1 k 0 ≤ 3) ∧ (σ 27 k 3 = Z 2 k 0 ∧ 0 ≤ Z 2 k 0 ∧ Z 2 k 0 ≤ 60) ∧ ∀ i : Int, 0 ≤ i ∧ i < Z 2 k 0 → σ 28 k i = Z 3 k i ∧ LR (Z 3 k i))
theorem Keep.zr {σ σ' : MM} {Z : Nat → Int → Int → Int} (h : Keep σ σ') (hz : ZR σ Z) : ZR σ' Z := by
  intro k hk
  have e : ∀ z, σ' 27 k z = σ 27 k z := fun z => h 27 k z (by unfold SCR; omega)
  have e2 : ∀ z, σ' 28 k z = σ 28 k z := fun z => h 28 k z (by unfold SCR; omega)
  have := hz k hk
  simp only [e, e2]
  exact this
/-- a triple that isn't sound -/
abbrev BAD (B : BK) (c : Int → Int) (t : Int) : Prop := ¬ ((0 ≤ c (3 * t) ∧ c (3 * t) < B 6 0) ∧ (0 ≤ c (3 * t + 1) ∧ c (3 * t + 1) ≤ B 1 0) ∧ (0 ≤ c (3 * t + 2) ∧ c (3 * t + 2) ≤ 60))
abbrev SND (B : BK) (Z : Nat → Int → Int → Int) (k : Int) : Prop := Z 2 k 0 % 3 = 0 ∧ fst (fun t => BAD B (Z 3 k) t) (Z 2 k 0 / 3).toNat 0 = -1
def RFS (B : BK) (Z : Nat → Int → Int → Int) (k : Int) : Int := if (k < 0 ∨ 4 ≤ k) ∨ B 0 0 = 0 then -2 else if Z 0 k 0 = 0 then -6 else if SND B Z k then 0 else -2
abbrev FIT (B : BK) (w : Int → Int) (Z : Nat → Int → Int → Int) (k : Int) : Prop := fst (fun t => SHD B w (Z 3 k (3 * t + 1)) (Z 3 k (3 * t)) ≠ Z 3 k (3 * t + 2)) (Z 2 k 0 / 3).toNat 0 = -1
theorem SND_t {B : BK} {Z : Nat → Int → Int → Int} {k t : Int} (h : SND B Z k) (ht : 0 ≤ t ∧ t < Z 2 k 0 / 3) : (0 ≤ Z 3 k (3 * t) ∧ Z 3 k (3 * t) < B 6 0) ∧ (0 ≤ Z 3 k (3 * t + 1) ∧ Z 3 k (3 * t + 1) ≤ B 1 0) ∧ (0 ≤ Z 3 k (3 * t + 2) ∧ Z 3 k (3 * t + 2) ≤ 60) := by
  have := fst_m1.mp h.2 t (by omega)
  exact Decidable.of_not_not this
