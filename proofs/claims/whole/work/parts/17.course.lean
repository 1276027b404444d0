/-! a whole course -/
def YP (B : BK) (w : Int → Int) : Nat → BK
  | 0 => fun _ _ => 0
  | n + 1 => YS B w n
def YW (w : Int → Int) : Nat → Int
  | 0 => 0
  | n + 1 => w n
theorem YS_eq (B : BK) (w : Int → Int) (i : Nat) : YS B w i = PAS B (YP B w i) i (YW w i) := by cases i <;> rfl
def CK (σ : MM) (j : Int) (B : BK) (w : Int → Int) : Prop := ∀ y : Nat, (y : Int) ≤ B 1 0 → RK σ j y B (YS B w y)
def OffC (j : Int) (σ σ' : MM) : Prop := ∀ (t : Nat) (k z : Int), ¬ (t = 21 ∧ k = j) → ¬ ((t = 22 ∨ t = 23) ∧ 21 * j ≤ k ∧ k < 21 * j + 21) → σ' t k z = σ t k z
theorem OffC.rf {j : Int} {σ : MM} : OffC j σ σ := fun _ _ _ _ _ => rfl
theorem OffC.tr {j : Int} {σ σ1 σ2 : MM} (h : OffC j σ σ1) (h2 : OffC j σ1 σ2) : OffC j σ σ2 := fun t k z a b => (h2 t k z a b).trans (h t k z a b)
theorem Off.C {j y : Int} {σ σ' : MM} (h : Off j y σ σ') (hy : 0 ≤ y ∧ y < 21) : OffC j σ σ' := fun t k z a b => h t k z (fun q => b ⟨Or.inl q.1, by omega, by omega⟩) (fun q => b ⟨Or.inr q.1, by omega, by omega⟩) (fun q => a ⟨q.1, q.2.1⟩)
theorem OffC.tag {j : Int} {σ σ' : MM} (h : OffC j σ σ') {t : Nat} (ht : t ≠ 21 ∧ t ≠ 22 ∧ t ≠ 23) : σ' t = σ t := by
  funext k z
  exact h t k z (fun q => ht.1 q.1) (fun q => by rcases q.1 with r | r; exact ht.2.1 r; exact ht.2.2 r)
theorem OffC.CB {j b : Int} {σ σ' : MM} {B : BK} (h : OffC j σ σ') (hB : CB σ b B) : CB σ' b B := hB.cong (fun t ht => by rw [h.tag (by omega)])
theorem OffC.rk {j j2 y2 : Int} {σ σ' : MM} {B T : BK} (h : OffC j σ σ') (hne : j2 ≠ j) (hy2 : 0 ≤ y2 ∧ y2 < 21) (hk : RK σ j2 y2 B T) : RK σ' j2 y2 B T := by
  have e2 : σ' 21 j2 y2 = σ 21 j2 y2 := h 21 j2 y2 (fun q => hne q.2) (fun q => by omega)
  have e1 : RS σ' j2 y2 = RS σ j2 y2 := by
    funext f e
    unfold RS
    rw [h 22 (21 * j2 + y2) e (fun q => by omega) (fun q => by omega), h 23 (21 * j2 + y2) e (fun q => by omega) (fun q => by omega), e2]
  unfold RK at hk ⊢
  rw [e1, e2]
  exact hk
theorem OffC.ck {j j2 : Int} {σ σ' : MM} {B : BK} {w : Int → Int} (h : OffC j σ σ') (hs : WS B) (hne : j2 ≠ j) (hk : CK σ j2 B w) : CK σ' j2 B w := fun y hy => h.rk hne (by omega) (hk y hy)
theorem YP_ok {σ : MM} {j : Int} {B : BK} {w : Int → Int} {i : Nat} (hT : ∀ n : Nat, TB B n (YS B w n)) (hc : ∀ y : Nat, y < i → RK σ j y B (YS B w y)) : 1 ≤ (i : Int) → RK σ j ((i : Int) - 1) B (YP B w i) ∧ TB B ((i : Int) - 1) (YP B w i) := by
  intro h1
  cases i with
  | zero => omega
  | succ n =>
    rw [show ((n + 1 : Nat) : Int) - 1 = n by omega]
    exact ⟨hc n (by omega), hT n⟩
theorem CK_step {σ σ' : MM} {j v : Int} {B : BK} {w : Int → Int} {i : Nat} (hc : ∀ y : Nat, y < i → RK σ j y B (YS B w y)) (hi : i < 21) (hk : RK σ' j i B (PAS B (YP B w i) i v)) (ho : Off j i σ σ') (hv : v = YW w i) : ∀ y : Nat, y < i + 1 → RK σ' j y B (YS B w y) := by
  intro y hy
  by_cases h : y = i
  · subst h
    rw [YS_eq, ← hv]
    exact hk
  · exact ho.rk (fun q => by omega) (by omega) (by omega) (hc y (by omega))
def ALS (B T : BK) : Int := sumN (T 0) (B 6 0).toNat
theorem sumN_in {f : Int → Int} {c : Int} : ∀ {n : Nat}, (∀ k : Int, 0 ≤ k ∧ k < n → 0 ≤ f k ∧ f k ≤ c) → 0 ≤ sumN f n ∧ sumN f n ≤ n * c
  | 0, _ => by rw [sumN]; omega
  | n + 1, h => by
    have ih := sumN_in (f := f) (c := c) (n := n) (fun k hk => h k (by omega))
    have h1 := h n (by omega)
    have e : ((n + 1 : Nat) : Int) * c = n * c + c := by rw [Int.natCast_succ, Int.add_mul, Int.one_mul]
    rw [sumN, e]
    omega
theorem ALS_in {B T : BK} {y : Int} (hs : WS B) (h : TB B y T) : 0 ≤ ALS B T ∧ ALS B T ≤ 420 := by
  have h1 := sumN_in (f := T 0) (c := 60) (n := (B 6 0).toNat) (fun k hk => (h k (by omega)).1)
  unfold ALS
  omega
