/-! QUERIES, what they need more -/
theorem bsN_zero {f : Int → Int} : ∀ {n : Nat}, (∀ k : Int, 0 ≤ k ∧ k < n → f k = 0) → bsN f n = 0
  | 0, _ => rfl
  | n + 1, h => by rw [bsN_S, bsN_zero (fun k hk => h k (by omega)), h n (by omega)]; omega
theorem bsN_ext {f : Int → Int} {n : Nat} : ∀ {m : Nat}, n ≤ m → (∀ k : Int, (n : Int) ≤ k ∧ k < m → f k = 0) → bsN f m = bsN f n
  | 0, h, _ => by rw [show n = 0 by omega]
  | m + 1, h, hz => by
    rcases Nat.lt_or_ge n (m + 1) with q | q
    · rw [bsN_S, bsN_ext (n := n) (m := m) (by omega) (fun k hk => hz k (by omega)), hz m (by omega)]; omega
    · rw [show n = m + 1 by omega]
theorem CK.rk {σ : MM} {j : Int} {B : BK} {w : Int → Int} {y : Int} (h : CK σ j B w) (hy : 0 ≤ y ∧ y ≤ B 1 0) : RK σ j y B (YS B w y.toNat) := by
  obtain ⟨n, rfl⟩ := Int.eq_ofNat_of_zero_le hy.1
  exact h n hy.2
def ALL (B : BK) (y : Int) : Int := ALS B (YS B (bt 0) y.toNat)
theorem ALL_in {B : BK} (hW : WB B) (y : Int) : 0 ≤ ALL B y ∧ ALL B y ≤ 420 := ALS_in hW.s (TB_YS hW (w := bt 0) (fun k _ => bt_01 0 k) y.toNat)
def THR (B : BK) (y : Int) : Int := bsN (fun e => bI (B 13 e ≤ y)) (B 6 0).toNat
theorem THR_in {B : BK} (hs : WS B) (y : Int) : 0 ≤ THR B y ∧ THR B y < 128 := by
  have h := bsI_in (fun e => B 13 e ≤ y) (B 6 0).toNat
  have h2 := p2_le (a := (((B 6 0).toNat : Nat) : Int)) (b := 7) (by omega)
  have h3 : p2 7 = 128 := rfl
  unfold THR
  exact ⟨h.1, by have := h.2; omega⟩
theorem THR_bt {B : BK} {y e : Int} (he : 0 ≤ e ∧ e < B 6 0) : (bt (THR B y) e = 1 ↔ B 13 e ≤ y) := bt_I (by omega)
theorem DRK_eq (B : BK) (y : Int) : bst (fun e => bt (THR B y) e = 1) (SHD B (bt 0) y) (B 6 0).toNat = DRK B y := bst_cong (fun x hx => ⟨THR_bt (by omega), rfl⟩)
theorem PAL_eq (B : BK) (y : Int) : bst (fun e => bt (THR B y) e = 1) (fun e => -SHD B (bt 0) y e) (B 6 0).toNat = PAL B y := bst_cong (fun x hx => ⟨THR_bt (by omega), rfl⟩)
def andB (a b : Int) : Int := ((a.toNat &&& b.toNat : Nat) : Int)
theorem bw_andB {a b : Int} (ha : 0 ≤ a) (hb : 0 ≤ b) : iN a &&& iN b = iN (andB a b) := by
  obtain ⟨n, rfl⟩ := Int.eq_ofNat_of_zero_le ha
  obtain ⟨m, rfl⟩ := Int.eq_ofNat_of_zero_le hb
  exact bw_and n m
theorem bt_andB {a b e : Int} (ha : 0 ≤ a) (hb : 0 ≤ b) (he : 0 ≤ e) : bt (andB a b) e = 1 ↔ bt a e = 1 ∧ bt b e = 1 := by
  obtain ⟨n, rfl⟩ := Int.eq_ofNat_of_zero_le ha
  obtain ⟨m, rfl⟩ := Int.eq_ofNat_of_zero_le hb
  obtain ⟨i, rfl⟩ := Int.eq_ofNat_of_zero_le he
  show bt ((n &&& m : Nat) : Int) i = 1 ↔ _
  rw [bt_nat, bt_nat, bt_nat, Nat.testBit_and]
  cases n.testBit i <;> cases m.testBit i <;> simp
theorem andB_in {a b : Int} (ha : 0 ≤ a) : 0 ≤ andB a b ∧ andB a b ≤ a := by
  obtain ⟨n, rfl⟩ := Int.eq_ofNat_of_zero_le ha
  have := Nat.and_le_left (n := n) (m := b.toNat)
  unfold andB
  simp only [Int.toNat_natCast]
  omega
theorem q_darkest_eq {B : BK} {y : Int} (h : ¬ (B 0 0 = 0 ∨ y < 0 ∨ B 1 0 < y)) : q_darkest B y = DRK B y := if_neg h
theorem q_palest_eq {B : BK} {y : Int} (h : ¬ (B 0 0 = 0 ∨ y < 0 ∨ B 1 0 < y)) : q_palest B y = PAL B y := if_neg h
theorem DRK_in (B : BK) (y : Int) : DRK B y = -1 ∨ (0 ≤ DRK B y ∧ DRK B y < B 6 0) := by
  rcases bst_in (p := fun e => B 13 e ≤ y) (g := SHD B (bt 0) y) (B 6 0).toNat with h | h
  · exact Or.inl h
  · exact Or.inr ⟨h.1, by have := h.2.1; unfold DRK; omega⟩
theorem PAL_in (B : BK) (y : Int) : PAL B y = -1 ∨ (0 ≤ PAL B y ∧ PAL B y < B 6 0) := by
  rcases bst_in (p := fun e => B 13 e ≤ y) (g := fun e => -SHD B (bt 0) y e) (B 6 0).toNat with h | h
  · exact Or.inl h
  · exact Or.inr ⟨h.1, by have := h.2.1; unfold PAL; omega⟩
