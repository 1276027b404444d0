/-! QUERIES of the reference: what they need -/
def QT (σ : MM) (B : BK) (σi : MM) : Prop := MB σi 0 B ∧ KM σ σi
def QS (σ : MM) (B : BK) (σi : MM) : Prop := MB σi 0 B ∧ LD σi B B 0 ∧ SHM σi B B 0 ∧ KM σ σi
theorem LD.w47 {σ : MM} {B E : BK} {wv : Int} (hL : LD σ B E wv) (h : ∀ e : Int, 0 ≤ e ∧ e < B 6 0 → E 13 e < 99) : ∀ e : Int, 0 ≤ e ∧ e < B 6 0 → σ 47 0 e = E 13 e := fun e he => by
  rcases hL.wr he with q | q
  · have := h e he; omega
  · exact q.2
theorem GB.n99 {B : BK} (h : GB B) : ∀ e : Int, 0 ≤ e ∧ e < B 6 0 → B 13 e < 99 := fun e he => by have := h.n he; omega
theorem bt_c127 {x : Int} (hx : 0 ≤ x ∧ x < 7) : bt 127 x = 1 := by
  have h : x = 0 ∨ x = 1 ∨ x = 2 ∨ x = 3 ∨ x = 4 ∨ x = 5 ∨ x = 6 := by omega
  rcases h with rfl | rfl | rfl | rfl | rfl | rfl | rfl <;> decide
theorem bst_1 (p : Int → Prop) [DecidablePred p] (g : Int → Int) (n : Nat) : bst p (fun e => 1 * g e) n = bst p g n := bst_cong (fun x _ => ⟨Iff.rfl, Int.one_mul _⟩)
theorem bst_m1 (p : Int → Prop) [DecidablePred p] (g : Int → Int) (n : Nat) : bst p (fun e => -1 * g e) n = bst p (fun e => -g e) n := bst_cong (fun x _ => ⟨Iff.rfl, by omega⟩)
theorem bst_no {p : Int → Prop} [DecidablePred p] {g : Int → Int} : ∀ {n : Nat}, bst p g n = -1 ↔ ∀ k : Int, 0 ≤ k ∧ k < n → ¬ p k
  | 0 => ⟨fun _ k hk => by omega, fun _ => rfl⟩
  | n + 1 => by
    have ih := bst_no (p := p) (g := g) (n := n)
    rw [bst_S]
    constructor
    · intro h k hk
      by_cases c : p n ∧ (bst p g n = -1 ∨ g (bst p g n) < g n)
      · rw [if_pos c] at h; omega
      · rw [if_neg c] at h
        by_cases q : k = n
        · subst q; exact fun z => c ⟨z, Or.inl h⟩
        · exact ih.mp h k (by omega)
    · intro h
      rw [if_neg (fun z => h n (by omega) z.1)]
      exact ih.mpr (fun k hk => h k (by omega))
theorem bsI_0 {p : Int → Prop} [DecidablePred p] : ∀ {n : Nat}, bsN (fun e => bI (p e)) n = 0 ↔ ∀ k : Int, 0 ≤ k ∧ k < n → ¬ p k
  | 0 => ⟨fun _ k hk => by omega, fun _ => rfl⟩
  | n + 1 => by
    have ih := bsI_0 (p := p) (n := n)
    have hb := bsI_in p n
    have hp := p2_pos (n : Int)
    rw [bsN_S]
    by_cases c : p n
    · rw [bI_t c]
      constructor
      · intro h; omega
      · intro h; exact absurd c (h n (by omega))
    · rw [bI_f c, Int.zero_mul, Int.add_zero, ih]
      constructor
      · intro h k hk
        by_cases q : k = n
        · subst q; exact c
        · exact h k (by omega)
      · intro h k hk; exact h k (by omega)
theorem bw_again {a z : Int} (ha : 0 ≤ a) (h : a < p2 z) : iN (a + p2 z) ||| iN (p2 z) = iN (a + p2 z) := by
  rw [← bw_or_add ha h]
  show iN a ||| iN (p2 z) ||| iN (p2 z) = _
  rw [Int32.or_assoc, Int32.or_self]
theorem p2_32 {z : Int} (h : 0 ≤ z ∧ z ≤ 30) : 1 ≤ p2 z ∧ p2 z ≤ 1073741824 := ⟨by have := p2_pos z; omega, p2_lt31 h.2⟩
theorem STD_0 (g : Int → Int) (wr : Int) : STD g wr 0 = (0, 0) := rfl
theorem STD_S (g : Int → Int) (wr : Int) (n : Nat) : STD g wr (n + 1) = if 0 < n ∧ g (wr + n) = g (wr + n - 1) then (max (STD g wr n).1 ((STD g wr n).2 + 1), (STD g wr n).2 + 1) else (max (STD g wr n).1 1, 1) := rfl
theorem q_sorts_m {B : BK} {y : Int} (hs : WS B) : SOR (fun e => bt 127 e = 1 ∧ B 13 e ≤ y) (SHD B (bt 0) y) (B 6 0).toNat = SOR (fun e => B 13 e ≤ y) (SHD B (bt 0) y) (B 6 0).toNat := SOR_cong (fun x hx => ⟨fun q => q.2, fun q => ⟨bt_c127 (by omega), q⟩⟩)
theorem THR_dp {B : BK} {y : Int} : bsN (fun e => bI (B 13 e ≤ y)) (B 6 0).toNat = 0 ↔ DRK B y = -1 := by
  unfold DRK
  rw [bsI_0, bst_no]
theorem THR_pp {B : BK} {y : Int} : bsN (fun e => bI (B 13 e ≤ y)) (B 6 0).toNat = 0 ↔ PAL B y = -1 := by
  unfold PAL
  rw [bsI_0, bst_no]
theorem PSI_bt {B : BK} {e i y : Int} (hi : 0 ≤ i ∧ i < B 4 0) : bt (PSI B e y) i = 1 ↔ SHD B (bt 0) y e = LNE B i (B 11 e) (B 14 e) y := bt_I (p := fun i => SHD B (bt 0) y e = LNE B i (B 11 e) (B 14 e) y) (by omega)
