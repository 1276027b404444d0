/-! QUERIES, sets and unlike ones -/
def ONP (B : BK) (p : Int) : Int := bsN (fun e => bI (B 11 e = p)) (B 6 0).toNat
theorem ONP_in {B : BK} (hs : WS B) (p : Int) : 0 ≤ ONP B p ∧ ONP B p < 128 := by
  have h := bsI_in (fun e => B 11 e = p) (B 6 0).toNat
  have h2 := p2_le (a := (((B 6 0).toNat : Nat) : Int)) (b := 7) (by omega)
  have h3 : p2 7 = 128 := rfl
  unfold ONP
  exact ⟨h.1, by have := h.2; omega⟩
theorem ONP_bt {B : BK} {p e : Int} (he : 0 ≤ e ∧ e < B 6 0) : (bt (ONP B p) e = 1 ↔ B 11 e = p) := bt_I (by omega)
theorem c_THR {d : Nat} (hd : 1 ≤ d) {σ : MM} {B : BK} {y : Int} (hB : CB σ 1 B) (hW : WB B) (hy : IR y) : V yX5_bitsThere cX5_bitsThere 4 (some .int) d (QI (fun v σ' => v = THR B y ∧ σ' = σ)) 0 [some (vR 0 0), some (vI y), none, none] [] σ := c_X5_bitsThere hd hB hW hy
theorem c_ONP {d : Nat} (hd : 0 ≤ d) {σ : MM} {B : BK} {p : Int} (hB : CB σ 1 B) (hW : WB B) (hp : IR p) : V yX5_bitsOn cX5_bitsOn 4 (some .int) d (QI (fun v σ' => v = ONP B p ∧ σ' = σ)) 0 [some (vR 0 0), some (vI p), none, none] [] σ := c_X5_bitsOn hd hB hW hp
theorem c_DRK {d : Nat} (hd : 1 ≤ d) {σ : MM} {B : BK} {y : Int} (hB : CB σ 1 B) (hW : WB B) (hC : CK σ 0 B (bt 0)) (hy : 0 ≤ y ∧ y ≤ B 1 0) : V yX5_darkestOf cX5_darkestOf 5 (some .int) d (QI (fun v σ' => v = DRK B y ∧ σ' = σ)) 0 [some (vR 0 0), some (vI (THR B y)), some (vI y), none, none] [] σ := by
  have hT := THR_in hW.s y
  have h := c_X5_darkestOf hd (s := THR B y) hB hW hC (by omega) hy
  rw [DRK_eq] at h
  exact h
theorem c_PAL {d : Nat} (hd : 1 ≤ d) {σ : MM} {B : BK} {y : Int} (hB : CB σ 1 B) (hW : WB B) (hC : CK σ 0 B (bt 0)) (hy : 0 ≤ y ∧ y ≤ B 1 0) : V yX5_palestOf cX5_palestOf 5 (some .int) d (QI (fun v σ' => v = PAL B y ∧ σ' = σ)) 0 [some (vR 0 0), some (vI (THR B y)), some (vI y), none, none] [] σ := by
  have hT := THR_in hW.s y
  have h := c_X5_palestOf hd (s := THR B y) hB hW hC (by omega) hy
  rw [PAL_eq] at h
  exact h
theorem bw_lshl1 : ∀ n : Nat, n < 63 → lI 1 <<< ((iN (n : Int)).toInt64 &&& 63) = lI (((2 ^ n : Nat)) : Int) := by decide +kernel
theorem bw_lshl {y : Int} (hy : 0 ≤ y ∧ y < 63) : lI 1 <<< ((iN y).toInt64 &&& 63) = lI (p2 y) := by
  obtain ⟨n, rfl⟩ := Int.eq_ofNat_of_zero_le hy.1
  exact bw_lshl1 n (by omega)
theorem lI_nat (n : Nat) : lI (n : Int) = Int64.ofNat n := Int64.ofInt_eq_ofNat
theorem bw_land {a b : Int} (ha : 0 ≤ a) (hb : 0 ≤ b) : lI a &&& lI b = lI (andB a b) := by
  obtain ⟨n, rfl⟩ := Int.eq_ofNat_of_zero_le ha
  obtain ⟨m, rfl⟩ := Int.eq_ofNat_of_zero_le hb
  unfold andB
  rw [lI_nat, lI_nat, lI_nat]
  apply Int64.toBitVec_inj.1
  show BitVec.ofNat 64 n &&& BitVec.ofNat 64 m = BitVec.ofNat 64 (n &&& m)
  apply BitVec.eq_of_getLsbD_eq
  intro i hi
  simp [hi]
theorem bw_lor {r e : Int} (hr : 0 ≤ r) (he : 0 ≤ e) : lI r ||| lI (p2 e) = lI (setB r e) := by
  obtain ⟨n, rfl⟩ := Int.eq_ofNat_of_zero_le hr
  unfold setB p2
  rw [lI_nat, lI_nat, lI_nat]
  apply Int64.toBitVec_inj.1
  show BitVec.ofNat 64 n ||| BitVec.ofNat 64 (2 ^ e.toNat) = BitVec.ofNat 64 (n ||| 2 ^ e.toNat)
  apply BitVec.eq_of_getLsbD_eq
  intro i hi
  simp [hi]
theorem andB_p2 {r e : Int} (hr : 0 ≤ r) (he : 0 ≤ e) : andB r (p2 e) = bt r e * p2 e := by
  obtain ⟨n, rfl⟩ := Int.eq_ofNat_of_zero_le hr
  obtain ⟨i, rfl⟩ := Int.eq_ofNat_of_zero_le he
  rw [bt_nat]
  unfold andB p2
  simp only [Int.toNat_natCast]
  have e : n &&& 2 ^ i = if n.testBit i = true then 2 ^ i else 0 := by
    apply Nat.eq_of_testBit_eq
    intro j
    rw [Nat.testBit_and, Nat.testBit_two_pow]
    by_cases h : i = j
    · subst h
      by_cases q : n.testBit i = true
      · rw [if_pos q, q, Nat.testBit_two_pow]; simp
      · rw [if_neg q]; simp [q]
    · by_cases q : n.testBit i = true
      · rw [if_pos q, Nat.testBit_two_pow]; simp [h]
      · rw [if_neg q]; simp [h]
  rw [e]
  by_cases q : n.testBit i = true
  · rw [if_pos q, if_pos q]; omega
  · rw [if_neg q, if_neg q]; omega
/-- the shades met, as bits -/
def MET (p : Int → Prop) [DecidablePred p] (g : Int → Int) : Nat → Int
  | 0 => 0
  | n + 1 => if p n ∧ bt (MET p g n) (g n) = 0 then setB (MET p g n) (g n) else MET p g n
theorem MET_in {p : Int → Prop} [DecidablePred p] {g : Int → Int} : ∀ {n : Nat}, (∀ k : Int, 0 ≤ k ∧ k < n → 0 ≤ g k ∧ g k < 61) → 0 ≤ MET p g n ∧ MET p g n < p2 (61 : Nat)
  | 0, _ => ⟨Int.le_refl 0, p2_pos _⟩
  | n + 1, h => by
    have ih := MET_in (n := n) (p := p) (g := g) (fun k hk => h k (by omega))
    rw [MET]
    split
    · exact setB_in ih (h n (by omega))
    · exact ih
theorem MET_bt {p : Int → Prop} [DecidablePred p] {g : Int → Int} {s : Int} (hs : 0 ≤ s) : ∀ {n : Nat}, (∀ k : Int, 0 ≤ k ∧ k < n → 0 ≤ g k ∧ g k < 61) → (bt (MET p g n) s = 0 ↔ ∀ k : Int, 0 ≤ k ∧ k < n → ¬ (p k ∧ g k = s))
  | 0, _ => ⟨fun _ k hk => by omega, fun _ => by rw [MET]; exact bt_0 s⟩
  | n + 1, h => by
    have hn := h n (by omega)
    have hm := MET_in (n := n) (p := p) (g := g) (fun k hk => h k (by omega))
    have ih := MET_bt hs (n := n) (p := p) (g := g) (fun k hk => h k (by omega))
    have step : (∀ k : Int, 0 ≤ k ∧ k < ((n + 1 : Nat) : Int) → ¬ (p k ∧ g k = s)) ↔ (∀ k : Int, 0 ≤ k ∧ k < n → ¬ (p k ∧ g k = s)) ∧ ¬ (p n ∧ g n = s) := by
      constructor
      · intro q; exact ⟨fun k hk => q k (by omega), q n (by omega)⟩
      · intro q k hk r
        by_cases e : k = n
        · subst e; exact q.2 r
        · exact q.1 k (by omega) r
    rw [step, ← ih, MET]
    by_cases hp : p n ∧ bt (MET p g n) (g n) = 0
    · rw [if_pos hp, bt_setB hm.1 hn.1 hs]
      by_cases e : s = g n
      · rw [if_pos e]
        exact ⟨fun q => absurd q (by decide), fun q => absurd ⟨hp.1, e.symm⟩ q.2⟩
      · rw [if_neg e]
        exact ⟨fun q => ⟨q, fun r => e r.2.symm⟩, fun q => q.1⟩
    · rw [if_neg hp]
      refine ⟨fun q => ⟨q, fun r => hp ⟨r.1, by rw [r.2]; exact q⟩⟩, fun q => q.1⟩
theorem fst_m1 {p : Int → Prop} [DecidablePred p] {n : Nat} : fst p n 0 = -1 ↔ ∀ k : Int, 0 ≤ k ∧ k < n → ¬ p k := by
  constructor
  · intro h
    have key : ∀ (m : Nat) (i : Int), 0 ≤ i → fst p m i = -1 → ∀ k : Int, i ≤ k ∧ k < i + m → ¬ p k := by
      intro m
      induction m with
      | zero => intro i _ _ k hk; omega
      | succ m ih =>
        intro i hi h k hk
        rw [fst] at h
        by_cases q : p i
        · rw [if_pos q] at h; omega
        · rw [if_neg q] at h
          by_cases e : k = i
          · subst e; exact q
          · exact ih (i + 1) (by omega) h k (by omega)
    intro k hk
    exact key n 0 (by omega) h k (by omega)
  · intro h; exact fst_no _ _ (fun y hy => h y (by omega))
theorem MET_fst {p : Int → Prop} [DecidablePred p] {g : Int → Int} {n : Nat} (h : ∀ k : Int, 0 ≤ k ∧ k ≤ n → 0 ≤ g k ∧ g k < 61) : (bt (MET p g n) (g n) = 0 ↔ fst (fun k => p k ∧ g k = g n) ((n : Int)).toNat 0 = -1) := by
  rw [fst_m1, MET_bt (h n (by omega)).1 (fun k hk => h k (by omega))]
  simp
theorem SOR_cong {p q : Int → Prop} [DecidablePred p] [DecidablePred q] {g : Int → Int} {n : Nat} (h : ∀ x : Int, 0 ≤ x ∧ x < n → (p x ↔ q x)) : SOR p g n = SOR q g n := by
  unfold SOR
  refine sumN_cong (fun k h0 h1 => bI_cong ?_)
  have e : fst (fun x => p x ∧ g x = g k) k.toNat 0 = fst (fun x => q x ∧ g x = g k) k.toNat 0 := fst_cong _ _ (fun x hx => by rw [h x (by omega)])
  rw [e, h k (by omega)]
theorem cmpZ_in (a b : Int) : -1 ≤ cmpZ a b ∧ cmpZ a b ≤ 1 ∧ (cmpZ a b > 0 ↔ b < a) ∧ (cmpZ a b = 0 ↔ a = b) ∧ (cmpZ a b < 0 ↔ a < b) := by
  unfold cmpZ
  (repeat' split) <;> omega
