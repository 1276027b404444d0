/-! COUNTING BITS -/
theorem bw_ushr {n k : Nat} {c : Int} (hn : n < 2147483648) (e : (UInt32.mod ((iN c).toUInt32 &&& Int32.toUInt32 31) 32).toBitVec.toNat = k) : ((iN (n : Int)).toUInt32 >>> ((iN c).toUInt32 &&& Int32.toUInt32 31)).toInt32 = iN ((n / 2 ^ k : Nat) : Int) := by
  rw [iN_nat, iN_nat]
  apply Int32.toBitVec_inj.1
  apply BitVec.eq_of_toNat_eq
  show (BitVec.ofNat 32 n).toNat >>> (UInt32.mod ((iN c).toUInt32 &&& Int32.toUInt32 31) 32).toBitVec.toNat = (BitVec.ofNat 32 (n / 2 ^ k)).toNat
  rw [e, BitVec.toNat_ofNat, BitVec.toNat_ofNat, Nat.shiftRight_eq_div_pow, Nat.mod_eq_of_lt (by omega), Nat.mod_eq_of_lt (Nat.lt_of_le_of_lt (Nat.div_le_self _ _) (by omega))]
theorem and_dig {k l h ml mh : Nat} (hl : l < 2 ^ k) (hm : ml < 2 ^ k) : (l + 2 ^ k * h) &&& (ml + 2 ^ k * mh) = (l &&& ml) + 2 ^ k * (h &&& mh) := by
  have hp : 0 < 2 ^ k := Nat.pow_pos (by decide)
  have e := Nat.mod_add_div ((l + 2 ^ k * h) &&& (ml + 2 ^ k * mh)) (2 ^ k)
  rw [← e, Nat.and_mod_two_pow, Nat.and_div_two_pow, Nat.add_mul_mod_self_left, Nat.add_mul_mod_self_left, Nat.mod_eq_of_lt hl, Nat.mod_eq_of_lt hm, Nat.add_mul_div_left _ _ hp, Nat.add_mul_div_left _ _ hp, Nat.div_eq_of_lt hl, Nat.div_eq_of_lt hm, Nat.zero_add, Nat.zero_add]
def bcA (M n : Nat) : Nat := n - ((n / 2) &&& M)
def bcB (M n : Nat) : Nat := (n &&& M) + ((n / 4) &&& M)
def bcC (M n : Nat) : Nat := (n + n / 16) &&& M
theorem bcA_low : ∀ a : Nat, a < 256 → ∀ t : Nat, t < 2 → (a / 2 + 128 * t) &&& 85 = (a / 2) &&& 85 := by decide +kernel
theorem bcB_low : ∀ a : Nat, a < 256 → ∀ t : Nat, t < 4 → (a / 4 + 64 * t) &&& 51 = (a / 4) &&& 51 := by decide +kernel
theorem bcC_low : ∀ a : Nat, a < 69 → ∀ t : Nat, t < 5 → (a + a / 16 + 16 * t) &&& 15 = (a + a / 16) &&& 15 := by decide +kernel
theorem bcA_split {a m M : Nat} (ha : a < 256) : bcA (85 + 256 * M) (a + 256 * m) = bcA 85 a + 256 * bcA M m := by
  unfold bcA
  have e1 : (a + 256 * m) / 2 = (a / 2 + 128 * (m % 2)) + 256 * (m / 2) := by omega
  have e2 := and_dig (k := 8) (l := a / 2 + 128 * (m % 2)) (h := m / 2) (ml := 85) (mh := M) (by show _ < 256; omega) (by decide)
  have e3 := bcA_low a ha (m % 2) (by omega)
  have e4 : (a / 2) &&& 85 ≤ a / 2 := Nat.and_le_left
  have e5 : (m / 2) &&& M ≤ m / 2 := Nat.and_le_left
  show a + 256 * m - (((a + 256 * m) / 2) &&& (85 + 256 * M)) = _
  rw [e1]
  rw [show (256 : Nat) = 2 ^ 8 from rfl, e2, e3]
  omega
theorem bcB_split {a m M : Nat} (ha : a < 256) : bcB (51 + 256 * M) (a + 256 * m) = bcB 51 a + 256 * bcB M m := by
  unfold bcB
  have e1 : (a + 256 * m) / 4 = (a / 4 + 64 * (m % 4)) + 256 * (m / 4) := by omega
  have e2 := and_dig (k := 8) (l := a / 4 + 64 * (m % 4)) (h := m / 4) (ml := 51) (mh := M) (by show _ < 256; omega) (by decide)
  have e0 := and_dig (k := 8) (l := a) (h := m) (ml := 51) (mh := M) ha (by decide)
  have e3 := bcB_low a ha (m % 4) (by omega)
  rw [e1]
  rw [show (256 : Nat) = 2 ^ 8 from rfl, e2, e3, e0]
  omega
theorem bcC_split {a m M : Nat} (ha : a < 69) (hm : m % 16 < 5) : bcC (15 + 256 * M) (a + 256 * m) = bcC 15 a + 256 * bcC M m := by
  unfold bcC
  have e1 : a + 256 * m + (a + 256 * m) / 16 = (a + a / 16 + 16 * (m % 16)) + 256 * (m + m / 16) := by omega
  have e2 := and_dig (k := 8) (l := a + a / 16 + 16 * (m % 16)) (h := m + m / 16) (ml := 15) (mh := M) (by show _ < 256; omega) (by decide)
  have e3 := bcC_low a ha (m % 16) (by omega)
  rw [e1]
  rw [show (256 : Nat) = 2 ^ 8 from rfl, e2, e3]
/-- the bits of one byte -/
def PB (a : Int) : Int := sumN (bt a) 8
theorem byte_ok : ∀ a : Nat, a < 256 → bcA 85 a < 256 ∧ bcB 51 (bcA 85 a) < 69 ∧ bcB 51 (bcA 85 a) % 16 < 5 ∧ ((bcC 15 (bcB 51 (bcA 85 a)) : Nat) : Int) = PB a ∧ bcC 15 (bcB 51 (bcA 85 a)) ≤ 8 := by decide +kernel
theorem sumN_add (f : Int → Int) (m : Nat) : ∀ n : Nat, sumN f (m + n) = sumN f m + sumN (fun k => f (m + k)) n
  | 0 => by show sumN f m = sumN f m + 0; omega
  | n + 1 => by
    rw [← Nat.add_assoc, sumN_S, sumN_add f m n, sumN_S, show ((m + n : Nat) : Int) = (m : Int) + n by omega]
    omega
theorem bt_hi {a m k : Int} (ha : 0 ≤ a ∧ a < 256) (hk : 0 ≤ k) : bt (a + 256 * m) (8 + k) = bt m k := by
  unfold bt
  have e : p2 (8 + k) = 256 * p2 k := by
    unfold p2
    rw [show (8 + k).toNat = 8 + k.toNat by omega, Nat.pow_add]
    simp
  have hp := p2_pos k
  rw [e, ← Int.ediv_ediv_of_nonneg (by omega), Int.add_mul_ediv_left _ _ (by omega), Int.ediv_eq_zero_of_lt ha.1 ha.2, Int.zero_add]
theorem bt_lo {a m k : Int} (hk : 0 ≤ k ∧ k < 8) : bt (a + 256 * m) k = bt a k := by
  unfold bt
  have hp := p2_pos k
  have e : (256 : Int) = p2 k * (2 * p2 (7 - k)) := by
    unfold p2
    have : (256 : Nat) = 2 ^ k.toNat * (2 * 2 ^ (7 - k).toNat) := by
      rw [← Nat.pow_succ', ← Nat.pow_add, show k.toNat + ((7 - k).toNat + 1) = 8 by omega]
    have h2 := congrArg (Nat.cast : Nat → Int) this
    rw [Int.natCast_mul, Int.natCast_mul] at h2
    exact h2
  rw [e, Int.mul_assoc, Int.add_mul_ediv_left _ _ (by omega), Int.mul_assoc, Int.add_mul_emod_self_left]
theorem sum_split {a m : Int} (ha : 0 ≤ a ∧ a < 256) (n : Nat) : sumN (bt (a + 256 * m)) (8 + n) = PB a + sumN (bt m) n := by
  rw [sumN_add]
  unfold PB
  rw [sumN_cong (f := bt (a + 256 * m)) (g := bt a) (fun k h0 h1 => bt_lo ⟨h0, by omega⟩)]
  rw [sumN_cong (f := fun k => bt (a + 256 * m) (((8 : Nat) : Int) + k)) (g := bt m) (fun k h0 _ => bt_hi ha h0)]
/-- how many bits there are -/
def POP (r : Int) : Int := sumN (bt r) 24
theorem pop_ok {n : Nat} (hn : n < 16777216) : ((bcC 252645135 (bcB 858993459 (bcA 1431655765 n)) + bcC 252645135 (bcB 858993459 (bcA 1431655765 n)) / 256 + (bcC 252645135 (bcB 858993459 (bcA 1431655765 n)) + bcC 252645135 (bcB 858993459 (bcA 1431655765 n)) / 256) / 65536) % 64 : Nat) = POP n ∧ bcA 1431655765 n < 16777216 ∧ bcB 858993459 (bcA 1431655765 n) < 16777216 ∧ bcC 252645135 (bcB 858993459 (bcA 1431655765 n)) < 16777216 := by
  obtain ⟨a, b, c, ha, hb, hc, rfl⟩ : ∃ a b c : Nat, a < 256 ∧ b < 256 ∧ c < 256 ∧ n = a + 256 * (b + 256 * c) := ⟨n % 256, n / 256 % 256, n / 65536, by omega, by omega, by omega, by omega⟩
  obtain ⟨a1, a2, a3, a4, a5⟩ := byte_ok a ha
  obtain ⟨b1, b2, b3, b4, b5⟩ := byte_ok b hb
  obtain ⟨c1, c2, c3, c4, c5⟩ := byte_ok c hc
  have hP : POP ((a + 256 * (b + 256 * c) : Nat) : Int) = PB a + (PB b + PB c) := by
    unfold POP
    rw [show ((a + 256 * (b + 256 * c) : Nat) : Int) = (a : Int) + 256 * ((b : Int) + 256 * c) by omega, show (24 : Nat) = 8 + (8 + 8) from rfl, sum_split (by omega), sum_split (by omega)]
    rfl
  have fA1 : ∀ M : Nat, M < 256 → M = 85 → bcA M c = bcA 85 c := fun M _ h => by rw [h]
  have eA : bcA 1431655765 (a + 256 * (b + 256 * c)) = bcA 85 a + 256 * (bcA 85 b + 256 * bcA 21845 c) := by
    rw [show (1431655765 : Nat) = 85 + 256 * (85 + 256 * 21845) from rfl, bcA_split ha, bcA_split hb]
  have eA2 : bcA 21845 c = bcA 85 c := by
    have := bcA_split (a := c) (m := 0) (M := 85) hc
    simpa [bcA] using this
  have eB : bcB 858993459 (bcA 85 a + 256 * (bcA 85 b + 256 * bcA 85 c)) = bcB 51 (bcA 85 a) + 256 * (bcB 51 (bcA 85 b) + 256 * bcB 13107 (bcA 85 c)) := by
    rw [show (858993459 : Nat) = 51 + 256 * (51 + 256 * 13107) from rfl, bcB_split a1, bcB_split b1]
  have eB2 : bcB 13107 (bcA 85 c) = bcB 51 (bcA 85 c) := by
    have := bcB_split (a := bcA 85 c) (m := 0) (M := 51) c1
    simpa [bcB] using this
  have eC : bcC 252645135 (bcB 51 (bcA 85 a) + 256 * (bcB 51 (bcA 85 b) + 256 * bcB 51 (bcA 85 c))) = bcC 15 (bcB 51 (bcA 85 a)) + 256 * (bcC 15 (bcB 51 (bcA 85 b)) + 256 * bcC 3855 (bcB 51 (bcA 85 c))) := by
    rw [show (252645135 : Nat) = 15 + 256 * (15 + 256 * 3855) from rfl, bcC_split a2 (by omega), bcC_split b2 c3]
  have eC2 : bcC 3855 (bcB 51 (bcA 85 c)) = bcC 15 (bcB 51 (bcA 85 c)) := by
    have := bcC_split (a := bcB 51 (bcA 85 c)) (m := 0) (M := 15) c2 (by decide)
    simpa [bcC] using this
  rw [eA, eA2, eB, eB2, eC, eC2, hP, ← a4, ← b4, ← c4]
  clear eA eA2 eB eB2 eC eC2 hP a4 b4 c4 fA1
  generalize bcC 15 (bcB 51 (bcA 85 a)) = x at *
  generalize bcC 15 (bcB 51 (bcA 85 b)) = y at *
  generalize bcC 15 (bcB 51 (bcA 85 c)) = z at *
  generalize bcB 51 (bcA 85 a) = x1 at *
  generalize bcB 51 (bcA 85 b) = y1 at *
  generalize bcB 51 (bcA 85 c) = z1 at *
  generalize bcA 85 a = x2 at *
  generalize bcA 85 b = y2 at *
  generalize bcA 85 c = z2 at *
  refine ⟨?_, by omega, by omega, by omega⟩
  have e1 : (x + 256 * (y + 256 * z)) / 256 = y + 256 * z := by omega
  have e2 : (x + 256 * (y + 256 * z) + (y + 256 * z)) / 65536 = z := by omega
  rw [e1, e2]
  omega
