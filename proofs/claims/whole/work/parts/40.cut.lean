/-! what is kept of a number by a width -/
theorem sh_ext (u n : Nat) (hu : u + n = 64) (hn : 0 < n) (x : BitVec 64) : (x <<< u).sshiftRight u = (x.setWidth n).signExtend 64 := by
  apply BitVec.eq_of_getLsbD_eq
  intro i hi
  rw [BitVec.getLsbD_sshiftRight, BitVec.getLsbD_signExtend]
  have h1 : decide (64 ≤ i) = false := decide_eq_false (by omega)
  have h2 : decide (i < 64) = true := decide_eq_true hi
  rw [h1, h2, Bool.not_false, Bool.true_and, Bool.true_and]
  by_cases q : u + i < 64
  · rw [if_pos q, if_pos (show i < n by omega), BitVec.getLsbD_shiftLeft, BitVec.getLsbD_setWidth]
    have e1 : decide (u + i < 64) = true := decide_eq_true q
    have e2 : decide (u + i < u) = false := decide_eq_false (by omega)
    have e3 : decide (i < n) = true := decide_eq_true (by omega)
    rw [e1, e2, e3, Bool.not_false, Bool.true_and, Bool.true_and, Bool.true_and, show u + i - u = i by omega]
  · rw [if_neg q, if_neg (show ¬ i < n by omega), BitVec.msb_eq_getLsbD_last, BitVec.msb_eq_getLsbD_last, BitVec.getLsbD_shiftLeft, BitVec.getLsbD_setWidth]
    have e1 : decide (64 - 1 < 64) = true := rfl
    have e2 : decide (64 - 1 < u) = false := decide_eq_false (by omega)
    have e3 : decide (n - 1 < n) = true := decide_eq_true (by omega)
    rw [e1, e2, e3, Bool.not_false, Bool.true_and, Bool.true_and, Bool.true_and, show 64 - 1 - u = n - 1 by omega]
theorem ofInt_cut (n : Nat) (hn : n ≤ 64) (v : Int) : ((BitVec.ofInt 64 v).setWidth n).toInt = v.bmod (2 ^ n) := by
  have e : (BitVec.ofInt 64 v).setWidth n = BitVec.ofInt n v := by
    apply BitVec.eq_of_toNat_eq
    rw [BitVec.toNat_setWidth, BitVec.toNat_ofInt, BitVec.toNat_ofInt]
    have h64 : (0 : Int) < ((2 ^ 64 : Nat) : Int) := by decide
    have hn0 : (0 : Int) < ((2 ^ n : Nat) : Int) := by have := Nat.pow_pos (n := n) (show 0 < 2 by decide); omega
    have h1 := Int.emod_nonneg v (b := ((2 ^ 64 : Nat) : Int)) (by omega)
    have h2 := Int.emod_nonneg v (b := ((2 ^ n : Nat) : Int)) (by omega)
    have hd : ((2 ^ n : Nat) : Int) ∣ ((2 ^ 64 : Nat) : Int) := Int.natCast_dvd_natCast.mpr (Nat.pow_dvd_pow 2 hn)
    apply Int.ofNat.inj
    show (((v % ((2 ^ 64 : Nat) : Int)).toNat % 2 ^ n : Nat) : Int) = ((v % ((2 ^ n : Nat) : Int)).toNat : Int)
    rw [Int.natCast_emod, Int.toNat_of_nonneg h1, Int.toNat_of_nonneg h2, Int.emod_emod_of_dvd _ hd]
  rw [e, BitVec.toInt_ofInt]
theorem lsh_cut (u n : Nat) (c : Int) (hu : u + n = 64) (hn : 0 < n) (e : (((iN c).toInt64 &&& 63).toBitVec.smod 64).toNat = u) (v : Int) : (lI v <<< ((iN c).toInt64 &&& 63)) >>> ((iN c).toInt64 &&& 63) = lI (v.bmod (2 ^ n)) := by
  apply Int64.toBitVec_inj.1
  show BitVec.sshiftRight (BitVec.ofInt 64 v <<< (((iN c).toInt64 &&& 63).toBitVec.smod 64).toNat) (((iN c).toInt64 &&& 63).toBitVec.smod 64).toNat = BitVec.ofInt 64 (v.bmod (2 ^ n))
  rw [e, sh_ext u n hu hn]
  apply BitVec.eq_of_toInt_eq
  rw [BitVec.toInt_signExtend_of_le (by omega), ofInt_cut n (by omega), BitVec.toInt_ofInt]
  have hp : (2 ^ n : Nat) ∣ 2 ^ 64 := Nat.pow_dvd_pow 2 (by omega)
  have hle : (2 ^ n : Nat) ≤ 2 ^ 64 := Nat.pow_le_pow_right (by decide) (by omega)
  have h0 : 0 < (2 ^ n : Nat) := Nat.pow_pos (by decide)
  have b1 := Int.le_bmod (x := v) h0
  have b2 := Int.bmod_lt (x := v) h0
  generalize v.bmod (2 ^ n) = w at *
  have h64 : (2 ^ 64 : Nat) = 18446744073709551616 := rfl
  rw [h64] at hle ⊢
  unfold Int.bmod
  dsimp only
  split <;> omega
