/-! BITS of a number -/
def bt (r e : Int) : Int := r / p2 e % 2
def setB (r e : Int) : Int := ((r.toNat ||| 2 ^ e.toNat : Nat) : Int)
def clrB (r e : Int) : Int := ((r.toNat ^^^ (r.toNat &&& 2 ^ e.toNat) : Nat) : Int)
theorem bt_nat (n i : Nat) : bt (n : Int) (i : Int) = if n.testBit i then 1 else 0 := by
  have h : n.testBit i = decide (n / 2 ^ i % 2 = 1) := Nat.testBit_eq_decide_div_mod_eq
  have e : bt (n : Int) (i : Int) = ((n / 2 ^ i % 2 : Nat) : Int) := by
    unfold bt p2
    rw [Int.natCast_emod, Int.natCast_ediv]
    rfl
  rw [e, h]
  by_cases hc : n / 2 ^ i % 2 = 1
  · rw [hc]; rfl
  · have h0 : n / 2 ^ i % 2 = 0 := by omega
    rw [h0]; rfl
theorem bt_01 (r e : Int) : bt r e = 0 ∨ bt r e = 1 := by unfold bt; omega
theorem bt_setB {r e i : Int} (hr : 0 ≤ r) (he : 0 ≤ e) (hi : 0 ≤ i) : bt (setB r e) i = if i = e then 1 else bt r i := by
  obtain ⟨n, rfl⟩ := Int.eq_ofNat_of_zero_le hr
  obtain ⟨a, rfl⟩ := Int.eq_ofNat_of_zero_le he
  obtain ⟨j, rfl⟩ := Int.eq_ofNat_of_zero_le hi
  show bt ((n ||| 2 ^ a : Nat) : Int) (j : Int) = _
  rw [bt_nat, bt_nat, Nat.testBit_or, Nat.testBit_two_pow]
  by_cases h : a = j
  · subst h; simp
  · have h2 : ¬ ((j : Int) = (a : Int)) := by omega
    simp [h, h2]
theorem bt_clrB {r e i : Int} (hr : 0 ≤ r) (he : 0 ≤ e) (hi : 0 ≤ i) : bt (clrB r e) i = if i = e then 0 else bt r i := by
  obtain ⟨n, rfl⟩ := Int.eq_ofNat_of_zero_le hr
  obtain ⟨a, rfl⟩ := Int.eq_ofNat_of_zero_le he
  obtain ⟨j, rfl⟩ := Int.eq_ofNat_of_zero_le hi
  show bt ((n ^^^ (n &&& 2 ^ a) : Nat) : Int) (j : Int) = _
  rw [bt_nat, bt_nat, Nat.testBit_xor, Nat.testBit_and, Nat.testBit_two_pow]
  by_cases h : a = j
  · subst h; simp
  · have h2 : ¬ ((j : Int) = (a : Int)) := by omega
    simp [h, h2]
theorem setB_in {r e : Int} {n : Nat} (hr : 0 ≤ r ∧ r < p2 n) (he : 0 ≤ e ∧ e < n) : 0 ≤ setB r e ∧ setB r e < p2 n := by
  obtain ⟨m, rfl⟩ := Int.eq_ofNat_of_zero_le hr.1
  obtain ⟨a, rfl⟩ := Int.eq_ofNat_of_zero_le he.1
  have h1 : m < 2 ^ n := by have := hr.2; unfold p2 at this; simp at this; exact_mod_cast this
  have h2 : 2 ^ a < 2 ^ n := Nat.pow_lt_pow_right (by decide) (by omega)
  have h3 : m ||| 2 ^ a < 2 ^ n := Nat.or_lt_two_pow h1 h2
  refine ⟨by unfold setB; omega, ?_⟩
  show ((m ||| 2 ^ a : Nat) : Int) < ((2 ^ n : Nat) : Int)
  omega
theorem clrB_in {r e : Int} {n : Nat} (hr : 0 ≤ r ∧ r < p2 n) : 0 ≤ clrB r e ∧ clrB r e < p2 n := by
  obtain ⟨m, rfl⟩ := Int.eq_ofNat_of_zero_le hr.1
  have h1 : m < 2 ^ n := by have := hr.2; unfold p2 at this; simp at this; exact_mod_cast this
  have h2 : m &&& 2 ^ e.toNat < 2 ^ n := Nat.lt_of_le_of_lt Nat.and_le_left h1
  have h3 : m ^^^ (m &&& 2 ^ e.toNat) < 2 ^ n := Nat.xor_lt_two_pow h1 h2
  refine ⟨by unfold clrB; omega, ?_⟩
  show ((m ^^^ (m &&& 2 ^ e.toNat) : Nat) : Int) < ((2 ^ n : Nat) : Int)
  omega
theorem mod_bs (r : Int) : ∀ n : Nat, r % p2 n = bsN (bt r) n
  | 0 => by show r % 1 = 0; omega
  | n + 1 => by
    have ih := mod_bs r n
    have e : p2 ((n + 1 : Nat) : Int) = 2 * p2 n := p2_succ (z := (n : Int)) (by omega)
    have hp := p2_pos (n : Int)
    rw [bsN, ← ih, e]
    unfold bt
    generalize p2 (n : Int) = q at hp
    have h1 : r % (q * 2) = r % q + q * (r / q % 2) := by
      have e1 : r / q / 2 = r / (q * 2) := Int.ediv_ediv_of_nonneg (by omega)
      have a1 := Int.emod_def r (q * 2)
      have a2 := Int.emod_def r q
      have a3 := Int.emod_def (r / q) 2
      rw [e1] at a3
      have e2 : q * 2 * (r / (q * 2)) = q * (2 * (r / (q * 2))) := Int.mul_assoc _ _ _
      rw [a1, a2, a3, e2, Int.mul_sub]
      omega
    rw [show (2 : Int) * q = q * 2 from Int.mul_comm _ _, h1, Int.mul_comm q]
/-- a number is what its bits are -/
theorem bs_of {r : Int} {n : Nat} {f : Int → Int} (hr : 0 ≤ r ∧ r < p2 n) (hf : ∀ i : Int, 0 ≤ i ∧ i < n → bt r i = f i) : r = bsN f n := by
  rw [← bsN_cong (f := bt r) (fun k h0 h1 => hf k ⟨h0, h1⟩), ← mod_bs, Int.emod_eq_of_lt hr.1 hr.2]
theorem bt_bs {f : Int → Int} {n : Nat} (hf : ∀ k : Int, 0 ≤ k → k < n → f k = 0 ∨ f k = 1) {i : Int} (hi : 0 ≤ i ∧ i < n) : bt (bsN f n) i = f i := by
  revert i
  induction n with
  | zero => intro i hi; omega
  | succ n ih =>
    intro i hi
    have ihf := fun (i : Int) => ih (fun k h0 h1 => hf k h0 (by omega)) (i := i)
    have hb := bsN_in (f := f) (n := n) (fun k h0 h1 => hf k h0 (by omega))
    have hp := p2_pos (n : Int)
    rw [bsN]
    by_cases h : i = n
    · subst h
      unfold bt
      rw [Int.add_mul_ediv_right _ _ (by omega), Int.ediv_eq_zero_of_lt hb.1 hb.2]
      rcases hf n (by omega) (by omega) with h1 | h1 <;> rw [h1] <;> rfl
    · have hi2 : i < n := by omega
      rw [← ihf i ⟨hi.1, hi2⟩]
      unfold bt
      have e : p2 (n : Int) = p2 i * (2 * p2 (n - i - 1)) := by
        unfold p2
        rw [show (n : Int).toNat = i.toNat + (1 + ((n : Int) - i - 1).toNat) by omega, Nat.pow_add, Nat.pow_add]
        simp
      have hpi := p2_pos i
      rw [e, ← Int.mul_assoc, Int.mul_comm (f n), Int.mul_assoc, Int.add_mul_ediv_left _ _ (by omega)]
      have e2 : f n * (2 * p2 (n - i - 1)) = 2 * (f n * p2 (n - i - 1)) := by rw [← Int.mul_assoc, Int.mul_comm (f n) 2, Int.mul_assoc]
      rw [e2, Int.add_mul_emod_self_left]
theorem bw_setB {r e : Int} (hr : 0 ≤ r) (he : 0 ≤ e) : iN r ||| iN (p2 e) = iN (setB r e) := by
  obtain ⟨n, rfl⟩ := Int.eq_ofNat_of_zero_le hr
  exact bw_or n (2 ^ e.toNat)
theorem bw_clrB {r e : Int} (hr : 0 ≤ r) (he : 0 ≤ e) : iN r &&& (iN (p2 e) ^^^ iN (-1)) = iN (clrB r e) := by
  obtain ⟨n, rfl⟩ := Int.eq_ofNat_of_zero_le hr
  unfold p2 clrB
  rw [iN_nat, iN_nat, iN_nat]
  apply Int32.toBitVec_inj.1
  show BitVec.ofNat 32 n &&& (BitVec.ofNat 32 (2 ^ e.toNat) ^^^ (iN (-1)).toBitVec) = BitVec.ofNat 32 _
  rw [show (iN (-1)).toBitVec = BitVec.allOnes 32 from rfl]
  apply BitVec.eq_of_getLsbD_eq
  intro i hi
  rw [BitVec.getLsbD_and, BitVec.getLsbD_xor, BitVec.getLsbD_ofNat, BitVec.getLsbD_ofNat, BitVec.getLsbD_ofNat, BitVec.getLsbD_allOnes, Nat.testBit_xor, Nat.testBit_and]
  have hd : decide (i < 32) = true := decide_eq_true hi
  rw [hd]
  simp only [Int.toNat_natCast]
  cases n.testBit i <;> cases (2 ^ e.toNat).testBit i <;> rfl
def notB (z : Int) : Int := -1 - z
theorem bw_not (z : Int) : iN z ^^^ iN (-1) = iN (notB z) := by
  apply Int32.toBitVec_inj.1
  show (iN z).toBitVec ^^^ BitVec.allOnes 32 = _
  have e : iN (notB z) = -1 - iN z := by unfold notB; rw [← iN_sub]; rfl
  rw [e]
  show (iN z).toBitVec ^^^ BitVec.allOnes 32 = BitVec.ofInt 32 (-1) - (iN z).toBitVec
  rw [BitVec.xor_allOnes, show BitVec.ofInt 32 (-1) = BitVec.allOnes 32 from rfl, BitVec.allOnes_sub_eq_not]
section ROWS3
variable {yy : MethodName} {cc : ByteArray} {nL d pc : Nat} {ret : Option FieldType} {Q : Option AV → MM → Prop} {ls : List (Option AV)} {st : List AV} {σ : MM}
theorem V_ior_set {r e : Int} (d0 : decode cc pc = .ok (.ior, 1)) (hr : 0 ≤ r) (he : 0 ≤ e) (k : V yy cc nL ret d Q (pc + 1) ls (vI (setB r e) :: st) σ) : V yy cc nL ret d Q pc ls (vI (p2 e) :: vI r :: st) σ := V_ior d0 (bw_setB hr he) k
theorem V_ixor_m1 {z : Int} (d0 : decode cc pc = .ok (.ixor, 1)) (k : V yy cc nL ret d Q (pc + 1) ls (vI (notB z) :: st) σ) : V yy cc nL ret d Q pc ls (vI (-1) :: vI z :: st) σ := V_ixor d0 (bw_not z) k
theorem V_iand_clr {r e : Int} (d0 : decode cc pc = .ok (.iand, 1)) (hr : 0 ≤ r) (he : 0 ≤ e) (k : V yy cc nL ret d Q (pc + 1) ls (vI (clrB r e) :: st) σ) : V yy cc nL ret d Q pc ls (vI (notB (p2 e)) :: vI r :: st) σ := V_iand d0 (by rw [← bw_not]; exact bw_clrB hr he) k
end ROWS3
