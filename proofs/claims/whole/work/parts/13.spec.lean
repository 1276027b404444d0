/-! NUMBERS: what the machine's bit work says of numbers -/
theorem iN_nat (n : Nat) : iN (n : Int) = nI n := Int32.ofInt_eq_ofNat
theorem bw_and (a b : Nat) : iN (a : Int) &&& iN (b : Int) = iN ((a &&& b : Nat) : Int) := by
  rw [iN_nat, iN_nat, iN_nat]
  apply Int32.toBitVec_inj.1
  show BitVec.ofNat 32 a &&& BitVec.ofNat 32 b = BitVec.ofNat 32 (a &&& b)
  apply BitVec.eq_of_getLsbD_eq
  intro i hi
  simp [hi]
theorem bw_or (a b : Nat) : iN (a : Int) ||| iN (b : Int) = iN ((a ||| b : Nat) : Int) := by
  rw [iN_nat, iN_nat, iN_nat]
  apply Int32.toBitVec_inj.1
  show BitVec.ofNat 32 a ||| BitVec.ofNat 32 b = BitVec.ofNat 32 (a ||| b)
  apply BitVec.eq_of_getLsbD_eq
  intro i hi
  simp [hi]
theorem bw_xor (a b : Nat) : iN (a : Int) ^^^ iN (b : Int) = iN ((a ^^^ b : Nat) : Int) := by
  rw [iN_nat, iN_nat, iN_nat]
  apply Int32.toBitVec_inj.1
  show BitVec.ofNat 32 a ^^^ BitVec.ofNat 32 b = BitVec.ofNat 32 (a ^^^ b)
  apply BitVec.eq_of_getLsbD_eq
  intro i hi
  simp [hi]
theorem bw_and1 {x : Int} (hx : 0 ≤ x) : iN x &&& iN 1 = iN (x % 2) := by
  obtain ⟨n, rfl⟩ := Int.eq_ofNat_of_zero_le hx
  rw [show (1 : Int) = ((1 : Nat) : Int) from rfl, bw_and, Nat.and_one_is_mod]
  rfl
theorem bw_shl1 : ∀ n : Nat, n < 31 → iN 1 <<< (iN (n : Int) &&& 31) = iN (((2 ^ n : Nat)) : Int) := by decide +kernel
theorem bw_shs : ∀ n : Nat, n < 32 → ((iN (n : Int) &&& 31).toBitVec.smod 32).toNat = n := by decide +kernel
theorem bw_shr {x y : Int} (hx : IR x) (hy : 0 ≤ y ∧ y < 32) : iN x >>> (iN y &&& 31) = iN (x / 2 ^ y.toNat) := by
  obtain ⟨n, rfl⟩ := Int.eq_ofNat_of_zero_le hy.1
  apply Int32.toInt_inj.mp
  have hp : (0 : Int) < 2 ^ n := Int.pow_pos (by decide)
  have h1 : x / 2 ^ n ≤ 2147483647 := by
    have := Int.ediv_le_ediv hp hx.2
    have h2 : (2147483647 : Int) / 2 ^ n ≤ 2147483647 := Int.ediv_le_self _ (by decide)
    omega
  have h3 : -2147483648 ≤ x / 2 ^ n := by
    have h4 : (-2147483648 : Int) * 2 ^ n ≤ x := by
      have h5 : (1 : Int) ≤ 2 ^ n := by omega
      have h6 : (-2147483648 : Int) * 2 ^ n ≤ -2147483648 * 1 := Int.mul_le_mul_of_nonpos_left (by decide) h5
      have := hx.1
      omega
    exact (Int.le_ediv_iff_mul_le hp).mpr h4
  rw [pk_shr _ _ n (bw_shs n (by omega)), iN_toInt hx, iN_toInt ⟨by show -2147483648 ≤ x / 2 ^ n; exact h3, by show x / 2 ^ n ≤ _; exact h1⟩, Int.shiftRight_eq_div_pow]
  show x / ((2 ^ n : Nat) : Int) = x / 2 ^ n
  rw [Int.natCast_pow]
  rfl
theorem nz_i {y : Int} (h0 : y ≠ 0) (hy : IR y) : ¬ iN y = 0 := fun z => h0 ((iN_eq hy ⟨by omega, by omega⟩).mp (z.trans iN_0.symm))
theorem bw_div {x y : Int} (hx : 0 ≤ x ∧ x ≤ 2147483647) (hy : 0 < y ∧ y ≤ 2147483647) : iN x / iN y = iN (x / y) := by
  have hd : 0 ≤ x / y := Int.ediv_nonneg hx.1 (by omega)
  have hd2 : x / y ≤ x := Int.ediv_le_self _ hx.1
  apply Int32.toInt_inj.mp
  rw [Int32.toInt_div_of_ne_right _ _ (fun z => by
    have z2 : iN y = iN (-1) := z
    have := (iN_eq ⟨by omega, by omega⟩ ⟨by omega, by omega⟩).mp z2
    omega), iN_toInt ⟨by omega, by omega⟩, iN_toInt ⟨by omega, by omega⟩, iN_toInt ⟨by omega, by omega⟩, Int.tdiv_eq_ediv_of_nonneg hx.1]
theorem bw_rem {x y : Int} (hx : 0 ≤ x ∧ x ≤ 2147483647) (hy : 0 < y ∧ y ≤ 2147483647) : iN x - iN x / iN y * iN y = iN (x % y) := by
  rw [bw_div hx hy, iN_mul, iN_sub]
  congr 1
  rw [Int.emod_def, Int.mul_comm]
theorem nz_l {y : Int} (h0 : y ≠ 0) (hy : LR y) : ¬ lI y = 0 := fun z => h0 ((lI_eq hy ⟨by omega, by omega⟩).mp z)
theorem bw_ldiv {x y : Int} (hx : 0 ≤ x ∧ x ≤ 9223372036854775807) (hy : 0 < y ∧ y ≤ 9223372036854775807) : lI x / lI y = lI (x / y) := by
  have hd : 0 ≤ x / y := Int.ediv_nonneg hx.1 (by omega)
  have hd2 : x / y ≤ x := Int.ediv_le_self _ hx.1
  apply Int64.toInt_inj.mp
  rw [Int64.toInt_div_of_ne_right _ _ (fun z => by
    have z2 : lI y = lI (-1) := z
    have := (lI_eq ⟨by omega, by omega⟩ ⟨by omega, by omega⟩).mp z2
    omega), lI_toInt ⟨by omega, by omega⟩, lI_toInt ⟨by omega, by omega⟩, lI_toInt ⟨by omega, by omega⟩, Int.tdiv_eq_ediv_of_nonneg hx.1]
theorem bw_lrem {x y : Int} (hx : 0 ≤ x ∧ x ≤ 9223372036854775807) (hy : 0 < y ∧ y ≤ 9223372036854775807) : lI x - lI x / lI y * lI y = lI (x % y) := by
  rw [bw_ldiv hx hy, lI_mul, lI_sub]
  congr 1
  rw [Int.emod_def, Int.mul_comm]
/-- a power of two, by a whole number -/
def p2 (z : Int) : Int := ((2 ^ z.toNat : Nat) : Int)
theorem p2_0 : p2 0 = 1 := rfl
theorem p2_pos (z : Int) : 0 < p2 z := by
  have h : 0 < 2 ^ z.toNat := Nat.pow_pos (by decide)
  unfold p2
  omega
theorem p2_succ {z : Int} (h : 0 ≤ z) : p2 (z + 1) = 2 * p2 z := by
  unfold p2
  rw [show (z + 1).toNat = z.toNat + 1 by omega, Nat.pow_succ]
  omega
theorem p2_nat (n : Nat) : p2 (n : Int) = ((2 ^ n : Nat) : Int) := rfl
theorem p2_le {a b : Int} (h : a ≤ b) : p2 a ≤ p2 b := by
  have h2 := Nat.pow_le_pow_right (n := 2) (by decide) (show a.toNat ≤ b.toNat by omega)
  unfold p2
  omega
theorem p2_lt31 {z : Int} (h : z ≤ 30) : p2 z ≤ 1073741824 := p2_le h
theorem bw_or_add {a z : Int} (ha : 0 ≤ a) (h : a < p2 z) : iN a ||| iN (p2 z) = iN (a + p2 z) := by
  obtain ⟨n, rfl⟩ := Int.eq_ofNat_of_zero_le ha
  unfold p2 at *
  have h1 : n < 2 ^ z.toNat := by omega
  rw [bw_or]
  congr 1
  have e := Nat.two_pow_add_eq_or_of_lt h1 1
  rw [Nat.mul_one] at e
  have e2 : n ||| 2 ^ z.toNat = n + 2 ^ z.toNat := by rw [Nat.or_comm, ← e, Nat.add_comm]
  omega
theorem bw_or_0 (a : Int) : iN a ||| iN 0 = iN a := Int32.or_zero
section ROWS2
variable {yy : MethodName} {cc : ByteArray} {nL d pc : Nat} {ret : Option FieldType} {Q : Option AV → MM → Prop} {ls : List (Option AV)} {st : List AV} {σ : MM}
theorem V_irem_p {x y : Int} (d0 : decode cc pc = .ok (.irem, 1)) (hx : 0 ≤ x ∧ x ≤ 2147483647) (hy : 0 < y ∧ y ≤ 2147483647) (k : V yy cc nL ret d Q (pc + 1) ls (vI (x % y) :: st) σ) : V yy cc nL ret d Q pc ls (vI y :: vI x :: st) σ := V_irem d0 (nz_i (by omega) ⟨by omega, by omega⟩) (bw_rem hx hy) k
theorem V_idiv_p {x y : Int} (d0 : decode cc pc = .ok (.idiv, 1)) (hx : 0 ≤ x ∧ x ≤ 2147483647) (hy : 0 < y ∧ y ≤ 2147483647) (k : V yy cc nL ret d Q (pc + 1) ls (vI (x / y) :: st) σ) : V yy cc nL ret d Q pc ls (vI y :: vI x :: st) σ := V_idiv d0 (nz_i (by omega) ⟨by omega, by omega⟩) (bw_div hx hy) k
theorem V_lrem_p {x y : Int} (d0 : decode cc pc = .ok (.lrem, 1)) (hx : 0 ≤ x ∧ x ≤ 9223372036854775807) (hy : 0 < y ∧ y ≤ 9223372036854775807) (k : V yy cc nL ret d Q (pc + 1) ls (vL (x % y) :: st) σ) : V yy cc nL ret d Q pc ls (vL y :: vL x :: st) σ := V_lrem d0 (nz_l (by omega) ⟨by omega, by omega⟩) (bw_lrem hx hy) k
theorem V_ldiv_p {x y : Int} (d0 : decode cc pc = .ok (.ldiv, 1)) (hx : 0 ≤ x ∧ x ≤ 9223372036854775807) (hy : 0 < y ∧ y ≤ 9223372036854775807) (k : V yy cc nL ret d Q (pc + 1) ls (vL (x / y) :: st) σ) : V yy cc nL ret d Q pc ls (vL y :: vL x :: st) σ := V_ldiv d0 (nz_l (by omega) ⟨by omega, by omega⟩) (bw_ldiv hx hy) k
theorem V_ishl_1 {y : Int} (d0 : decode cc pc = .ok (.ishl, 1)) (hy : 0 ≤ y ∧ y < 31) (k : V yy cc nL ret d Q (pc + 1) ls (vI (p2 y) :: st) σ) : V yy cc nL ret d Q pc ls (vI y :: vI 1 :: st) σ := by
  obtain ⟨n, rfl⟩ := Int.eq_ofNat_of_zero_le hy.1
  exact V_ishl d0 (bw_shl1 n (by omega)) k
theorem V_ishr_p {x y : Int} (d0 : decode cc pc = .ok (.ishr, 1)) (hx : IR x) (hy : 0 ≤ y ∧ y < 32) (k : V yy cc nL ret d Q (pc + 1) ls (vI (x / p2 y) :: st) σ) : V yy cc nL ret d Q pc ls (vI y :: vI x :: st) σ := by
  refine V_ishr d0 (bw_shr hx hy) ?_
  have e : p2 y = 2 ^ y.toNat := by unfold p2; rw [Int.natCast_pow]; rfl
  rw [← e]
  exact k
theorem V_iand_1 {x : Int} (d0 : decode cc pc = .ok (.iand, 1)) (hx : 0 ≤ x) (k : V yy cc nL ret d Q (pc + 1) ls (vI (x % 2) :: st) σ) : V yy cc nL ret d Q pc ls (vI 1 :: vI x :: st) σ := V_iand d0 (bw_and1 hx) k
theorem V_ior_add {x z : Int} (d0 : decode cc pc = .ok (.ior, 1)) (hx : 0 ≤ x ∧ x < p2 z) (k : V yy cc nL ret d Q (pc + 1) ls (vI (x + p2 z) :: st) σ) : V yy cc nL ret d Q pc ls (vI (p2 z) :: vI x :: st) σ := V_ior d0 (bw_or_add hx.1 hx.2) k
theorem V_ior_0 {x : Int} (d0 : decode cc pc = .ok (.ior, 1)) (k : V yy cc nL ret d Q (pc + 1) ls (vI x :: st) σ) : V yy cc nL ret d Q pc ls (vI 0 :: vI x :: st) σ := V_ior d0 (bw_or_0 x) k
end ROWS2
theorem up_ind {P : Nat → Prop} {n : Nat} (hn : P n) (hs : ∀ i, i < n → P (i + 1) → P i) : ∀ i, i ≤ n → P i := by
  intro i hi
  obtain ⟨k, rfl⟩ := Nat.exists_eq_add_of_le hi
  induction k generalizing i with
  | zero => exact hn
  | succ k ih =>
    refine hs i (by omega) (ih (i + 1) ?_ ?_ (by omega))
    · rw [show i + 1 + k = i + (k + 1) by omega]; exact hn
    · intro j hj; exact hs j (by omega)
theorem bI_t {c : Prop} [Decidable c] (h : c) : bI c = 1 := if_pos h
theorem bI_f {c : Prop} [Decidable c] (h : ¬ c) : bI c = 0 := if_neg h
theorem bI_01 (c : Prop) [Decidable c] : bI c = 0 ∨ bI c = 1 := by unfold bI; split <;> omega
theorem bI_cong {a b : Prop} [Decidable a] [Decidable b] (h : a ↔ b) : bI a = bI b := by unfold bI; simp [h]
/-! sums, bits, firsts, bests -/
def sumN (f : Int → Int) : Nat → Int
  | 0 => 0
  | n + 1 => sumN f n + f n
def bsN (f : Int → Int) : Nat → Int
  | 0 => 0
  | n + 1 => bsN f n + f n * p2 n
theorem sumN_cong {f g : Int → Int} : ∀ {n : Nat}, (∀ k : Int, 0 ≤ k → k < n → f k = g k) → sumN f n = sumN g n
  | 0, _ => rfl
  | n + 1, h => by rw [sumN, sumN, sumN_cong (fun k h0 h1 => h k h0 (by omega)), h n (by omega) (by omega)]
theorem bsN_cong {f g : Int → Int} : ∀ {n : Nat}, (∀ k : Int, 0 ≤ k → k < n → f k = g k) → bsN f n = bsN g n
  | 0, _ => rfl
  | n + 1, h => by rw [bsN, bsN, bsN_cong (fun k h0 h1 => h k h0 (by omega)), h n (by omega) (by omega)]
theorem bsN_in {f : Int → Int} : ∀ {n : Nat}, (∀ k : Int, 0 ≤ k → k < n → f k = 0 ∨ f k = 1) → 0 ≤ bsN f n ∧ bsN f n < p2 n
  | 0, _ => ⟨Int.le_refl 0, p2_pos 0⟩
  | n + 1, h => by
    have ih := bsN_in (n := n) (fun k h0 h1 => h k h0 (by omega))
    have e : p2 ((n + 1 : Nat) : Int) = 2 * p2 n := p2_succ (z := (n : Int)) (by omega)
    have hp := p2_pos (n : Int)
    rw [bsN]
    rcases h n (by omega) (by omega) with h1 | h1 <;> rw [h1] <;> omega
/-- the first place at or above i, of k, where p holds; else -1 -/
def fst (p : Int → Prop) [DecidablePred p] : Nat → Int → Int
  | 0, _ => -1
  | k + 1, i => if p i then i else fst p k (i + 1)
/-- the place of the best of those of a set (the first of several); else -1 -/
def bst (p : Int → Prop) [DecidablePred p] (g : Int → Int) : Nat → Int
  | 0 => -1
  | n + 1 => if p n ∧ (bst p g n = -1 ∨ g (bst p g n) < g n) then (n : Int) else bst p g n
theorem bst_in {p : Int → Prop} [DecidablePred p] {g : Int → Int} : ∀ n : Nat, bst p g n = -1 ∨ (0 ≤ bst p g n ∧ bst p g n < n ∧ p (bst p g n))
  | 0 => Or.inl rfl
  | n + 1 => by
    rw [bst]
    split
    · rename_i h; exact Or.inr ⟨by omega, by omega, h.1⟩
    · rcases bst_in (p := p) (g := g) n with h | h
      · exact Or.inl h
      · exact Or.inr ⟨h.1, by omega, h.2.2⟩
/-! BOOKS: a book is a function: its kind of number, its place -/
abbrev BK : Type := Nat → Int → Int
/-- how many ahead of an entry stand on its page -/
def PLN (B : BK) (e : Int) : Nat → Int
  | 0 => 0
  | n + 1 => PLN B e n + bI (B 11 n = B 11 e)
def PLC (B : BK) (e : Int) : Int := PLN B e e.toNat
def PFA (p : Int) : Int := if p % 2 = 0 then p + 1 else p - 1
/-- which one faces an entry, of n -/
def FAN (B : BK) (e : Int) (n : Nat) : Int := fst (fun k => B 11 k = PFA (B 11 e) ∧ PLC B k = PLC B e) n 0
def FAC (B : BK) (e : Int) : Int := FAN B e (B 6 0).toNat
/-- bounds -/
abbrev WS (B : BK) : Prop := (0 ≤ B 0 0 ∧ B 0 0 ≤ 700) ∧ (0 ≤ B 1 0 ∧ B 1 0 ≤ 20) ∧ (0 ≤ B 2 0 ∧ B 2 0 ≤ 3) ∧ (0 ≤ B 3 0 ∧ B 3 0 ≤ 10) ∧ (0 ≤ B 4 0 ∧ B 4 0 ≤ 4) ∧ (0 ≤ B 5 0 ∧ B 5 0 ≤ 4) ∧ (0 ≤ B 6 0 ∧ B 6 0 ≤ 7) ∧ (0 ≤ B 17 0 ∧ B 17 0 ≤ 40)
def WB (B : BK) : Prop := WS B ∧
  (∀ i, 0 ≤ i ∧ i < B 4 0 → (1 ≤ B 7 i ∧ B 7 i ≤ 20) ∧ (1 ≤ B 8 i ∧ B 8 i ≤ 60) ∧ (0 ≤ B 9 i ∧ B 9 i ≤ 9)) ∧
  (∀ i, 0 ≤ i ∧ i < B 5 0 → 0 ≤ B 10 i ∧ B 10 i ≤ 1) ∧
  (∀ i, 0 ≤ i ∧ i < B 6 0 → (0 ≤ B 11 i ∧ B 11 i < B 5 0) ∧ (0 ≤ B 12 i ∧ B 12 i < B 4 0) ∧ (0 ≤ B 13 i ∧ B 13 i ≤ 99) ∧ (0 ≤ B 14 i ∧ B 14 i ≤ 20)) ∧
  (∀ i, 0 ≤ i ∧ i < B 17 0 → (0 ≤ B 18 i ∧ B 18 i < B 6 0) ∧ (-1 ≤ B 19 i ∧ B 19 i < B 4 0) ∧ (0 ≤ B 20 i ∧ B 20 i ≤ B 1 0))
theorem WB.s {B : BK} (h : WB B) : WS B := h.1
theorem WB.i {B : BK} (h : WB B) {i : Int} (hi : 0 ≤ i ∧ i < B 4 0) : (1 ≤ B 7 i ∧ B 7 i ≤ 20) ∧ (1 ≤ B 8 i ∧ B 8 i ≤ 60) ∧ (0 ≤ B 9 i ∧ B 9 i ≤ 9) := h.2.1 i hi
theorem WB.p {B : BK} (h : WB B) {i : Int} (hi : 0 ≤ i ∧ i < B 5 0) : 0 ≤ B 10 i ∧ B 10 i ≤ 1 := h.2.2.1 i hi
theorem WB.e {B : BK} (h : WB B) {i : Int} (hi : 0 ≤ i ∧ i < B 6 0) : (0 ≤ B 11 i ∧ B 11 i < B 5 0) ∧ (0 ≤ B 12 i ∧ B 12 i < B 4 0) ∧ (0 ≤ B 13 i ∧ B 13 i ≤ 99) ∧ (0 ≤ B 14 i ∧ B 14 i ≤ 20) := h.2.2.2.1 i hi
theorem WB.a {B : BK} (h : WB B) {i : Int} (hi : 0 ≤ i ∧ i < B 17 0) : (0 ≤ B 18 i ∧ B 18 i < B 6 0) ∧ (-1 ≤ B 19 i ∧ B 19 i < B 4 0) ∧ (0 ≤ B 20 i ∧ B 20 i ≤ B 1 0) := h.2.2.2.2 i hi
/-- a book of the class's, at b, is B -/
def CB (σ : MM) (b : Int) (B : BK) : Prop :=
  (σ 3 b 0 = B 0 0 ∧ σ 3 b 1 = B 1 0 ∧ σ 3 b 2 = B 2 0 ∧ σ 3 b 3 = B 3 0 ∧ σ 3 b 4 = B 4 0 ∧ σ 3 b 5 = B 5 0 ∧ σ 3 b 6 = B 6 0 ∧ σ 14 b 3 = B 17 0) ∧
  (∀ i, 0 ≤ i ∧ i < B 4 0 → σ 4 b i = B 7 i ∧ σ 5 b i = B 8 i ∧ σ 6 b i = B 9 i) ∧
  (∀ i, 0 ≤ i ∧ i < B 5 0 → σ 7 b i = B 10 i) ∧
  (∀ i, 0 ≤ i ∧ i < B 6 0 → σ 8 b i = B 11 i ∧ σ 9 b i = B 12 i ∧ σ 10 b i = B 13 i ∧ σ 11 b i = B 14 i ∧ σ 12 b i = PLC B i ∧ σ 13 b i = FAC B i) ∧
  (∀ i, 0 ≤ i ∧ i < B 17 0 → σ 15 b i = B 18 i ∧ σ 16 b i = B 19 i ∧ σ 17 b i = B 20 i)
section CBF
variable {σ : MM} {b : Int} {B : BK}
theorem CB.s0 (h : CB σ b B) : σ 3 b 0 = B 0 0 := h.1.1
theorem CB.s1 (h : CB σ b B) : σ 3 b 1 = B 1 0 := h.1.2.1
theorem CB.s2 (h : CB σ b B) : σ 3 b 2 = B 2 0 := h.1.2.2.1
theorem CB.s3 (h : CB σ b B) : σ 3 b 3 = B 3 0 := h.1.2.2.2.1
theorem CB.s4 (h : CB σ b B) : σ 3 b 4 = B 4 0 := h.1.2.2.2.2.1
theorem CB.s5 (h : CB σ b B) : σ 3 b 5 = B 5 0 := h.1.2.2.2.2.2.1
theorem CB.s6 (h : CB σ b B) : σ 3 b 6 = B 6 0 := h.1.2.2.2.2.2.2.1
theorem CB.dn (h : CB σ b B) : σ 14 b 3 = B 17 0 := h.1.2.2.2.2.2.2.2
theorem CB.a4 (h : CB σ b B) {i : Int} (hi : 0 ≤ i ∧ i < B 4 0) : σ 4 b i = B 7 i := (h.2.1 i hi).1
theorem CB.a5 (h : CB σ b B) {i : Int} (hi : 0 ≤ i ∧ i < B 4 0) : σ 5 b i = B 8 i := (h.2.1 i hi).2.1
theorem CB.a6 (h : CB σ b B) {i : Int} (hi : 0 ≤ i ∧ i < B 4 0) : σ 6 b i = B 9 i := (h.2.1 i hi).2.2
theorem CB.a7 (h : CB σ b B) {i : Int} (hi : 0 ≤ i ∧ i < B 5 0) : σ 7 b i = B 10 i := h.2.2.1 i hi
theorem CB.a8 (h : CB σ b B) {i : Int} (hi : 0 ≤ i ∧ i < B 6 0) : σ 8 b i = B 11 i := (h.2.2.2.1 i hi).1
theorem CB.a9 (h : CB σ b B) {i : Int} (hi : 0 ≤ i ∧ i < B 6 0) : σ 9 b i = B 12 i := (h.2.2.2.1 i hi).2.1
theorem CB.a10 (h : CB σ b B) {i : Int} (hi : 0 ≤ i ∧ i < B 6 0) : σ 10 b i = B 13 i := (h.2.2.2.1 i hi).2.2.1
theorem CB.a11 (h : CB σ b B) {i : Int} (hi : 0 ≤ i ∧ i < B 6 0) : σ 11 b i = B 14 i := (h.2.2.2.1 i hi).2.2.2.1
theorem CB.a12 (h : CB σ b B) {i : Int} (hi : 0 ≤ i ∧ i < B 6 0) : σ 12 b i = PLC B i := (h.2.2.2.1 i hi).2.2.2.2.1
theorem CB.a13 (h : CB σ b B) {i : Int} (hi : 0 ≤ i ∧ i < B 6 0) : σ 13 b i = FAC B i := (h.2.2.2.1 i hi).2.2.2.2.2
theorem CB.a15 (h : CB σ b B) {i : Int} (hi : 0 ≤ i ∧ i < B 17 0) : σ 15 b i = B 18 i := (h.2.2.2.2 i hi).1
theorem CB.a16 (h : CB σ b B) {i : Int} (hi : 0 ≤ i ∧ i < B 17 0) : σ 16 b i = B 19 i := (h.2.2.2.2 i hi).2.1
theorem CB.a17 (h : CB σ b B) {i : Int} (hi : 0 ≤ i ∧ i < B 17 0) : σ 17 b i = B 20 i := (h.2.2.2.2 i hi).2.2
end CBF
/-! fewer known locals -/
def subL : List (Option AV) → List (Option AV) → Prop
  | [], [] => True
  | a' :: r', a :: r => (a' = none ∨ a' = a) ∧ subL r' r
  | _, _ => False
theorem subL_len : ∀ {l' l : List (Option AV)}, subL l' l → l'.length = l.length
  | [], [], _ => rfl
  | a' :: r', a :: r, h => by rw [List.length_cons, List.length_cons, subL_len h.2]
theorem subL_get : ∀ {l' l : List (Option AV)} {j : Nat} {v : AV}, subL l' l → l'[j]? = some (some v) → l[j]? = some (some v)
  | [], [], j, v, _, h => h
  | a' :: r', a :: r, 0, v, h, hj => by
    rcases h.1 with e | e
    · rw [e] at hj; cases hj
    · rw [e] at hj; exact hj
  | a' :: r', a :: r, j + 1, v, h, hj => subL_get (l' := r') (l := r) (j := j) h.2 hj
theorem V.sub {yy : MethodName} {cc : ByteArray} {nL d pc : Nat} {ret : Option FieldType} {Q : Option AV → MM → Prop} {ls ls' : List (Option AV)} {st : List AV} {σ : MM} (h : subL ls' ls) (k : V yy cc nL ret d Q pc ls' st σ) : V yy cc nL ret d Q pc ls st σ := by
  intro hn p l e R s m args below meth c D ca ad A cells slots C H locs la hP hS hl
  refine k ((subL_len h).trans hn) p l e R s m args below meth c D ca ad A cells slots C H locs la hP hS ⟨hl.1, hl.2.1, fun q hq => hl.2.2 q ?_⟩
  obtain ⟨j, v, h1, rfl⟩ := (asc_mem ad ls' 0 q).mp hq
  exact (asc_mem ad ls 0 _).mpr ⟨j, v, subL_get h h1, rfl⟩
theorem V.st {yy : MethodName} {cc : ByteArray} {nL d pc : Nat} {ret : Option FieldType} {Q : Option AV → MM → Prop} {ls : List (Option AV)} {st st' : List AV} {σ : MM} (h : st = st') (k : V yy cc nL ret d Q pc ls st' σ) : V yy cc nL ret d Q pc ls st σ := h ▸ k
/-! what fades; the shade that one alone has -/
def LOS (B : BK) (i p y w : Int) : Int := if B 2 0 = 3 ∧ y % 2 = 1 then 0 else (if B 2 0 = 1 ∧ B 10 p = 1 then B 9 i * 2 else B 9 i) + 2 * w
def LNA (B : BK) (i p wr : Int) : Nat → Int × Int
  | 0 => (min (B 7 i) (B 8 i), bI (min (B 7 i) (B 8 i) < B 8 i))
  | n + 1 => if (LNA B i p wr n).2 = 0 then (max 0 ((LNA B i p wr n).1 - LOS B i p (wr + 1 + n) 0), 0) else (min ((LNA B i p wr n).1 + B 7 i) (B 8 i), bI (min ((LNA B i p wr n).1 + B 7 i) (B 8 i) < B 8 i))
def LNE (B : BK) (i p wr y : Int) : Int := if y < wr then 0 else (LNA B i p wr (y - wr).toNat).1
theorem LOS_in {B : BK} (hW : WB B) {i p y w : Int} (hi : 0 ≤ i ∧ i < B 4 0) (hw : 0 ≤ w ∧ w ≤ 1) : 0 ≤ LOS B i p y w ∧ LOS B i p y w ≤ 20 := by
  have h1 := hW.i hi
  unfold LOS
  (repeat' split) <;> omega
theorem LNA_in {B : BK} (hW : WB B) {i p wr : Int} (hi : 0 ≤ i ∧ i < B 4 0) : ∀ n, (0 ≤ (LNA B i p wr n).1 ∧ (LNA B i p wr n).1 ≤ 60) ∧ ((LNA B i p wr n).2 = 0 ∨ (LNA B i p wr n).2 = 1)
  | 0 => by
    have h1 := hW.i hi
    refine ⟨?_, bI_01 _⟩
    show 0 ≤ min (B 7 i) (B 8 i) ∧ min (B 7 i) (B 8 i) ≤ 60
    omega
  | n + 1 => by
    have h1 := hW.i hi
    have h2 := LNA_in hW hi (p := p) (wr := wr) n
    have h3 := LOS_in hW (p := p) (y := wr + 1 + n) (w := 0) hi (by omega)
    rw [LNA]
    split
    · exact ⟨by show 0 ≤ max 0 _ ∧ max 0 _ ≤ 60; omega, Or.inl rfl⟩
    · exact ⟨by show 0 ≤ min _ (B 8 i) ∧ min _ (B 8 i) ≤ 60; omega, bI_01 _⟩
theorem LNA_dn {B : BK} {i p wr : Int} {n : Nat} (h : (LNA B i p wr n).2 = 0) : LNA B i p wr (n + 1) = (max 0 ((LNA B i p wr n).1 - LOS B i p (wr + 1 + n) 0), 0) := by rw [LNA, if_pos h]
theorem LNA_up {B : BK} {i p wr : Int} {n : Nat} (h : (LNA B i p wr n).2 ≠ 0) : LNA B i p wr (n + 1) = (min ((LNA B i p wr n).1 + B 7 i) (B 8 i), bI (min ((LNA B i p wr n).1 + B 7 i) (B 8 i) < B 8 i)) := by rw [LNA, if_neg h]
