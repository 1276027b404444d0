/-! CHANCE: all that can come, weighed -/
theorem PAS_cong {B P P' : BK} {y w w' : Int} (hP : P = P') (hw : w = w') : PAS B P y w = PAS B P' y w' := by rw [hP, hw]
theorem YS_cong {B : BK} {w w' : Int → Int} : ∀ n : Nat, (∀ k : Int, 0 ≤ k ∧ k < n → w k = w' k) → YS B w n = YS B w' n
  | 0, _ => rfl
  | n + 1, h => by
    rw [YS, YS, YS_cong n (fun k hk => h k (by omega)), h n (by omega)]
def upW (w : Int → Int) (y v : Int) : Int → Int := fun k => if k = y then v else w k
/-- what is asked at the end -/
def ASK (B : BK) (e n : Int) (w : Int → Int) (y : Nat) : Int := if e = -1 then ALS B (YS B w y) else bI (n ≤ YS B w y 0 e)
def WGT (B : BK) (e n : Int) : Nat → (Int → Int) → Nat → Int
  | 0, w, y => ASK B e n w y
  | k + 1, w, y => B 3 0 * WGT B e n k (upW w y 1) (y + 1) + (10 - B 3 0) * WGT B e n k (upW w y 0) (y + 1)
theorem W01_up {w : Int → Int} {y v : Int} (h : ∀ k : Int, 0 ≤ k → w k = 0 ∨ w k = 1) (hv : v = 0 ∨ v = 1) : ∀ k : Int, 0 ≤ k → upW w y v k = 0 ∨ upW w y v k = 1 := fun k hk => by
  unfold upW
  split
  · exact hv
  · exact h k hk
theorem ASK_in {B : BK} (hW : WB B) {e n : Int} {w : Int → Int} (hw : ∀ k : Int, 0 ≤ k → w k = 0 ∨ w k = 1) (y : Nat) : 0 ≤ ASK B e n w y ∧ ASK B e n w y ≤ (if e = -1 then 420 else 1) := by
  unfold ASK
  split
  · exact ALS_in hW.s (TB_YS hW hw y)
  · have := bI_01 (n ≤ YS B w y 0 e); omega
def P10 : Nat → Int
  | 0 => 1
  | n + 1 => P10 n * 10
theorem P10_pos : ∀ n : Nat, 1 ≤ P10 n
  | 0 => Int.le_refl 1
  | n + 1 => by have := P10_pos n; rw [P10]; omega
theorem P10_le : ∀ n : Nat, n ≤ 8 → P10 n ≤ 100000000 := by decide +kernel
theorem WGT_in {B : BK} (hW : WB B) {e n : Int} : ∀ (k : Nat) (w : Int → Int) (y : Nat), (∀ k : Int, 0 ≤ k → w k = 0 ∨ w k = 1) → 0 ≤ WGT B e n k w y ∧ WGT B e n k w y ≤ (if e = -1 then 420 else 1) * P10 k
  | 0, w, y, hw => by
    have := ASK_in hW (e := e) (n := n) hw y
    rw [WGT, P10, Int.mul_one]
    exact this
  | k + 1, w, y, hw => by
    have h1 := WGT_in hW (e := e) (n := n) k (upW w y 1) (y + 1) (W01_up hw (Or.inr rfl))
    have h0 := WGT_in hW (e := e) (n := n) k (upW w y 0) (y + 1) (W01_up hw (Or.inl rfl))
    have ho := hW.s.2.2.2.1
    rw [WGT, P10, ← Int.mul_assoc]
    generalize WGT B e n k (upW w y 1) (y + 1) = a at *
    generalize WGT B e n k (upW w y 0) (y + 1) = c at *
    generalize (if e = -1 then 420 else 1) * P10 k = m at *
    have hc : B 3 0 = 0 ∨ B 3 0 = 1 ∨ B 3 0 = 2 ∨ B 3 0 = 3 ∨ B 3 0 = 4 ∨ B 3 0 = 5 ∨ B 3 0 = 6 ∨ B 3 0 = 7 ∨ B 3 0 = 8 ∨ B 3 0 = 9 ∨ B 3 0 = 10 := by omega
    rcases hc with q | q | q | q | q | q | q | q | q | q | q <;> rw [q] <;> omega
/-! lowest terms -/
def GCD (a b : Int) : Int := ((Nat.gcd a.toNat b.toNat : Nat) : Int)
/-- two and five taken out -/
def LOWS (a b : Int) : Int × Int := if a % 2 = 0 ∧ b % 2 = 0 then (a / 2, b / 2) else (a, b)
def LOW5 (a b : Int) : Int × Int := if a % 5 = 0 ∧ b % 5 = 0 then (a / 5, b / 5) else (a, b)
def LOW (a b : Int) : Nat → Int × Int
  | 0 => (a, b)
  | n + 1 => LOW5 (LOWS (LOW a b n).1 (LOW a b n).2).1 (LOWS (LOW a b n).1 (LOW a b n).2).2
theorem LOW_in {a b m : Int} (ha : 0 ≤ a ∧ a ≤ m) (hb : 0 ≤ b ∧ b ≤ m) : ∀ n : Nat, (0 ≤ (LOW a b n).1 ∧ (LOW a b n).1 ≤ m) ∧ (0 ≤ (LOW a b n).2 ∧ (LOW a b n).2 ≤ m)
  | 0 => ⟨ha, hb⟩
  | n + 1 => by
    have ih := LOW_in ha hb n
    rw [LOW]
    unfold LOW5 LOWS
    (repeat' split) <;> (try simp only) <;> omega
/-- what the loop keeps: a and b are what they were, and few twos and fives are left together -/
def LWI (a b : Nat) (y i : Nat) (A C : Nat) : Prop := a * C = A * b ∧ ∃ s t : Nat, C = 2 ^ s * 5 ^ t ∧ (s + i ≤ y ∨ A % 2 ≠ 0 ∨ s = 0) ∧ (t + i ≤ y ∨ A % 5 ≠ 0 ∨ t = 0)
theorem LWI_2 {a b y i A C : Nat} (h : LWI a b y i A C) : a * (if A % 2 = 0 ∧ C % 2 = 0 then C / 2 else C) = (if A % 2 = 0 ∧ C % 2 = 0 then A / 2 else A) * b ∧ ∃ s t : Nat, (if A % 2 = 0 ∧ C % 2 = 0 then C / 2 else C) = 2 ^ s * 5 ^ t ∧ (s + (i + 1) ≤ y ∨ (if A % 2 = 0 ∧ C % 2 = 0 then A / 2 else A) % 2 ≠ 0 ∨ s = 0) ∧ (t + i ≤ y ∨ (if A % 2 = 0 ∧ C % 2 = 0 then A / 2 else A) % 5 ≠ 0 ∨ t = 0) := by
  obtain ⟨h1, s, t, h2, h3, h4⟩ := h
  by_cases c : A % 2 = 0 ∧ C % 2 = 0
  · rw [if_pos c, if_pos c]
    have e1 : a * (C / 2) = A / 2 * b := by
      obtain ⟨p, hp⟩ : ∃ p, A = 2 * p := ⟨A / 2, by omega⟩
      obtain ⟨q, hq⟩ : ∃ q, C = 2 * q := ⟨C / 2, by omega⟩
      subst hp
      subst hq
      rw [Nat.mul_div_cancel_left _ (by decide), Nat.mul_div_cancel_left _ (by decide)]
      have : 2 * (a * q) = 2 * (p * b) := by rw [← Nat.mul_left_comm, h1, Nat.mul_assoc]
      exact Nat.eq_of_mul_eq_mul_left (by decide) this
    refine ⟨e1, ?_⟩
    cases s with
    | zero =>
      exfalso
      rw [Nat.pow_zero, Nat.one_mul] at h2
      have : C % 2 = 1 := by
        rw [h2, Nat.pow_mod]
        show 1 ^ t % 2 = 1
        rw [Nat.one_pow]
      omega
    | succ s =>
      refine ⟨s, t, ?_, ?_, ?_⟩
      · rw [h2, Nat.pow_succ, Nat.mul_comm (2 ^ s) 2, Nat.mul_assoc, Nat.mul_div_cancel_left _ (by decide)]
      · rcases h3 with q | q | q
        · left; omega
        · exact absurd c.1 q
        · omega
      · rcases h4 with q | q | q
        · left; exact q
        · right; left
          intro r
          have : A % 5 = 0 := by omega
          exact q this
        · right; right; exact q
  · rw [if_neg c, if_neg c]
    refine ⟨h1, s, t, h2, ?_, h4⟩
    by_cases c2 : A % 2 = 0
    · right; right
      cases s with
      | zero => rfl
      | succ s =>
        exfalso
        refine c ⟨c2, ?_⟩
        rw [h2, Nat.pow_succ, Nat.mul_comm (2 ^ s) 2, Nat.mul_assoc, Nat.mul_mod_right]
    · right; left; exact c2
theorem LWI_5 {a b y i A C : Nat} (h : a * C = A * b ∧ ∃ s t : Nat, C = 2 ^ s * 5 ^ t ∧ (s + (i + 1) ≤ y ∨ A % 2 ≠ 0 ∨ s = 0) ∧ (t + i ≤ y ∨ A % 5 ≠ 0 ∨ t = 0)) : LWI a b y (i + 1) (if A % 5 = 0 ∧ C % 5 = 0 then A / 5 else A) (if A % 5 = 0 ∧ C % 5 = 0 then C / 5 else C) := by
  obtain ⟨h1, s, t, h2, h3, h4⟩ := h
  by_cases c : A % 5 = 0 ∧ C % 5 = 0
  · rw [if_pos c, if_pos c]
    have e1 : a * (C / 5) = A / 5 * b := by
      obtain ⟨p, hp⟩ : ∃ p, A = 5 * p := ⟨A / 5, by omega⟩
      obtain ⟨q, hq⟩ : ∃ q, C = 5 * q := ⟨C / 5, by omega⟩
      subst hp
      subst hq
      rw [Nat.mul_div_cancel_left _ (by decide), Nat.mul_div_cancel_left _ (by decide)]
      have : 5 * (a * q) = 5 * (p * b) := by rw [← Nat.mul_left_comm, h1, Nat.mul_assoc]
      exact Nat.eq_of_mul_eq_mul_left (by decide) this
    refine ⟨e1, ?_⟩
    cases t with
    | zero =>
      exfalso
      rw [Nat.pow_zero, Nat.mul_one] at h2
      have hd : 5 ∣ 2 ^ s := by rw [← h2]; exact Nat.dvd_of_mod_eq_zero c.2
      have hc : Nat.Coprime 5 (2 ^ s) := Nat.Coprime.pow_right s (by decide)
      have := Nat.Coprime.eq_one_of_dvd hc hd
      omega
    | succ t =>
      refine ⟨s, t, ?_, ?_, ?_⟩
      · rw [h2, Nat.pow_succ, ← Nat.mul_assoc, Nat.mul_div_cancel _ (by decide)]
      · rcases h3 with q | q | q
        · left; exact q
        · right; left
          intro r
          have : A % 2 = 0 := by omega
          exact q this
        · right; right; exact q
      · rcases h4 with q | q | q
        · left; omega
        · exact absurd c.1 q
        · omega
  · rw [if_neg c, if_neg c]
    refine ⟨h1, s, t, h2, h3, ?_⟩
    by_cases c2 : A % 5 = 0
    · right; right
      cases t with
      | zero => rfl
      | succ t =>
        exfalso
        refine c ⟨c2, ?_⟩
        rw [h2, Nat.pow_succ, ← Nat.mul_assoc, Nat.mul_mod_left]
    · right; left; exact c2
theorem LOW_nat (a b : Nat) : ∀ n : Nat, ∃ A C : Nat, LOW a b n = ((A : Int), (C : Int)) ∧ ((∃ y : Nat, b = 2 ^ y * 5 ^ y) → ∀ y : Nat, b = 2 ^ y * 5 ^ y → LWI a b y n A C)
  | 0 => ⟨a, b, rfl, fun _ y hy => ⟨rfl, y, y, hy, Or.inl (by omega), Or.inl (by omega)⟩⟩
  | n + 1 => by
    obtain ⟨A, C, h1, h2⟩ := LOW_nat a b n
    refine ⟨if (if A % 2 = 0 ∧ C % 2 = 0 then A / 2 else A) % 5 = 0 ∧ (if A % 2 = 0 ∧ C % 2 = 0 then C / 2 else C) % 5 = 0 then (if A % 2 = 0 ∧ C % 2 = 0 then A / 2 else A) / 5 else (if A % 2 = 0 ∧ C % 2 = 0 then A / 2 else A), if (if A % 2 = 0 ∧ C % 2 = 0 then A / 2 else A) % 5 = 0 ∧ (if A % 2 = 0 ∧ C % 2 = 0 then C / 2 else C) % 5 = 0 then (if A % 2 = 0 ∧ C % 2 = 0 then C / 2 else C) / 5 else (if A % 2 = 0 ∧ C % 2 = 0 then C / 2 else C), ?_, fun hx y hy => LWI_5 (LWI_2 (h2 hx y hy))⟩
    have e2 : LOWS (A : Int) (C : Int) = (((if A % 2 = 0 ∧ C % 2 = 0 then A / 2 else A : Nat) : Int), ((if A % 2 = 0 ∧ C % 2 = 0 then C / 2 else C : Nat) : Int)) := by
      unfold LOWS
      by_cases c : A % 2 = 0 ∧ C % 2 = 0
      · rw [if_pos c, if_pos c, if_pos (by omega)]; rfl
      · rw [if_neg c, if_neg c, if_neg (by omega)]
    have e5 : ∀ P R : Nat, LOW5 (P : Int) (R : Int) = (((if P % 5 = 0 ∧ R % 5 = 0 then P / 5 else P : Nat) : Int), ((if P % 5 = 0 ∧ R % 5 = 0 then R / 5 else R : Nat) : Int)) := by
      intro P R
      unfold LOW5
      by_cases c : P % 5 = 0 ∧ R % 5 = 0
      · rw [if_pos c, if_pos c, if_pos (by omega)]; rfl
      · rw [if_neg c, if_neg c, if_neg (by omega)]
    rw [LOW, h1]
    simp only [e2, e5]
theorem cop_25 {A s t : Nat} (h2 : A % 2 ≠ 0 ∨ s = 0) (h5 : A % 5 ≠ 0 ∨ t = 0) : Nat.Coprime A (2 ^ s * 5 ^ t) := by
  refine Nat.Coprime.mul_right ?_ ?_
  · rcases h2 with h | h
    · refine Nat.Coprime.pow_right s ?_
      show Nat.gcd A 2 = 1
      rw [Nat.gcd_comm, Nat.gcd_rec]
      rw [show A % 2 = 1 by omega]
      rfl
    · subst h; exact Nat.gcd_one_right A
  · rcases h5 with h | h
    · refine Nat.Coprime.pow_right t ?_
      show Nat.gcd A 5 = 1
      rw [Nat.gcd_comm, Nat.gcd_rec]
      have hc : A % 5 = 1 ∨ A % 5 = 2 ∨ A % 5 = 3 ∨ A % 5 = 4 := by omega
      rcases hc with q | q | q | q <;> rw [q] <;> rfl
    · subst h; exact Nat.gcd_one_right A
/-- a ratio in lowest terms is there once -/
theorem low_eq {a b A C : Nat} (hb : 0 < b) (h : a * C = A * b) (hc : Nat.Coprime A C) (hC : 0 < C) : A = a / Nat.gcd a b ∧ C = b / Nat.gcd a b := by
  have h1 : C ∣ b := hc.symm.dvd_of_dvd_mul_left (by rw [← h]; exact Nat.dvd_mul_left C a)
  obtain ⟨g, rfl⟩ := h1
  have h2 : a = A * g := by
    have : C * a = C * (A * g) := by rw [Nat.mul_comm C a, h, Nat.mul_left_comm]
    exact Nat.eq_of_mul_eq_mul_left hC this
  subst h2
  have hg : Nat.gcd (A * g) (C * g) = g := by rw [Nat.gcd_mul_right, hc, Nat.one_mul]
  have hg0 : 0 < g := Nat.pos_of_mul_pos_left hb |> fun q => by
    rcases Nat.eq_zero_or_pos g with z | z
    · subst z; simp at hb
    · exact z
  rw [hg]
  exact ⟨(Nat.mul_div_cancel _ hg0).symm, (Nat.mul_div_cancel _ hg0).symm⟩
theorem P10_nat : ∀ y : Nat, P10 y = ((2 ^ y * 5 ^ y : Nat) : Int)
  | 0 => rfl
  | y + 1 => by
    rw [P10, P10_nat y, Nat.pow_succ, Nat.pow_succ]
    have e : 2 ^ y * 2 * (5 ^ y * 5) = 2 ^ y * 5 ^ y * 10 := by
      rw [Nat.mul_mul_mul_comm]
    rw [e]
    rfl
theorem LOW_ok {a : Int} (ha : 0 ≤ a) (y : Nat) : LOW a (P10 y) y = (a / GCD a (P10 y), P10 y / GCD a (P10 y)) := by
  obtain ⟨n, rfl⟩ := Int.eq_ofNat_of_zero_le ha
  rw [P10_nat]
  obtain ⟨A, C, h1, h2⟩ := LOW_nat n (2 ^ y * 5 ^ y) y
  have h := h2 ⟨y, rfl⟩ y rfl
  obtain ⟨h3, s, t, h4, h5, h6⟩ := h
  have hp2 : 0 < 2 ^ s := Nat.pow_pos (by decide)
  have hp5 : 0 < 5 ^ t := Nat.pow_pos (by decide)
  have hb : 0 < 2 ^ y * 5 ^ y := Nat.mul_pos (Nat.pow_pos (by decide)) (Nat.pow_pos (by decide))
  have hco : Nat.Coprime A C := by
    rw [h4]
    exact cop_25 (by rcases h5 with q | q | q; right; omega; left; exact q; right; exact q) (by rcases h6 with q | q | q; right; omega; left; exact q; right; exact q)
  obtain ⟨e1, e2⟩ := low_eq hb h3 hco (by rw [h4]; exact Nat.mul_pos hp2 hp5)
  rw [h1]
  unfold GCD
  rw [e1, e2]
  rfl
def PRT (a b w : Int) : Int := (if w = 0 then a else b) / GCD a b
theorem PRT_in {a b w m : Int} (ha : 0 ≤ a ∧ a ≤ m) (hb : 1 ≤ b ∧ b ≤ m) : 0 ≤ PRT a b w ∧ PRT a b w ≤ m := by
  have hg : 0 < Nat.gcd a.toNat b.toNat := Nat.gcd_pos_of_pos_right _ (by omega)
  unfold PRT GCD
  have h : ∀ x : Int, 0 ≤ x ∧ x ≤ m → 0 ≤ x / ((Nat.gcd a.toNat b.toNat : Nat) : Int) ∧ x / ((Nat.gcd a.toNat b.toNat : Nat) : Int) ≤ m := fun x hx => by
    have h1 := Int.ediv_nonneg hx.1 (b := ((Nat.gcd a.toNat b.toNat : Nat) : Int)) (by omega)
    have h2 := Int.ediv_le_self ((Nat.gcd a.toNat b.toNat : Nat) : Int) hx.1
    omega
  split
  · exact h a ha
  · exact h b (by omega)
abbrev r_cy (B : BK) (y : Int) : Prop := B 0 0 = 0 ∨ y < 1 ∨ B 1 0 < y ∨ 8 < y
abbrev r_w (w : Int) : Prop := ¬ w = 0 ∧ ¬ w = 1
def q_chance (B : BK) (e y n w : Int) : Int := if (e < 0 ∨ B 6 0 ≤ e) ∨ r_cy B y ∨ (n < 0 ∨ 60 < n) ∨ r_w w then -2 else PRT (WGT B e n y.toNat (fun _ => 0) 0) (P10 y.toNat) w
def q_mean (B : BK) (y w : Int) : Int := if r_cy B y ∨ r_w w then -2 else PRT (WGT B (-1) 0 y.toNat (fun _ => 0) 0) (P10 y.toNat) w
/-- years drawn -/
def LCG (s : Int) : Nat → Int
  | 0 => s
  | n + 1 => (1103515245 * LCG s n + 12345) % 2147483648
theorem LCG_in {s : Int} (hs : 0 ≤ s ∧ s ≤ 2147483647) : ∀ n : Nat, 0 ≤ LCG s n ∧ LCG s n ≤ 2147483647
  | 0 => hs
  | n + 1 => by rw [LCG]; omega
abbrev WTC (B : BK) (s i : Int) : Prop := LCG s (i.toNat + 1) / 65536 % 10 < B 3 0
def WET (B : BK) (s : Int) : Int := bsN (fun i => bI (WTC B s i)) (B 1 0).toNat
theorem WET_in {B : BK} (hs : WS B) (s : Int) : 0 ≤ WET B s ∧ WET B s < 1048576 := by
  have h := bsI_in (fun i => WTC B s i) (B 1 0).toNat
  have h2 := p2_le (a := (((B 1 0).toNat : Nat) : Int)) (b := 20) (by omega)
  have h3 : p2 20 = 1048576 := rfl
  unfold WET
  exact ⟨h.1, by have := h.2; omega⟩
def q_drawn (B : BK) (s w : Int) : Int := if B 0 0 = 0 ∨ (s < 0 ∨ 2000000000 < s) ∨ r_w w then -2 else if w = 0 then WET B s else bsN (fun e => bI (5 ≤ SHD B (bt (WET B s)) (B 1 0) e)) (B 6 0).toNat
def q_luck (B : BK) (s n e : Int) : Int := if (e < 0 ∨ B 6 0 ≤ e) ∨ (s < 0 ∨ 2000000000 < s) ∨ (n < 1 ∨ 20 < n) then -2 else sumN (fun i => bI (5 ≤ SHD B (bt (WET B (s + i))) (B 1 0) e)) n.toNat
