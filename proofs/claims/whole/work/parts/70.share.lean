/-! SHARES: the mean over all orders -/
def FCT : Nat → Nat
  | 0 => 1
  | n + 1 => (n + 1) * FCT n
def PC : Nat → Nat → Nat
  | 0, _ => 0
  | k + 1, v => v % 2 + PC k (v / 2)
def SHS (N A : Nat) : Nat → Nat
  | 0 => 0
  | i + 1 => SHS N A i + (if i &&& A = 0 then FCT (PC 7 i) * FCT (N - PC 7 i - 1) else 0)
theorem SHS_ok : ∀ N : Nat, N < 8 → ∀ A : Nat, A < 128 → (A ≠ 0 ∧ A < 2 ^ N → SHS N A (2 ^ N) * PC 7 A = FCT N ∧ SHS N A (2 ^ N) ≤ 5040) := by decide +kernel
theorem FCT_le : ∀ n : Nat, n < 8 → 1 ≤ FCT n ∧ FCT n ≤ 5040 := by decide +kernel
theorem sumN_bt2 (m b : Nat) (hb : b < 2) : ∀ n : Nat, sumN (bt ((2 * m + b : Nat) : Int)) (n + 1) = b + sumN (bt (m : Int)) n := by
  intro n
  have h0 : bt ((2 * m + b : Nat) : Int) 0 = b := by
    unfold bt
    rw [p2_0, Int.ediv_one]
    omega
  have hs : ∀ k : Nat, bt ((2 * m + b : Nat) : Int) ((k + 1 : Nat) : Int) = bt (m : Int) (k : Int) := by
    intro k
    unfold bt
    rw [show ((k + 1 : Nat) : Int) = (k : Int) + 1 by omega, p2_succ (by omega), ← Int.ediv_ediv_of_nonneg (by omega)]
    rw [show ((2 * m + b : Nat) : Int) / 2 = m by omega]
  induction n with
  | zero => show 0 + bt ((2 * m + b : Nat) : Int) ((0 : Nat) : Int) = _; rw [show ((0 : Nat) : Int) = 0 from rfl, h0]; show 0 + (b : Int) = b + 0; omega
  | succ n ih => rw [sumN_S, ih, hs n, sumN_S]; omega
theorem PC_sum : ∀ (n v : Nat), ((PC n v : Nat) : Int) = sumN (bt (v : Int)) n
  | 0, _ => rfl
  | n + 1, v => by
    have e : v = 2 * (v / 2) + v % 2 := by omega
    have h := sumN_bt2 (v / 2) (v % 2) (by omega) n
    rw [← e] at h
    rw [h, ← PC_sum n (v / 2)]
    show ((v % 2 + PC n (v / 2) : Nat) : Int) = _
    omega
theorem sum_hi {v : Int} {n : Nat} (hv : 0 ≤ v ∧ v < p2 n) : ∀ m : Nat, n ≤ m → sumN (bt v) m = sumN (bt v) n := by
  intro m hm
  induction m with
  | zero => rw [show n = 0 by omega]
  | succ m ih =>
    rcases Nat.lt_or_ge m n with q | q
    · rw [show m + 1 = n by omega]
    · rw [sumN_S, ih q]
      have hp := p2_le (a := (n : Int)) (b := (m : Int)) (by omega)
      have : bt v m = 0 := by
        unfold bt
        rw [Int.ediv_eq_zero_of_lt hv.1 (by omega)]
        rfl
      rw [this]; omega
/-- one bit less -/
theorem and_pred : ∀ (n v : Nat), v ≠ 0 → v < 2 ^ n → PC n (v &&& (v - 1)) + 1 = PC n v
  | 0, v, h0, h => by rw [Nat.pow_zero] at h; omega
  | n + 1, v, h0, h => by
    rw [Nat.pow_succ] at h
    by_cases c : v % 2 = 1
    · have e1 : (v &&& (v - 1)) / 2 = v / 2 := by
        rw [Nat.and_div_two, show (v - 1) / 2 = v / 2 by omega, Nat.and_self]
      have e2 : (v &&& (v - 1)) % 2 = 0 := by
        have := Nat.and_mod_two_pow (a := v) (b := v - 1) (n := 1)
        rw [show 2 ^ 1 = 2 from rfl] at this
        rw [this, show (v - 1) % 2 = 0 by omega, Nat.and_zero]
      rw [PC, PC, e1, e2, c]
      omega
    · have e1 : (v &&& (v - 1)) / 2 = v / 2 &&& (v / 2 - 1) := by
        rw [Nat.and_div_two, show (v - 1) / 2 = v / 2 - 1 by omega]
      have e2 : (v &&& (v - 1)) % 2 = 0 := by
        have := Nat.and_mod_two_pow (a := v) (b := v - 1) (n := 1)
        rw [show 2 ^ 1 = 2 from rfl] at this
        rw [this, show v % 2 = 0 by omega, Nat.zero_and]
      have ih := and_pred n (v / 2) (by omega) (by omega)
      rw [PC, PC, e1, e2]
      omega
theorem PC_le : ∀ (n v : Nat), PC n v ≤ n
  | 0, _ => Nat.le_refl 0
  | n + 1, v => by have := PC_le n (v / 2); rw [PC]; omega
theorem PC_0 : ∀ n : Nat, PC n 0 = 0
  | 0 => rfl
  | n + 1 => by rw [PC, show 0 / 2 = 0 from rfl, PC_0 n]
theorem PC_pos : ∀ (n v : Nat), v ≠ 0 → v < 2 ^ n → 0 < PC n v
  | n, v, h0, h => by have := and_pred n v h0 h; omega
theorem POP_PC {v : Nat} : POP (v : Int) = ((PC 24 v : Nat) : Int) := (PC_sum 24 v).symm
theorem SOR_S (p : Int → Prop) [DecidablePred p] (g : Int → Int) (n : Nat) : SOR p g (n + 1) = SOR p g n + bI (p n ∧ fst (fun k => p k ∧ g k = g n) ((n : Int)).toNat 0 = -1) := rfl
/-- one more in a set -/
theorem SOR_add {p q : Int → Prop} [DecidablePred p] [DecidablePred q] {g : Int → Int} {e : Int} (he : 0 ≤ e) (hn : ¬ p e) (hq : ∀ k : Int, 0 ≤ k → (q k ↔ p k ∨ k = e)) : ∀ n : Nat, SOR q g n = SOR p g n + (if e < n then bI (fst (fun k => p k ∧ g k = g e) n 0 = -1) else 0)
  | 0 => by rw [if_neg (by omega)]; rfl
  | n + 1 => by
    have ih := SOR_add (g := g) he hn hq n
    rw [SOR_S, SOR_S, ih]
    have en : ((n : Int)).toNat = n := by omega
    rw [en]
    have k1 : fst (fun k => p k ∧ g k = g e) (n + 1) 0 = -1 ↔ fst (fun k => p k ∧ g k = g e) n 0 = -1 ∧ ¬ (p n ∧ g n = g e) := fst_m1S
    rcases Int.lt_trichotomy (n : Int) e with c | c | c
    · rw [if_neg (by omega), if_neg (by omega)]
      have e1 : bI (q n ∧ fst (fun k => q k ∧ g k = g n) n 0 = -1) = bI (p n ∧ fst (fun k => p k ∧ g k = g n) n 0 = -1) := by
        have h1 : q n ↔ p n := by rw [hq n (by omega)]; exact ⟨fun z => z.resolve_right (by omega), Or.inl⟩
        have h2 : fst (fun k => q k ∧ g k = g n) n 0 = fst (fun k => p k ∧ g k = g n) n 0 := fst_cong _ _ (fun x hx => by rw [hq x (by omega)]; exact ⟨fun z => ⟨z.1.resolve_right (by omega), z.2⟩, fun z => ⟨Or.inl z.1, z.2⟩⟩)
        exact bI_cong (by rw [h1, h2])
      rw [e1]
      omega
    · subst c
      rw [if_neg (by omega), if_pos (by omega)]
      have h2 : fst (fun k => q k ∧ g k = g n) n 0 = fst (fun k => p k ∧ g k = g n) n 0 := fst_cong _ _ (fun x hx => by rw [hq x (by omega)]; exact ⟨fun z => ⟨z.1.resolve_right (by omega), z.2⟩, fun z => ⟨Or.inl z.1, z.2⟩⟩)
      rw [bI_f (c := p n ∧ _) (fun z => hn z.1), h2]
      have e1 : bI (q n ∧ fst (fun k => p k ∧ g k = g n) n 0 = -1) = bI (fst (fun k => p k ∧ g k = g n) (n + 1) 0 = -1) := bI_cong (by rw [k1, hq n (by omega)]; exact ⟨fun z => ⟨z.2, fun w => hn w.1⟩, fun z => ⟨Or.inr rfl, z.1⟩⟩)
      rw [e1]
    · rw [if_pos (by omega), if_pos (by omega)]
      have h1 : q n ↔ p n := by rw [hq n (by omega)]; exact ⟨fun z => z.resolve_right (by omega), Or.inl⟩
      have m1 : ∀ (r : Int → Prop) [DecidablePred r], fst r n 0 = -1 ↔ ∀ k : Int, 0 ≤ k ∧ k < n → ¬ r k := fun r _ => fst_m1
      by_cases hp : p n
      · by_cases hg : g n = g e
        · have t1 : bI (q n ∧ fst (fun k => q k ∧ g k = g n) n 0 = -1) = 0 := bI_f (fun z => (m1 _).mp z.2 e (by omega) ⟨(hq e he).mpr (Or.inr rfl), hg.symm⟩)
          have t2 : bI (fst (fun k => p k ∧ g k = g e) (n + 1) 0 = -1) = 0 := bI_f (fun z => (k1.mp z).2 ⟨hp, hg⟩)
          have t3 : bI (p n ∧ fst (fun k => p k ∧ g k = g n) n 0 = -1) = bI (fst (fun k => p k ∧ g k = g e) n 0 = -1) := bI_cong (by rw [hg]; exact ⟨fun z => z.2, fun z => ⟨hp, z⟩⟩)
          rw [t1, t2, t3]
        · have t1 : bI (q n ∧ fst (fun k => q k ∧ g k = g n) n 0 = -1) = bI (p n ∧ fst (fun k => p k ∧ g k = g n) n 0 = -1) := bI_cong (by
            rw [h1, m1, m1]
            refine and_congr_right (fun _ => ⟨fun z k hk w => z k hk ⟨(hq k hk.1).mpr (Or.inl w.1), w.2⟩, fun z k hk w => ?_⟩)
            rcases (hq k hk.1).mp w.1 with r | r
            · exact z k hk ⟨r, w.2⟩
            · subst r; exact hg w.2.symm)
          have t2 : bI (fst (fun k => p k ∧ g k = g e) (n + 1) 0 = -1) = bI (fst (fun k => p k ∧ g k = g e) n 0 = -1) := bI_cong (by rw [k1]; exact ⟨fun z => z.1, fun z => ⟨z, fun w => hg w.2⟩⟩)
          rw [t1, t2]
          omega
      · have t1 : bI (q n ∧ fst (fun k => q k ∧ g k = g n) n 0 = -1) = 0 := bI_f (fun z => hp (h1.mp z.1))
        have t2 : bI (p n ∧ fst (fun k => p k ∧ g k = g n) n 0 = -1) = 0 := bI_f (fun z => hp z.1)
        have t3 : bI (fst (fun k => p k ∧ g k = g e) (n + 1) 0 = -1) = bI (fst (fun k => p k ∧ g k = g e) n 0 = -1) := bI_cong (by rw [k1]; exact ⟨fun z => z.1, fun z => ⟨z, fun w => hp w.1⟩⟩)
        rw [t1, t2, t3]
        omega
/-- those as dark as one at the end, as bits -/
def LKB (B : BK) (e : Int) : Int := bsN (fun o => bI ((B 13 e ≤ B 1 0 ∧ B 13 o ≤ B 1 0) ∧ SHD B (bt 0) (B 1 0) e = SHD B (bt 0) (B 1 0) o)) (B 6 0).toNat
/-- what e adds to a set without it -/
def MRG (B : BK) (s e : Int) : Int := SOR (fun k => bt (setB s e) k = 1 ∧ B 13 k ≤ B 1 0) (SHD B (bt 0) (B 1 0)) (B 6 0).toNat - SOR (fun k => bt s k = 1 ∧ B 13 k ≤ B 1 0) (SHD B (bt 0) (B 1 0)) (B 6 0).toNat
def SHT (B : BK) (e s : Int) : Int := if bt s e = 1 then 0 else (FCT (PC 7 s.toNat) : Nat) * (FCT ((B 6 0).toNat - PC 7 s.toNat - 1) : Nat) * MRG B s e
theorem MRG_ok {B : BK} {s e : Int} (hs : 0 ≤ s) (he : 0 ≤ e ∧ e < B 6 0) (h : ¬ bt s e = 1) : MRG B s e = if B 13 e ≤ B 1 0 then (if andB s (LKB B e) = 0 then 1 else 0) else 0 := by
  have hb := bsI_in (fun o => (B 13 e ≤ B 1 0 ∧ B 13 o ≤ B 1 0) ∧ SHD B (bt 0) (B 1 0) e = SHD B (bt 0) (B 1 0) o) (B 6 0).toNat
  have hset : ∀ k : Int, 0 ≤ k → (bt (setB s e) k = 1 ↔ bt s k = 1 ∨ k = e) := fun k hk => by
    rw [bt_setB hs he.1 hk]
    by_cases q : k = e
    · rw [if_pos q]; exact ⟨fun _ => Or.inr q, fun _ => rfl⟩
    · rw [if_neg q]; exact ⟨Or.inl, fun z => z.resolve_right q⟩
  unfold MRG
  by_cases ht : B 13 e ≤ B 1 0
  · rw [if_pos ht, SOR_add (p := fun k => bt s k = 1 ∧ B 13 k ≤ B 1 0) he.1 (fun z => h z.1) (fun k hk => by
      rw [hset k hk]
      constructor
      · rintro ⟨a | a, b⟩
        · exact Or.inl ⟨a, b⟩
        · exact Or.inr a
      · rintro (a | a)
        · exact ⟨Or.inl a.1, a.2⟩
        · exact ⟨Or.inr a, by rw [a]; exact ht⟩), if_pos (by omega)]
    have key : (fst (fun k => (bt s k = 1 ∧ B 13 k ≤ B 1 0) ∧ SHD B (bt 0) (B 1 0) k = SHD B (bt 0) (B 1 0) e) (B 6 0).toNat 0 = -1) ↔ andB s (LKB B e) = 0 := by
      rw [fst_m1]
      have hA : 0 ≤ LKB B e := hb.1
      constructor
      · intro z
        have h0 := andB_in (a := s) (b := LKB B e) hs
        have hle : andB s (LKB B e) ≤ LKB B e := by
          obtain ⟨n, hn⟩ := Int.eq_ofNat_of_zero_le hs
          obtain ⟨m, hm⟩ := Int.eq_ofNat_of_zero_le hA
          rw [hn, hm]
          unfold andB
          have := Nat.and_le_right (n := n) (m := m)
          simp only [Int.toNat_natCast]
          omega
        have := bs_of (r := andB s (LKB B e)) (n := (B 6 0).toNat) (f := fun _ => 0) ⟨h0.1, by have := hb.2; unfold LKB at hle ⊢; omega⟩ (fun i hi => by
          rcases bt_01 (andB s (LKB B e)) i with q | q
          · exact q
          · exfalso
            have q2 := (bt_andB hs hA hi.1).mp q
            have q3 := (bt_I hi).mp q2.2
            exact z i hi ⟨⟨q2.1, q3.1.2⟩, q3.2.symm⟩)
        rw [this]
        exact bsN_zero (fun _ _ => rfl)
      · intro z k hk w
        have q := (bt_andB (e := k) hs hA hk.1).mpr ⟨w.1.1, (bt_I hk).mpr ⟨⟨ht, w.1.2⟩, w.2.symm⟩⟩
        rw [z, bt_0] at q
        exact absurd q (by decide)
    have e2 : bI (fst (fun k => (bt s k = 1 ∧ B 13 k ≤ B 1 0) ∧ SHD B (bt 0) (B 1 0) k = SHD B (bt 0) (B 1 0) e) (B 6 0).toNat 0 = -1) = if andB s (LKB B e) = 0 then 1 else 0 := by
      by_cases q : andB s (LKB B e) = 0
      · rw [if_pos q, bI_t (key.mpr q)]
      · rw [if_neg q, bI_f (fun z => q (key.mp z))]
    rw [← e2]
    omega
  · rw [if_neg ht]
    have : SOR (fun k => bt (setB s e) k = 1 ∧ B 13 k ≤ B 1 0) (SHD B (bt 0) (B 1 0)) (B 6 0).toNat = SOR (fun k => bt s k = 1 ∧ B 13 k ≤ B 1 0) (SHD B (bt 0) (B 1 0)) (B 6 0).toNat := SOR_cong (fun k hk => by
      rw [hset k hk.1]
      exact ⟨fun z => ⟨z.1.resolve_right (fun w => ht (by rw [← w]; exact z.2)), z.2⟩, fun z => ⟨Or.inl z.1, z.2⟩⟩)
    omega
theorem SHT_sum {B : BK} {e : Int} (he : 0 ≤ e ∧ e < B 6 0) (ht : B 13 e ≤ B 1 0) : ∀ i : Nat, sumN (SHT B e) i = ((SHS (B 6 0).toNat (LKB B e).toNat i : Nat) : Int)
  | 0 => rfl
  | i + 1 => by
    have hb := bsI_in (fun o => (B 13 e ≤ B 1 0 ∧ B 13 o ≤ B 1 0) ∧ SHD B (bt 0) (B 1 0) e = SHD B (bt 0) (B 1 0) o) (B 6 0).toNat
    have hbe : bt (LKB B e) e = 1 := (bt_I (by omega)).mpr ⟨⟨ht, ht⟩, rfl⟩
    rw [sumN_S, SHT_sum he ht i, SHS]
    have hand : andB (i : Int) (LKB B e) = ((i &&& (LKB B e).toNat : Nat) : Int) := by unfold andB; simp only [Int.toNat_natCast]
    unfold SHT
    rw [show ((i : Int)).toNat = i by omega]
    by_cases c : bt (i : Int) e = 1
    · rw [if_pos c]
      have q := (bt_andB (a := (i : Int)) (b := LKB B e) (e := e) (by omega) hb.1 he.1).mpr ⟨c, hbe⟩
      rw [if_neg (fun z => by rw [hand, z, show ((0 : Nat) : Int) = 0 from rfl, bt_0] at q; exact absurd q (by decide))]
      omega
    · rw [if_neg c, MRG_ok (by omega) he c, if_pos ht, hand]
      by_cases q : i &&& (LKB B e).toNat = 0
      · rw [if_pos q, if_pos (by omega)]
        rw [Int.mul_one, Int.natCast_add, Int.natCast_mul]
      · rw [if_neg q, if_neg (by omega)]
        omega
theorem SHT_no {B : BK} {e : Int} (he : 0 ≤ e ∧ e < B 6 0) (ht : ¬ B 13 e ≤ B 1 0) : ∀ i : Nat, sumN (SHT B e) i = 0
  | 0 => rfl
  | i + 1 => by
    rw [sumN_S, SHT_no he ht i]
    unfold SHT
    by_cases c : bt (i : Int) e = 1
    · rw [if_pos c]; rfl
    · rw [if_neg c, MRG_ok (by omega) he c, if_neg ht]; omega
/-- the share -/
theorem SHR_ok {B : BK} (hW : WB B) {e w : Int} (he : 0 ≤ e ∧ e < B 6 0) (hw : w = 0 ∨ w = 1) : (0 ≤ sumN (SHT B e) (2 ^ (B 6 0).toNat) ∧ sumN (SHT B e) (2 ^ (B 6 0).toNat) ≤ 5040) ∧ PRT (sumN (SHT B e) (2 ^ (B 6 0).toNat)) (FCT (B 6 0).toNat : Nat) w = q_share B e w := by
  have hs := hW.s
  have hF := FCT_le (B 6 0).toNat (by omega)
  have hq : q_share B e w = if w = 0 then (if LIK B e = 0 then 0 else 1) else max (LIK B e) 1 := if_neg (by omega)
  rw [hq]
  by_cases ht : B 13 e ≤ B 1 0
  · have hb := bsI_in (fun o => (B 13 e ≤ B 1 0 ∧ B 13 o ≤ B 1 0) ∧ SHD B (bt 0) (B 1 0) e = SHD B (bt 0) (B 1 0) o) (B 6 0).toNat
    have hbe : bt (LKB B e) e = 1 := (bt_I (by omega)).mpr ⟨⟨ht, ht⟩, rfl⟩
    have hA0 : LKB B e ≠ 0 := fun z => by rw [z, bt_0] at hbe; exact absurd hbe (by decide)
    have hlt : LKB B e < p2 (((B 6 0).toNat : Nat) : Int) := hb.2
    have hp7 := p2_le (a := (((B 6 0).toNat : Nat) : Int)) (b := 7) (by omega)
    have hp70 : p2 7 = 128 := rfl
    have hA1 : 0 ≤ LKB B e := hb.1
    have hlt2 : (LKB B e).toNat < 2 ^ (B 6 0).toNat := by rw [p2_nat] at hlt; omega
    have hok := SHS_ok (B 6 0).toNat (by omega) (LKB B e).toNat (by omega) ⟨by omega, hlt2⟩
    have hL : LIK B e = ((PC 7 (LKB B e).toNat : Nat) : Int) := by
      rw [PC_sum, show (((LKB B e).toNat : Nat) : Int) = LKB B e by omega]
      unfold LIK LKB
      rw [sum_hi (n := (B 6 0).toNat) hb 7 (by omega)]
      exact (sumN_cong (fun k h0 h1 => bt_bs (f := fun o => bI ((B 13 e ≤ B 1 0 ∧ B 13 o ≤ B 1 0) ∧ SHD B (bt 0) (B 1 0) e = SHD B (bt 0) (B 1 0) o)) (fun k _ _ => (bI_01 _).symm.elim Or.inr Or.inl) ⟨h0, h1⟩)).symm
    have hpc := PC_pos 7 (LKB B e).toNat (by omega) (by show _ < 128; omega)
    rw [SHT_sum he ht]
    generalize SHS (B 6 0).toNat (LKB B e).toNat (2 ^ (B 6 0).toNat) = S at *
    generalize PC 7 (LKB B e).toNat = a at *
    generalize FCT (B 6 0).toNat = F at *
    refine ⟨⟨by omega, by have := hok.2; omega⟩, ?_⟩
    have hS0 : 0 < S := by
      rcases Nat.eq_zero_or_pos S with z | z
      · subst z; rw [Nat.zero_mul] at hok; omega
      · exact z
    have hg : Nat.gcd S F = S := by rw [← hok.1]; exact Nat.gcd_eq_left (Nat.dvd_mul_right S a)
    unfold PRT GCD
    rw [show ((S : Nat) : Int).toNat = S by omega, show ((F : Nat) : Int).toNat = F by omega, hg, hL]
    rcases hw with rfl | rfl
    · rw [if_pos rfl, if_pos rfl, if_neg (by omega), Int.ediv_self (by omega)]
    · rw [if_neg (by decide), if_neg (by decide), ← hok.1, Int.natCast_mul, Int.mul_ediv_cancel_left _ (by omega)]
      omega
  · rw [SHT_no he ht]
    refine ⟨by omega, ?_⟩
    have hL : LIK B e = 0 := by
      unfold LIK
      have : ∀ n : Nat, sumN (fun o => bI ((B 13 e ≤ B 1 0 ∧ B 13 o ≤ B 1 0) ∧ SHD B (bt 0) (B 1 0) e = SHD B (bt 0) (B 1 0) o)) n = 0 := by
        intro n
        induction n with
        | zero => rfl
        | succ n ih => rw [sumN_S, ih, bI_f (fun z => ht z.1.1)]; rfl
      exact this _
    unfold PRT GCD
    rw [hL, show ((0 : Int)).toNat = 0 from rfl, Nat.gcd_zero_left, show ((FCT (B 6 0).toNat : Nat) : Int).toNat = FCT (B 6 0).toNat by omega]
    rcases hw with rfl | rfl
    · rw [if_pos rfl, if_pos rfl, if_pos rfl, Int.zero_ediv]
    · rw [if_neg (by decide), if_neg (by decide), Int.ediv_self (by omega)]
      rfl
