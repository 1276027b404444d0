theorem PC_7 {i : Nat} (h : i < 128) : PC 24 i = PC 7 i := by
  have h1 := PC_sum 24 i
  have h2 := PC_sum 7 i
  have h3 := sum_hi (v := (i : Int)) (n := 7) ⟨by omega, by have : p2 ((7 : Nat) : Int) = 128 := rfl; omega⟩ 24 (by omega)
  omega
theorem GCD_S (a b : Int) (ha : 0 ≤ a) (hb : 0 < b) : GCD b (a % b) = GCD a b := by
  obtain ⟨n, rfl⟩ := Int.eq_ofNat_of_zero_le ha
  obtain ⟨m, rfl⟩ := Int.eq_ofNat_of_zero_le (Int.le_of_lt hb)
  unfold GCD
  rw [← Int.natCast_emod]
  simp only [Int.toNat_natCast]
  rw [Nat.gcd_comm n m, Nat.gcd_rec m n, Nat.gcd_comm]
theorem GCD_0 (a : Int) (ha : 0 ≤ a) : GCD a 0 = a := by
  unfold GCD
  rw [show (0 : Int).toNat = 0 from rfl, Nat.gcd_zero_right]
  omega
theorem FCT_1 {n : Nat} (h : n ≤ 1) : FCT n = 1 := by
  rcases Nat.lt_or_ge n 1 with z | z
  · rw [show n = 0 by omega]; rfl
  · rw [show n = 1 by omega]; rfl
def PW (a : Int) : Nat → Int
  | 0 => 1
  | n + 1 => a * PW a n
theorem sumN_i (f : Int → Int) (i : Nat) : sumN f (i + 1) = sumN f i + f (i : Int) := rfl

set_option maxRecDepth 20000 in
set_option maxHeartbeats 1000000 in
theorem c_X6_sizeOf {d : Nat} (hd : 0 ≤ d) {σ : MM} {n : Nat} (hn : n < 16777216) : V yX6_sizeOf cX6_sizeOf 3 (some .int) d (QI (fun v σ' => v = ((PC 24 n : Nat) : Int) ∧ σ' = σ)) 0 [some (vI (n : Int)), none, none] [] σ := by
  have loop : ∀ (k u : Nat) (c : Int), c + PC 24 u = PC 24 n → PC 24 u ≤ k → u < 16777216 → V yX6_sizeOf cX6_sizeOf 3 (some .int) d (QI (fun v σ' => v = ((PC 24 n : Nat) : Int) ∧ σ' = σ)) 4 [some (vI (n : Int)), some (vI c), some (vI (u : Int))] [] σ := by
    intro k
    induction k with
    | zero =>
      intro u c hk hp hu
      have h0 : u = 0 := by
        rcases Nat.eq_zero_or_pos u with z | z
        · exact z
        · have := PC_pos 24 u (by omega) hu; omega
      refine V_iload_2 (pc := 4) dX6_sizeOf_4 ?_
      refine V_if_eq (pc := 5) 20 dX6_sizeOf_5 (by decide) (by omega) (fun c_5 => ?_) (fun c_5 => ?_)
      · refine V_iload_1 (pc := 20) dX6_sizeOf_20 ?_
        refine V_iretI (pc := 21) dX6_sizeOf_21 rfl ?_
        exact ⟨_, rfl, by rw [h0, PC_0] at hk; omega, rfl⟩
      · exact absurd c_5 (by omega)
    | succ k ih =>
      intro u c hk hp hu
      have hpr := fun h : u ≠ 0 => and_pred 24 u h hu
      have hle := Nat.and_le_left (n := u) (m := u - 1)
      refine V_iload_2 (pc := 4) dX6_sizeOf_4 ?_
      refine V_if_eq (pc := 5) 20 dX6_sizeOf_5 (by decide) (by omega) (fun c_5 => ?_) (fun c_5 => ?_)
      · refine V_iload_1 (pc := 20) dX6_sizeOf_20 ?_
        refine V_iretI (pc := 21) dX6_sizeOf_21 rfl ?_
        exact ⟨_, rfl, by rw [show u = 0 by omega, PC_0] at hk; omega, rfl⟩
      · refine V_iinc_1 (pc := 8) dX6_sizeOf_8 ?_
        refine V_iload_2 (pc := 11) dX6_sizeOf_11 ?_
        refine V_iload_2 (pc := 12) dX6_sizeOf_12 ?_
        refine V_iconst (pc := 13) dX6_sizeOf_13 ?_
        refine V_isub (pc := 14) dX6_sizeOf_14 ?_
        refine V_iand (pc := 15) dX6_sizeOf_15 (v := ((u &&& (u - 1) : Nat) : Int)) (by rw [show (u : Int) - 1 = ((u - 1 : Nat) : Int) by omega]; exact bw_and u (u - 1)) ?_
        refine V_istore_2 (pc := 16) dX6_sizeOf_16 ?_
        refine V_goto (pc := 17) 4 dX6_sizeOf_17 (by decide) ?_
        exact ih _ _ (by have := hpr (by omega); omega) (by have := hpr (by omega); omega) (by omega)
  refine V_iconst (pc := 0) dX6_sizeOf_0 ?_
  refine V_istore_1 (pc := 1) dX6_sizeOf_1 ?_
  refine V_iload_0 (pc := 2) dX6_sizeOf_2 ?_
  refine V_istore_2 (pc := 3) dX6_sizeOf_3 ?_
  exact loop (PC 24 n) n 0 (by omega) (Nat.le_refl _) hn

set_option maxRecDepth 20000 in
set_option maxHeartbeats 1000000 in
theorem c_times {σ : MM} : ∀ (k : Nat) {d : Nat} {x : Int}, k ≤ d → IR x → x < k + 2 → V yX6_times cX6_times 1 (some .int) d (QI (fun v σ' => v = ((FCT x.toNat : Nat) : Int) ∧ σ' = σ)) 0 [some (vI x)] [] σ := by
  intro k
  induction k with
  | zero =>
    intro d x hd hi hx
    refine V_iload_0 (pc := 0) dX6_times_0 ?_
    refine V_iconst (pc := 1) dX6_times_1 ?_
    refine V_icmp_ge (pc := 2) 9 dX6_times_2 (by decide) (by omega) (by omega) (fun c_2 => ?_) (fun c_2 => ?_)
    · exact absurd c_2 (by omega)
    · refine V_iconst (pc := 5) dX6_times_5 ?_
      refine V_goto (pc := 6) 17 dX6_times_6 (by decide) ?_
      refine V_iretI (pc := 17) dX6_times_17 rfl ?_
      exact ⟨_, rfl, by rw [FCT_1 (by omega)]; rfl, rfl⟩
  | succ k ih =>
    intro d x hd hi hx
    have hF : 2 ≤ x → x * ((FCT (x - 1).toNat : Nat) : Int) = ((FCT x.toNat : Nat) : Int) := fun h => by
      rw [show x.toNat = (x - 1).toNat + 1 by omega, FCT, Int.natCast_mul, show (((x - 1).toNat + 1 : Nat) : Int) = x by omega]
    refine V_iload_0 (pc := 0) dX6_times_0 ?_
    refine V_iconst (pc := 1) dX6_times_1 ?_
    refine V_icmp_ge (pc := 2) 9 dX6_times_2 (by decide) (by omega) (by omega) (fun c_2 => ?_) (fun c_2 => ?_)
    · refine V_iload_0 (pc := 9) dX6_times_9 ?_
      refine V_iload_0 (pc := 10) dX6_times_10 ?_
      refine V_iconst (pc := 11) dX6_times_11 ?_
      refine V_isub (pc := 12) dX6_times_12 ?_
      refine V_callS1p (pc := 13) dX6_times_13 kv_X6_401 (d - 1) (by omega) rfl (ih (d := d - 1) (x := x - 1) (by omega) (by omega) (by omega)) ?_
      refine V_imul (pc := 16) dX6_times_16 ?_
      refine V_iretI (pc := 17) dX6_times_17 rfl ?_
      first | exact ⟨_, rfl, hF (by omega), rfl⟩ | exact ⟨_, rfl, by rw [FCT_1 (by omega)]; rfl, rfl⟩
    · refine V_iconst (pc := 5) dX6_times_5 ?_
      refine V_goto (pc := 6) 17 dX6_times_6 (by decide) ?_
      refine V_iretI (pc := 17) dX6_times_17 rfl ?_
      first | exact ⟨_, rfl, hF (by omega), rfl⟩ | exact ⟨_, rfl, by rw [FCT_1 (by omega)]; rfl, rfl⟩
theorem c_X6_times {d : Nat} (hd : 7 ≤ d) {σ : MM} {x : Int} (hi : IR x) (hx : x < 8) : V yX6_times cX6_times 1 (some .int) d (QI (fun v σ' => v = ((FCT x.toNat : Nat) : Int) ∧ σ' = σ)) 0 [some (vI x)] [] σ := c_times 6 (by omega) hi (by omega)
set_option maxRecDepth 20000 in
set_option maxHeartbeats 1000000 in
theorem common_0 {σ : MM} {d : Nat} {a b : Int} (ha : 0 ≤ a ∧ a ≤ 42000000000) (hb : b = 0) : V yX6_common cX6_common 4 (some .long) d (QJ (fun v σ' => v = GCD (a) (b) ∧ σ' = σ)) 0 [some (vL (a)), none, some (vL (b)), none] [] σ := by
  have k0 := cmpZ_in b 0
  refine V_lload_2 (pc := 0) dX6_common_0 ?_
  refine V_lconst (pc := 1) dX6_common_1 (z := 0) rfl ?_
  refine V_lcmp (pc := 2) dX6_common_2 (by omega) (by omega) ?_
  refine V_if_ne (pc := 3) 10 dX6_common_3 (by decide) (by omega) (fun c_3 => ?_) (fun c_3 => ?_)
  · exact absurd c_3 (by omega)
  · refine V_lload_0 (pc := 6) dX6_common_6 ?_
    refine V_goto (pc := 7) 17 dX6_common_7 (by decide) ?_
    refine V_lret (pc := 17) dX6_common_17 rfl ?_
    exact ⟨_, rfl, by rw [hb, GCD_0 a ha.1], rfl⟩
set_option maxRecDepth 20000 in
set_option maxHeartbeats 1000000 in
theorem common_1 {σ : MM} {d : Nat} {a b : Int} (ha : 0 ≤ a ∧ a ≤ 42000000000) (hb : 0 < b ∧ b ≤ 42000000000) (hd : 1 ≤ d) (h : V yX6_common cX6_common 4 (some .long) (d - 1) (QJ (fun v σ' => v = GCD (b) (a % b) ∧ σ' = σ)) 0 [some (vL (b)), none, some (vL (a % b)), none] [] σ) : V yX6_common cX6_common 4 (some .long) d (QJ (fun v σ' => v = GCD (a) (b) ∧ σ' = σ)) 0 [some (vL (a)), none, some (vL (b)), none] [] σ := by
  have k0 := cmpZ_in b 0
  refine V_lload_2 (pc := 0) dX6_common_0 ?_
  refine V_lconst (pc := 1) dX6_common_1 (z := 0) rfl ?_
  refine V_lcmp (pc := 2) dX6_common_2 (by omega) (by omega) ?_
  refine V_if_ne (pc := 3) 10 dX6_common_3 (by decide) (by omega) (fun c_3 => ?_) (fun c_3 => ?_)
  · refine V_lload_2 (pc := 10) dX6_common_10 ?_
    refine V_lload_0 (pc := 11) dX6_common_11 ?_
    refine V_lload_2 (pc := 12) dX6_common_12 ?_
    refine V_lrem_p (pc := 13) dX6_common_13 (by omega) (by omega) ?_
    refine V_callS2j (pc := 14) dX6_common_14 kv_X6_404 (d - 1) (by omega) rfl h (fun v_14 σ_14 h_14 => ?_)
    obtain ⟨rfl, rfl⟩ := h_14
    refine V_lret (pc := 17) dX6_common_17 rfl ?_
    exact ⟨_, rfl, GCD_S a b ha.1 hb.1, rfl⟩
  · exact absurd c_3 (by omega)
theorem c_common {σ : MM} : ∀ (k : Nat) {d : Nat} {a b : Int}, 2 * k ≤ d → 0 ≤ a ∧ a ≤ 42000000000 → 0 ≤ b ∧ b < p2 k ∧ b ≤ 42000000000 → V yX6_common cX6_common 4 (some .long) d (QJ (fun v σ' => v = GCD (a) (b) ∧ σ' = σ)) 0 [some (vL (a)), none, some (vL (b)), none] [] σ := by
  intro k
  induction k with
  | zero =>
    intro d a b hd ha hb
    exact common_0 ha (by have : p2 ((0 : Nat) : Int) = 1 := rfl; omega)
  | succ k ih =>
    intro d a b hd ha hb
    have hp := p2_succ (z := (k : Int)) (by omega)
    rw [show (k : Int) + 1 = ((k + 1 : Nat) : Int) by omega] at hp
    by_cases q : b = 0
    · exact common_0 ha q
    · have hr := Int.emod_nonneg a (show b ≠ 0 from q)
      have hr2 := Int.emod_lt_of_pos a (show 0 < b by omega)
      refine common_1 ha (by omega) (by omega) ?_
      by_cases q2 : a % b = 0
      · exact common_0 (by omega) q2
      · have hs := Int.emod_nonneg b q2
        have hs2 := Int.emod_lt_of_pos b (show 0 < a % b by omega)
        refine common_1 (by omega) (by omega) (by omega) (ih (by omega) (by omega) ⟨hs, ?_, by omega⟩)
        have hdm := Int.mul_ediv_add_emod b (a % b)
        have hq : 1 ≤ b / (a % b) := by
          rw [Int.le_ediv_iff_mul_le (by omega)]; omega
        have : a % b ≤ (a % b) * (b / (a % b)) := by
          have := Int.mul_le_mul_of_nonneg_left hq (show 0 ≤ a % b by omega)
          omega
        omega
theorem c_X6_common {d : Nat} (hd : 54 ≤ d) {σ : MM} {a b : Int} (ha : 0 ≤ a ∧ a ≤ 42000000000) (hb : 0 ≤ b ∧ b ≤ 100000000) : V yX6_common cX6_common 4 (some .long) d (QJ (fun v σ' => v = GCD (a) (b) ∧ σ' = σ)) 0 [some (vL (a)), none, some (vL (b)), none] [] σ := c_common 27 (by omega) ha ⟨hb.1, by have : p2 ((27 : Nat) : Int) = 134217728 := rfl; omega, by omega⟩
set_option maxRecDepth 20000 in
set_option maxHeartbeats 1000000 in
theorem c_X6_part {d : Nat} (hd : 55 ≤ d) {σ : MM} {a b w : Int} (ha : 0 ≤ a ∧ a ≤ 42000000000) (hb : 1 ≤ b ∧ b ≤ 100000000) (hw : IR w) : V yX6_part cX6_part 5 (some .long) d (QJ (fun v σ' => v = PRT a b w ∧ σ' = σ)) 0 [some (vL a), none, some (vL b), none, some (vI w)] [] σ := by
  have hg : 1 ≤ GCD a b ∧ GCD a b ≤ 100000000 := by
    unfold GCD
    have h1 := Nat.gcd_pos_of_pos_right a.toNat (show 0 < b.toNat by omega)
    have h2 := Nat.le_of_dvd (show 0 < b.toNat by omega) (Nat.gcd_dvd_right a.toNat b.toNat)
    omega
  refine V_iload_4 (pc := 0) dX6_part_0 ?_
  refine V_if_ne (pc := 2) 9 dX6_part_2 (by decide) (by omega) (fun c_2 => ?_) (fun c_2 => ?_)
  · refine V_lload_2 (pc := 9) dX6_part_9 ?_
    refine V_lload_0 (pc := 10) dX6_part_10 ?_
    refine V_lload_2 (pc := 11) dX6_part_11 ?_
    refine V_callS2j (pc := 12) dX6_part_12 kv_X6_404 (d - 1) (by omega) rfl (c_X6_common (by omega) (by omega) (by omega)) (fun v_12 σ_12 h_12 => ?_)
    obtain ⟨rfl, rfl⟩ := h_12
    refine V_ldiv_p (pc := 15) dX6_part_15 (by omega) (by omega) ?_
    refine V_lret (pc := 16) dX6_part_16 rfl ?_
    exact ⟨_, rfl, by unfold PRT; first | rw [if_pos (by omega)] | rw [if_neg (by omega)], rfl⟩
  · refine V_lload_0 (pc := 5) dX6_part_5 ?_
    refine V_goto (pc := 6) 10 dX6_part_6 (by decide) ?_
    refine V_lload_0 (pc := 10) dX6_part_10 ?_
    refine V_lload_2 (pc := 11) dX6_part_11 ?_
    refine V_callS2j (pc := 12) dX6_part_12 kv_X6_404 (d - 1) (by omega) rfl (c_X6_common (by omega) (by omega) (by omega)) (fun v_12 σ_12 h_12 => ?_)
    obtain ⟨rfl, rfl⟩ := h_12
    refine V_ldiv_p (pc := 15) dX6_part_15 (by omega) (by omega) ?_
    refine V_lret (pc := 16) dX6_part_16 rfl ?_
    exact ⟨_, rfl, by unfold PRT; first | rw [if_pos (by omega)] | rw [if_neg (by omega)], rfl⟩

set_option maxRecDepth 20000 in
set_option maxHeartbeats 1000000 in
theorem c_power {σ : MM} {a : Int} : ∀ (k : Nat) {d : Nat} {x : Int}, k ≤ d → 0 ≤ x ∧ x ≤ k → x ≤ 100 → V yX6_power cX6_power 3 (some .long) d (QJ (fun v σ' => v = PW a (x : Int).toNat ∧ σ' = σ)) 0 [some (vL a), none, some (vI (x))] [] σ := by
  intro k
  induction k with
  | zero =>
    intro d x hd hx hx1
    refine V_iload_2 (pc := 0) dX6_power_0 ?_
    refine V_if_ne (pc := 1) 8 dX6_power_1 (by decide) (by omega) (fun c_1 => ?_) (fun c_1 => ?_)
    · exact absurd c_1 (by omega)
    · refine V_lconst (pc := 4) dX6_power_4 (z := 1) rfl ?_
      refine V_goto (pc := 5) 17 dX6_power_5 (by decide) ?_
      refine V_lret (pc := 17) dX6_power_17 rfl ?_
      exact ⟨_, rfl, by rw [show x = 0 by omega]; rfl, rfl⟩
  | succ k ih =>
    intro d x hd hx hx1
    have hF : 1 ≤ x → a * PW a (x - 1).toNat = PW a x.toNat := fun h => by
      rw [show x.toNat = (x - 1).toNat + 1 by omega, PW]
    refine V_iload_2 (pc := 0) dX6_power_0 ?_
    refine V_if_ne (pc := 1) 8 dX6_power_1 (by decide) (by omega) (fun c_1 => ?_) (fun c_1 => ?_)
    · refine V_lload_0 (pc := 8) dX6_power_8 ?_
      refine V_lload_0 (pc := 9) dX6_power_9 ?_
      refine V_iload_2 (pc := 10) dX6_power_10 ?_
      refine V_iconst (pc := 11) dX6_power_11 ?_
      refine V_isub (pc := 12) dX6_power_12 ?_
      refine V_callS2j (pc := 13) dX6_power_13 kv_X6_421 (d - 1) (by omega) rfl (ih (d := d - 1) (x := x - 1) (by omega) (by omega) (by omega)) (fun v_13 σ_13 h_13 => ?_)
      obtain ⟨rfl, rfl⟩ := h_13
      refine V_lmul (pc := 16) dX6_power_16 ?_
      refine V_lret (pc := 17) dX6_power_17 rfl ?_
      first | exact ⟨_, rfl, hF (by omega), rfl⟩ | exact ⟨_, rfl, by rw [show x = 0 by omega]; rfl, rfl⟩
    · refine V_lconst (pc := 4) dX6_power_4 (z := 1) rfl ?_
      refine V_goto (pc := 5) 17 dX6_power_5 (by decide) ?_
      refine V_lret (pc := 17) dX6_power_17 rfl ?_
      first | exact ⟨_, rfl, hF (by omega), rfl⟩ | exact ⟨_, rfl, by rw [show x = 0 by omega]; rfl, rfl⟩
theorem c_X6_power {d : Nat} (hd : 8 ≤ d) {σ : MM} {a x : Int} (hx : 0 ≤ x ∧ x ≤ 8) : V yX6_power cX6_power 3 (some .long) d (QJ (fun v σ' => v = PW a (x : Int).toNat ∧ σ' = σ)) 0 [some (vL a), none, some (vI (x))] [] σ := c_power 8 (by omega) (by omega) (by omega)
set_option maxRecDepth 20000 in
set_option maxHeartbeats 1000000 in
theorem put_loop {d : Nat} (hd : 3 ≤ d) {σ σ0 : MM} {B : BK} (hM : MB σ 0 B) (hW : WB B) (hK : KM σ0 σ) (hR : ¬ B 0 0 = 0) : V yX6_put cX6_put 4 (some .int) d (QI (fun v σ' => v = q_put B ∧ KM σ0 σ')) 19 [some (vR 34 0), some (vI (bsN (fun e => bI (EBH B e)) 0)), some (vI ((0 : Nat) : Int)), none] [] σ := by
  have hs := hW.s
  have loop : ∀ i : Nat, i ≤ (B 6 0).toNat → V yX6_put cX6_put 4 (some .int) d (QI (fun v σ' => v = q_put B ∧ KM σ0 σ')) 19 [some (vR 34 0), some (vI (bsN (fun e => bI (EBH B e)) i)), some (vI (i : Int)), none] [] σ := by
    refine up_ind (P := fun i : Nat => V yX6_put cX6_put 4 (some .int) d (QI (fun v σ' => v = q_put B ∧ KM σ0 σ')) 19 [some (vR 34 0), some (vI (bsN (fun e => bI (EBH B e)) i)), some (vI (i : Int)), none] [] σ) ?_ ?_
    ·
      refine V_iload_2 (pc := 19) dX6_put_19 ?_
      refine V_aload_0 (pc := 20) dX6_put_20 ?_
      refine V_callV0p (pc := 21) dX6_put_21 kv_X6_236 rc_34 (by omega) (d - 1) (by omega) rfl (c_X6_entries (by omega) hM hW) ?_
      refine V_icmp_ge (pc := 24) 103 dX6_put_24 (by decide) (by omega) (by omega) (fun c_24 => ?_) (fun c_24 => ?_)
      · refine V_iload_1 (pc := 103) dX6_put_103 ?_
        refine V_iretI (pc := 104) dX6_put_104 rfl ?_
        exact ⟨_, rfl, by unfold q_put; rw [if_neg (by omega)], hK⟩
      · exact absurd c_24 (by omega)
    · intro i hi ih
      have hb := bsI_in (fun e => EBH B e) i
      have hi1 := hW.e (i := (i : Int)) (by omega)
      have hB0 : bI (fst (fun k => (i : Int) < k ∧ B 11 k = B 11 i ∧ B 13 k < B 13 i) (i + 1) 0 ≠ -1) = 0 := bI_f (fun z => z (fst_m1.mpr (fun k hk w => by have := w.1; omega)))
      have loop2 : ∀ j : Nat, j ≤ (B 6 0).toNat → i + 1 ≤ j → V yX6_put cX6_put 4 (some .int) d (QI (fun v σ' => v = q_put B ∧ KM σ0 σ')) 31 [some (vR 34 0), some (vI (bsN (fun e => bI (EBH B e)) i + bI (fst (fun k => (i : Int) < k ∧ B 11 k = B 11 i ∧ B 13 k < B 13 i) j 0 ≠ -1) * p2 i)), some (vI (i : Int)), some (vI (j : Int))] [] σ := by
        refine up_ind (P := fun j : Nat => i + 1 ≤ j → V yX6_put cX6_put 4 (some .int) d (QI (fun v σ' => v = q_put B ∧ KM σ0 σ')) 31 [some (vR 34 0), some (vI (bsN (fun e => bI (EBH B e)) i + bI (fst (fun k => (i : Int) < k ∧ B 11 k = B 11 i ∧ B 13 k < B 13 i) j 0 ≠ -1) * p2 i)), some (vI (i : Int)), some (vI (j : Int))] [] σ) ?_ ?_
        · intro hij
          refine V_iload_3 (pc := 31) dX6_put_31 ?_
          refine V_aload_0 (pc := 32) dX6_put_32 ?_
          refine V_callV0p (pc := 33) dX6_put_33 kv_X6_236 rc_34 (by omega) (d - 1) (by omega) rfl (c_X6_entries (by omega) hM hW) ?_
          refine V_icmp_ge (pc := 36) 97 dX6_put_36 (by decide) (by omega) (by omega) (fun c_36 => ?_) (fun c_36 => ?_)
          · refine V_iinc_2 (pc := 97) dX6_put_97 ?_
            refine V_goto (pc := 100) 19 dX6_put_100 (by decide) ?_
            refine V.sub (by simp only [subL, Option.some.injEq, Sum.inl.injEq, Sum.inr.injEq, reduceCtorEq, true_or, or_true, false_or, true_and, and_true]; refine ⟨?_, by omega⟩; rfl) ih
          · exact absurd c_36 (by omega)
        · intro j hj ih2 hij
          have hj1 := hW.e (i := (j : Int)) (by omega)
          have hNo : ¬ ((i : Int) < j ∧ B 11 j = B 11 i ∧ B 13 j < B 13 i) → bI (fst (fun k => (i : Int) < k ∧ B 11 k = B 11 i ∧ B 13 k < B 13 i) (j + 1) 0 ≠ -1) = bI (fst (fun k => (i : Int) < k ∧ B 11 k = B 11 i ∧ B 13 k < B 13 i) j 0 ≠ -1) := fun h => bI_cong (not_congr ⟨fun z => (fst_m1S.mp z).1, fun z => fst_m1S.mpr ⟨z, h⟩⟩)
          have hYe : (i : Int) < j ∧ B 11 j = B 11 i ∧ B 13 j < B 13 i → bI (fst (fun k => (i : Int) < k ∧ B 11 k = B 11 i ∧ B 13 k < B 13 i) (j + 1) 0 ≠ -1) = 1 := fun h => bI_t (fun z => (fst_m1S.mp z).2 h)
          have hor : iN (bsN (fun e => bI (EBH B e)) i + bI (fst (fun k => (i : Int) < k ∧ B 11 k = B 11 i ∧ B 13 k < B 13 i) j 0 ≠ -1) * p2 i) ||| iN (p2 i) = iN (bsN (fun e => bI (EBH B e)) i + p2 i) := by
            rcases bI_01 (fst (fun k => (i : Int) < k ∧ B 11 k = B 11 i ∧ B 13 k < B 13 i) j 0 ≠ -1) with z | z
            · rw [z, Int.zero_mul, Int.add_zero]; exact bw_or_add hb.1 hb.2
            · rw [z, Int.one_mul]; exact bw_again hb.1 hb.2
          refine V_iload_3 (pc := 31) dX6_put_31 ?_
          refine V_aload_0 (pc := 32) dX6_put_32 ?_
          refine V_callV0p (pc := 33) dX6_put_33 kv_X6_236 rc_34 (by omega) (d - 1) (by omega) rfl (c_X6_entries (by omega) hM hW) ?_
          refine V_icmp_ge (pc := 36) 97 dX6_put_36 (by decide) (by omega) (by omega) (fun c_36 => ?_) (fun c_36 => ?_)
          · exact absurd c_36 (by omega)
          · refine V_iload_1 (pc := 39) dX6_put_39 ?_
            refine V_aload_0 (pc := 40) dX6_put_40 ?_
            refine V_getc (pc := 41) dX6_put_41 gf_X6_43 (by omega) ?_
            refine V_iconst (pc := 44) dX6_put_44 ?_
            refine V_iload_3 (pc := 45) dX6_put_45 ?_
            refine V_imul (pc := 46) dX6_put_46 ?_
            refine V_iald (pc := 47) dX6_put_47 sh_44 (by omega) (by omega) (hM.t0 (by omega)) ?_
            refine V_aload_0 (pc := 48) dX6_put_48 ?_
            refine V_getc (pc := 49) dX6_put_49 gf_X6_43 (by omega) ?_
            refine V_iconst (pc := 52) dX6_put_52 ?_
            refine V_iload_2 (pc := 53) dX6_put_53 ?_
            refine V_imul (pc := 54) dX6_put_54 ?_
            refine V_iald (pc := 55) dX6_put_55 sh_44 (by omega) (by omega) (hM.t0 (by omega)) ?_
            refine V_icmp_ne (pc := 56) 88 dX6_put_56 (by decide) (by omega) (by omega) (fun c_56 => ?_) (fun c_56 => ?_)
            · refine V_iconst (pc := 88) dX6_put_88 ?_
              first
                | refine V_ior_0 (pc := 89) dX6_put_89 ?_
                | refine V_ior (pc := 89) dX6_put_89 (v := bsN (fun e => bI (EBH B e)) i + p2 i) hor ?_
              refine V_istore_1 (pc := 90) dX6_put_90 ?_
              refine V_iinc_3 (pc := 91) dX6_put_91 ?_
              refine V_goto (pc := 94) 31 dX6_put_94 (by decide) ?_
              refine V.sub (by simp only [subL, Option.some.injEq, Sum.inl.injEq, Sum.inr.injEq, reduceCtorEq, true_or, or_true, false_or, true_and, and_true]; first | (rw [hNo (by omega)]; refine ⟨rfl, by omega⟩) | (rw [hYe (by omega), Int.one_mul]; refine ⟨rfl, by omega⟩)) (ih2 (by omega))
            · refine V_aload_0 (pc := 59) dX6_put_59 ?_
              refine V_getc (pc := 60) dX6_put_60 gf_X6_43 (by omega) ?_
              refine V_iconst (pc := 63) dX6_put_63 ?_
              refine V_iload_3 (pc := 64) dX6_put_64 ?_
              refine V_imul (pc := 65) dX6_put_65 ?_
              refine V_iconst (pc := 66) dX6_put_66 ?_
              refine V_iadd (pc := 67) dX6_put_67 ?_
              refine V_iald (pc := 68) dX6_put_68 sh_44 (by omega) (by omega) (hM.t2 (by omega)) ?_
              refine V_aload_0 (pc := 69) dX6_put_69 ?_
              refine V_getc (pc := 70) dX6_put_70 gf_X6_43 (by omega) ?_
              refine V_iconst (pc := 73) dX6_put_73 ?_
              refine V_iload_2 (pc := 74) dX6_put_74 ?_
              refine V_imul (pc := 75) dX6_put_75 ?_
              refine V_iconst (pc := 76) dX6_put_76 ?_
              refine V_iadd (pc := 77) dX6_put_77 ?_
              refine V_iald (pc := 78) dX6_put_78 sh_44 (by omega) (by omega) (hM.t2 (by omega)) ?_
              refine V_icmp_ge (pc := 79) 88 dX6_put_79 (by decide) (by omega) (by omega) (fun c_79 => ?_) (fun c_79 => ?_)
              · refine V_iconst (pc := 88) dX6_put_88 ?_
                first
                  | refine V_ior_0 (pc := 89) dX6_put_89 ?_
                  | refine V_ior (pc := 89) dX6_put_89 (v := bsN (fun e => bI (EBH B e)) i + p2 i) hor ?_
                refine V_istore_1 (pc := 90) dX6_put_90 ?_
                refine V_iinc_3 (pc := 91) dX6_put_91 ?_
                refine V_goto (pc := 94) 31 dX6_put_94 (by decide) ?_
                refine V.sub (by simp only [subL, Option.some.injEq, Sum.inl.injEq, Sum.inr.injEq, reduceCtorEq, true_or, or_true, false_or, true_and, and_true]; first | (rw [hNo (by omega)]; refine ⟨rfl, by omega⟩) | (rw [hYe (by omega), Int.one_mul]; refine ⟨rfl, by omega⟩)) (ih2 (by omega))
              · refine V_iconst (pc := 82) dX6_put_82 ?_
                refine V_iload_2 (pc := 83) dX6_put_83 ?_
                refine V_ishl_1 (pc := 84) dX6_put_84 (by omega) ?_
                refine V_goto (pc := 85) 89 dX6_put_85 (by decide) ?_
                first
                  | refine V_ior_0 (pc := 89) dX6_put_89 ?_
                  | refine V_ior (pc := 89) dX6_put_89 (v := bsN (fun e => bI (EBH B e)) i + p2 i) hor ?_
                refine V_istore_1 (pc := 90) dX6_put_90 ?_
                refine V_iinc_3 (pc := 91) dX6_put_91 ?_
                refine V_goto (pc := 94) 31 dX6_put_94 (by decide) ?_
                refine V.sub (by simp only [subL, Option.some.injEq, Sum.inl.injEq, Sum.inr.injEq, reduceCtorEq, true_or, or_true, false_or, true_and, and_true]; first | (rw [hNo (by omega)]; refine ⟨rfl, by omega⟩) | (rw [hYe (by omega), Int.one_mul]; refine ⟨rfl, by omega⟩)) (ih2 (by omega))
      refine V_iload_2 (pc := 19) dX6_put_19 ?_
      refine V_aload_0 (pc := 20) dX6_put_20 ?_
      refine V_callV0p (pc := 21) dX6_put_21 kv_X6_236 rc_34 (by omega) (d - 1) (by omega) rfl (c_X6_entries (by omega) hM hW) ?_
      refine V_icmp_ge (pc := 24) 103 dX6_put_24 (by decide) (by omega) (by omega) (fun c_24 => ?_) (fun c_24 => ?_)
      · exact absurd c_24 (by omega)
      · refine V_iload_2 (pc := 27) dX6_put_27 ?_
        refine V_iconst (pc := 28) dX6_put_28 ?_
        refine V_iadd (pc := 29) dX6_put_29 ?_
        refine V_istore_3 (pc := 30) dX6_put_30 ?_
        refine V.sub (by simp only [subL, Option.some.injEq, Sum.inl.injEq, Sum.inr.injEq, reduceCtorEq, true_or, or_true, false_or, true_and, and_true]; refine ⟨?_, by omega⟩; rw [hB0, Int.zero_mul, Int.add_zero]) (loop2 (i + 1) (by omega) (Nat.le_refl _))
  exact loop 0 (by omega)

set_option maxRecDepth 20000 in
set_option maxHeartbeats 1000000 in
theorem c_X6_put {d : Nat} (hd : 3 ≤ d) {σ : MM} {B : BK} (hM : MB σ 0 B) (hG : GB B) : V yX6_put cX6_put 4 (some .int) d (QI (fun v σ' => v = q_put B ∧ KM σ σ')) 0 [some (vR 34 0), none, none, none] [] σ := by
  have hW := hG.w
  have hs := hW.s
  refine V_aload_0 (pc := 0) dX6_put_0 ?_
  refine V_iconst (pc := 1) dX6_put_1 ?_
  refine V_puti (pc := 2) dX6_put_2 gf_X6_74 (by omega) ?_
  have hM := (KM.set (σ := σ) (t := 34) (k := 0) (z := 0) (v := 0) (by unfold SCM; omega)).mb hM
  refine V_aload_0 (pc := 5) dX6_put_5 ?_
  refine V_callV0p (pc := 6) dX6_put_6 kv_X6_240 rc_34 (by omega) (d - 1) (by omega) rfl (c_X6_isBook (by omega) hM hW) ?_
  refine V_if_ne_b (pc := 9) 15 dX6_put_9 (by decide) (fun c_9 => ?_) (fun c_9 => ?_)
  · refine V_iconst (pc := 15) dX6_put_15 ?_
    refine V_istore_1 (pc := 16) dX6_put_16 ?_
    refine V_iconst (pc := 17) dX6_put_17 ?_
    refine V_istore_2 (pc := 18) dX6_put_18 ?_
    exact put_loop (by omega) hM hW (KM.set (σ := σ) (t := 34) (k := 0) (z := 0) (v := 0) (by unfold SCM; omega)) (by omega)
  · refine V_bipush (pc := 12) dX6_put_12 (by decide) ?_
    refine V_iretI (pc := 14) dX6_put_14 rfl ?_
    exact ⟨_, rfl, by unfold q_put; rw [if_pos (by omega)], (KM.set (σ := σ) (t := 34) (k := 0) (z := 0) (v := 0) (by unfold SCM; omega))⟩

theorem nx_step2 {i : Int} {j : Nat} {p : Int → Prop} (h : ∀ x : Int, i < x ∧ x < (j : Int) → ¬ p x) (hj : ¬ p j) (hc : ((j + 1 : Nat) : Int) = (j : Int) + 1) : ∀ x : Int, i < x ∧ x < ((j + 1 : Nat) : Int) → ¬ p x := fun x hx => by
  by_cases q : x = j
  · rw [q]; exact hj
  · exact h x ⟨hx.1, by omega⟩

set_option maxRecDepth 20000 in
set_option maxHeartbeats 1000000 in
theorem order_loop {d : Nat} (hd : 3 ≤ d) {σ σ0 : MM} {B : BK} {p : Int} (hM : MB σ 0 B) (hW : WB B) (hK : KM σ0 σ) (hR : ¬ (p < 0 ∨ B 5 0 ≤ p)) : V yX6_order cX6_order 4 (some .int) d (QI (fun v σ' => v = q_order B p ∧ KM σ0 σ')) 18 [some (vR 34 0), some (vI (p)), some (vI ((0 : Nat) : Int)), none] [] σ := by
  have hs := hW.s
  have loop : ∀ i : Nat, i ≤ (B 6 0).toNat → (∀ x : Int, 0 ≤ x ∧ x < (i : Int) → ¬ (B 11 x = p ∧ EBH B x)) → V yX6_order cX6_order 4 (some .int) d (QI (fun v σ' => v = q_order B p ∧ KM σ0 σ')) 18 [some (vR 34 0), some (vI (p)), some (vI (i : Int)), none] [] σ := by
    refine up_ind (P := fun i : Nat => (∀ x : Int, 0 ≤ x ∧ x < (i : Int) → ¬ (B 11 x = p ∧ EBH B x)) → V yX6_order cX6_order 4 (some .int) d (QI (fun v σ' => v = q_order B p ∧ KM σ0 σ')) 18 [some (vR 34 0), some (vI (p)), some (vI (i : Int)), none] [] σ) ?_ ?_
    · intro hI
      refine V_iload_2 (pc := 18) dX6_order_18 ?_
      refine V_aload_0 (pc := 19) dX6_order_19 ?_
      refine V_callV0p (pc := 20) dX6_order_20 kv_X6_236 rc_34 (by omega) (d - 1) (by omega) rfl (c_X6_entries (by omega) hM hW) ?_
      refine V_icmp_ge (pc := 23) 99 dX6_order_23 (by decide) (by omega) (by omega) (fun c_23 => ?_) (fun c_23 => ?_)
      · refine V_iconst (pc := 99) dX6_order_99 ?_
        refine V_iretI (pc := 100) dX6_order_100 rfl ?_
        exact ⟨_, rfl, by unfold q_order; rw [if_neg hR, if_pos (fst_no _ _ (fun x hx => hI x (by omega)))], hK⟩
      · exact absurd c_23 (by omega)
    · intro i hi ih hI
      have hi1 := hW.e (i := (i : Int)) (by omega)
      have loop2 : ∀ j : Nat, j ≤ (B 6 0).toNat → i + 1 ≤ j → (∀ x : Int, (i : Int) < x ∧ x < (j : Int) → ¬ (B 11 i = p ∧ B 11 x = p ∧ B 13 x < B 13 i)) → V yX6_order cX6_order 4 (some .int) d (QI (fun v σ' => v = q_order B p ∧ KM σ0 σ')) 30 [some (vR 34 0), some (vI (p)), some (vI (i : Int)), some (vI (j : Int))] [] σ := by
        refine up_ind (P := fun j : Nat => i + 1 ≤ j → (∀ x : Int, (i : Int) < x ∧ x < (j : Int) → ¬ (B 11 i = p ∧ B 11 x = p ∧ B 13 x < B 13 i)) → V yX6_order cX6_order 4 (some .int) d (QI (fun v σ' => v = q_order B p ∧ KM σ0 σ')) 30 [some (vR 34 0), some (vI (p)), some (vI (i : Int)), some (vI (j : Int))] [] σ) ?_ ?_
        · intro hij hJ
          have hEB : (∀ x : Int, (i : Int) < x ∧ x < (((B 6 0).toNat : Nat) : Int) → ¬ (B 11 i = p ∧ B 11 x = p ∧ B 13 x < B 13 i)) → ¬ (B 11 i = p ∧ EBH B i) := fun h q => q.2 (fst_m1.mpr (fun k hk w => h k ⟨w.1, hk.2⟩ ⟨q.1, by rw [w.2.1]; exact q.1, w.2.2⟩))
          refine V_iload_3 (pc := 30) dX6_order_30 ?_
          refine V_aload_0 (pc := 31) dX6_order_31 ?_
          refine V_callV0p (pc := 32) dX6_order_32 kv_X6_236 rc_34 (by omega) (d - 1) (by omega) rfl (c_X6_entries (by omega) hM hW) ?_
          refine V_icmp_ge (pc := 35) 93 dX6_order_35 (by decide) (by omega) (by omega) (fun c_35 => ?_) (fun c_35 => ?_)
          · refine V_iinc_2 (pc := 93) dX6_order_93 ?_
            refine V_goto (pc := 96) 18 dX6_order_96 (by decide) ?_
            refine V.sub (by simp only [subL, Option.some.injEq, Sum.inl.injEq, Sum.inr.injEq, reduceCtorEq, true_or, or_true, false_or, true_and, and_true]; omega) (ih (nx_step hI (fun q => hEB hJ q) (by omega)))
          · exact absurd c_35 (by omega)
        · intro j hj ih2 hij hJ
          have hj1 := hW.e (i := (j : Int)) (by omega)
          refine V_iload_3 (pc := 30) dX6_order_30 ?_
          refine V_aload_0 (pc := 31) dX6_order_31 ?_
          refine V_callV0p (pc := 32) dX6_order_32 kv_X6_236 rc_34 (by omega) (d - 1) (by omega) rfl (c_X6_entries (by omega) hM hW) ?_
          refine V_icmp_ge (pc := 35) 93 dX6_order_35 (by decide) (by omega) (by omega) (fun c_35 => ?_) (fun c_35 => ?_)
          · exact absurd c_35 (by omega)
          · refine V_aload_0 (pc := 38) dX6_order_38 ?_
            refine V_getc (pc := 39) dX6_order_39 gf_X6_43 (by omega) ?_
            refine V_iconst (pc := 42) dX6_order_42 ?_
            refine V_iload_2 (pc := 43) dX6_order_43 ?_
            refine V_imul (pc := 44) dX6_order_44 ?_
            refine V_iald (pc := 45) dX6_order_45 sh_44 (by omega) (by omega) (hM.t0 (by omega)) ?_
            refine V_iload_1 (pc := 46) dX6_order_46 ?_
            refine V_icmp_ne (pc := 47) 87 dX6_order_47 (by decide) (by omega) (by omega) (fun c_47 => ?_) (fun c_47 => ?_)
            · refine V_iinc_3 (pc := 87) dX6_order_87 ?_
              refine V_goto (pc := 90) 30 dX6_order_90 (by decide) ?_
              refine V.sub (by simp only [subL, Option.some.injEq, Sum.inl.injEq, Sum.inr.injEq, reduceCtorEq, true_or, or_true, false_or, true_and, and_true]; omega) (ih2 (by omega) (nx_step2 hJ (by omega) (by omega)))
            · refine V_aload_0 (pc := 50) dX6_order_50 ?_
              refine V_getc (pc := 51) dX6_order_51 gf_X6_43 (by omega) ?_
              refine V_iconst (pc := 54) dX6_order_54 ?_
              refine V_iload_3 (pc := 55) dX6_order_55 ?_
              refine V_imul (pc := 56) dX6_order_56 ?_
              refine V_iald (pc := 57) dX6_order_57 sh_44 (by omega) (by omega) (hM.t0 (by omega)) ?_
              refine V_iload_1 (pc := 58) dX6_order_58 ?_
              refine V_icmp_ne (pc := 59) 87 dX6_order_59 (by decide) (by omega) (by omega) (fun c_59 => ?_) (fun c_59 => ?_)
              · refine V_iinc_3 (pc := 87) dX6_order_87 ?_
                refine V_goto (pc := 90) 30 dX6_order_90 (by decide) ?_
                refine V.sub (by simp only [subL, Option.some.injEq, Sum.inl.injEq, Sum.inr.injEq, reduceCtorEq, true_or, or_true, false_or, true_and, and_true]; omega) (ih2 (by omega) (nx_step2 hJ (by omega) (by omega)))
              · refine V_aload_0 (pc := 62) dX6_order_62 ?_
                refine V_getc (pc := 63) dX6_order_63 gf_X6_43 (by omega) ?_
                refine V_iconst (pc := 66) dX6_order_66 ?_
                refine V_iload_3 (pc := 67) dX6_order_67 ?_
                refine V_imul (pc := 68) dX6_order_68 ?_
                refine V_iconst (pc := 69) dX6_order_69 ?_
                refine V_iadd (pc := 70) dX6_order_70 ?_
                refine V_iald (pc := 71) dX6_order_71 sh_44 (by omega) (by omega) (hM.t2 (by omega)) ?_
                refine V_aload_0 (pc := 72) dX6_order_72 ?_
                refine V_getc (pc := 73) dX6_order_73 gf_X6_43 (by omega) ?_
                refine V_iconst (pc := 76) dX6_order_76 ?_
                refine V_iload_2 (pc := 77) dX6_order_77 ?_
                refine V_imul (pc := 78) dX6_order_78 ?_
                refine V_iconst (pc := 79) dX6_order_79 ?_
                refine V_iadd (pc := 80) dX6_order_80 ?_
                refine V_iald (pc := 81) dX6_order_81 sh_44 (by omega) (by omega) (hM.t2 (by omega)) ?_
                refine V_icmp_ge (pc := 82) 87 dX6_order_82 (by decide) (by omega) (by omega) (fun c_82 => ?_) (fun c_82 => ?_)
                · refine V_iinc_3 (pc := 87) dX6_order_87 ?_
                  refine V_goto (pc := 90) 30 dX6_order_90 (by decide) ?_
                  refine V.sub (by simp only [subL, Option.some.injEq, Sum.inl.injEq, Sum.inr.injEq, reduceCtorEq, true_or, or_true, false_or, true_and, and_true]; omega) (ih2 (by omega) (nx_step2 hJ (by omega) (by omega)))
                · refine V_iconst (pc := 85) dX6_order_85 ?_
                  refine V_iretI (pc := 86) dX6_order_86 rfl ?_
                  exact ⟨_, rfl, by unfold q_order; rw [if_neg hR, fst_is (p := fun e => B 11 e = p ∧ EBH B e) (x := (i : Int)) ⟨by omega, fun z => fst_m1.mp z (j : Int) (by omega) ⟨by omega, by omega, by omega⟩⟩ _ _ (by omega) (fun x hx => hI x (by omega)), if_neg (by omega)], hK⟩
      refine V_iload_2 (pc := 18) dX6_order_18 ?_
      refine V_aload_0 (pc := 19) dX6_order_19 ?_
      refine V_callV0p (pc := 20) dX6_order_20 kv_X6_236 rc_34 (by omega) (d - 1) (by omega) rfl (c_X6_entries (by omega) hM hW) ?_
      refine V_icmp_ge (pc := 23) 99 dX6_order_23 (by decide) (by omega) (by omega) (fun c_23 => ?_) (fun c_23 => ?_)
      · exact absurd c_23 (by omega)
      · refine V_iload_2 (pc := 26) dX6_order_26 ?_
        refine V_iconst (pc := 27) dX6_order_27 ?_
        refine V_iadd (pc := 28) dX6_order_28 ?_
        refine V_istore_3 (pc := 29) dX6_order_29 ?_
        refine V.sub (by simp only [subL, Option.some.injEq, Sum.inl.injEq, Sum.inr.injEq, reduceCtorEq, true_or, or_true, false_or, true_and, and_true]; omega) (loop2 (i + 1) (by omega) (Nat.le_refl _) (fun x hx => by omega))
  exact loop 0 (by omega) (fun x hx => by omega)

set_option maxRecDepth 20000 in
set_option maxHeartbeats 1000000 in
theorem c_X6_order {d : Nat} (hd : 3 ≤ d) {σ : MM} {B : BK} {p : Int} (hM : MB σ 0 B) (hG : GB B) (hp : IR p) : V yX6_order cX6_order 4 (some .int) d (QI (fun v σ' => v = q_order B p ∧ KM σ σ')) 0 [some (vR 34 0), some (vI p), none, none] [] σ := by
  have hW := hG.w
  have hs := hW.s
  refine V_aload_0 (pc := 0) dX6_order_0 ?_
  refine V_iconst (pc := 1) dX6_order_1 ?_
  refine V_puti (pc := 2) dX6_order_2 gf_X6_74 (by omega) ?_
  have hM := (KM.set (σ := σ) (t := 34) (k := 0) (z := 0) (v := 0) (by unfold SCM; omega)).mb hM
  refine V_aload_0 (pc := 5) dX6_order_5 ?_
  refine V_iload_1 (pc := 6) dX6_order_6 ?_
  refine V_callV1p (pc := 7) dX6_order_7 kv_X6_326 rc_34 (by omega) (d - 1) (by omega) rfl (c_X6_isPage (by omega) hM hW (by omega)) ?_
  refine V_if_ne_b (pc := 10) 16 dX6_order_10 (by decide) (fun c_10 => ?_) (fun c_10 => ?_)
  · refine V_iconst (pc := 16) dX6_order_16 ?_
    refine V_istore_2 (pc := 17) dX6_order_17 ?_
    exact order_loop (by omega) hM hW (KM.set (σ := σ) (t := 34) (k := 0) (z := 0) (v := 0) (by unfold SCM; omega)) (by omega)
  · refine V_bipush (pc := 13) dX6_order_13 (by decide) ?_
    refine V_iretI (pc := 15) dX6_order_15 rfl ?_
    exact ⟨_, rfl, by unfold q_order; rw [if_pos (by omega)], (KM.set (σ := σ) (t := 34) (k := 0) (z := 0) (v := 0) (by unfold SCM; omega))⟩

set_option maxRecDepth 20000 in
set_option maxHeartbeats 1000000 in
theorem alike_loop {d : Nat} (hd : 3 ≤ d) {σ σ0 : MM} {B : BK} {y : Int} (hM : MB σ 0 B) (hW : WB B) (hL : LD σ B B 0) (hS : SHM σ B B 0) (hK : KM σ0 σ) (hR : ¬ (B 0 0 = 0 ∨ y < 0 ∨ B 1 0 < y)) : V yX6_alike cX6_alike 5 (some .int) d (QI (fun v σ' => v = q_alike B y ∧ KM σ0 σ')) 25 [some (vR 34 0), some (vI (y)), some (vI (sumN (fun a => sumN (fun k => ALK B y a (a + 1 + k)) (B 6 0 - 1 - a).toNat) 0)), some (vI ((0 : Nat) : Int)), none] [] σ := by
  have hs := hW.s
  have loop : ∀ i : Nat, i ≤ (B 6 0).toNat → V yX6_alike cX6_alike 5 (some .int) d (QI (fun v σ' => v = q_alike B y ∧ KM σ0 σ')) 25 [some (vR 34 0), some (vI (y)), some (vI (sumN (fun a => sumN (fun k => ALK B y a (a + 1 + k)) (B 6 0 - 1 - a).toNat) i)), some (vI (i : Int)), none] [] σ := by
    refine up_ind (P := fun i : Nat => V yX6_alike cX6_alike 5 (some .int) d (QI (fun v σ' => v = q_alike B y ∧ KM σ0 σ')) 25 [some (vR 34 0), some (vI (y)), some (vI (sumN (fun a => sumN (fun k => ALK B y a (a + 1 + k)) (B 6 0 - 1 - a).toNat) i)), some (vI (i : Int)), none] [] σ) ?_ ?_
    ·
      refine V_iload_3 (pc := 25) dX6_alike_25 ?_
      refine V_aload_0 (pc := 26) dX6_alike_26 ?_
      refine V_callV0p (pc := 27) dX6_alike_27 kv_X6_236 rc_34 (by omega) (d - 1) (by omega) rfl (c_X6_entries (by omega) hM hW) ?_
      refine V_icmp_ge (pc := 30) 102 dX6_alike_30 (by decide) (by omega) (by omega) (fun c_30 => ?_) (fun c_30 => ?_)
      · refine V_iload_2 (pc := 102) dX6_alike_102 ?_
        refine V_iretI (pc := 103) dX6_alike_103 rfl ?_
        exact ⟨_, rfl, by unfold q_alike; rw [if_neg hR], hK⟩
      · exact absurd c_30 (by omega)
    · intro i hi ih
      have h1 := SHD_in (r := 0) (y := y) hW (e := (i : Int)) (by omega)
      have loop2 : ∀ j : Nat, j ≤ (B 6 0 - 1 - i).toNat → V yX6_alike cX6_alike 5 (some .int) d (QI (fun v σ' => v = q_alike B y ∧ KM σ0 σ')) 38 [some (vR 34 0), some (vI (y)), some (vI (sumN (fun a => sumN (fun k => ALK B y a (a + 1 + k)) (B 6 0 - 1 - a).toNat) i + sumN (fun k => ALK B y i ((i : Int) + 1 + k)) j)), some (vI (i : Int)), some (vI ((i : Int) + 1 + (j : Int)))] [] σ := by
        refine up_ind (P := fun j : Nat => V yX6_alike cX6_alike 5 (some .int) d (QI (fun v σ' => v = q_alike B y ∧ KM σ0 σ')) 38 [some (vR 34 0), some (vI (y)), some (vI (sumN (fun a => sumN (fun k => ALK B y a (a + 1 + k)) (B 6 0 - 1 - a).toNat) i + sumN (fun k => ALK B y i ((i : Int) + 1 + k)) j)), some (vI (i : Int)), some (vI ((i : Int) + 1 + (j : Int)))] [] σ) ?_ ?_
        ·
          refine V_iload_4 (pc := 38) dX6_alike_38 ?_
          refine V_aload_0 (pc := 40) dX6_alike_40 ?_
          refine V_callV0p (pc := 41) dX6_alike_41 kv_X6_236 rc_34 (by omega) (d - 1) (by omega) rfl (c_X6_entries (by omega) hM hW) ?_
          refine V_icmp_ge (pc := 44) 96 dX6_alike_44 (by decide) (by omega) (by omega) (fun c_44 => ?_) (fun c_44 => ?_)
          · refine V_iinc_3 (pc := 96) dX6_alike_96 ?_
            refine V_goto (pc := 99) 25 dX6_alike_99 (by decide) ?_
            refine V.sub (by simp only [subL, Option.some.injEq, Sum.inl.injEq, Sum.inr.injEq, reduceCtorEq, true_or, or_true, false_or, true_and, and_true]; refine ⟨?_, by omega⟩; rfl) ih
          · exact absurd c_44 (by omega)
        · intro j hj ih2
          have h2 := SHD_in (r := 0) (y := y) hW (e := (i : Int) + 1 + (j : Int)) (by omega)
          have hS_ : sumN (fun k => ALK B y i ((i : Int) + 1 + k)) (j + 1) = sumN (fun k => ALK B y i ((i : Int) + 1 + k)) j + ALK B y i ((i : Int) + 1 + j) := rfl
          have hA : ALK B y i ((i : Int) + 1 + j) = bI ((B 13 i ≤ y ∧ B 13 ((i : Int) + 1 + j) ≤ y) ∧ SHD B (bt 0) y i = SHD B (bt 0) y ((i : Int) + 1 + j)) := rfl
          refine V_iload_4 (pc := 38) dX6_alike_38 ?_
          refine V_aload_0 (pc := 40) dX6_alike_40 ?_
          refine V_callV0p (pc := 41) dX6_alike_41 kv_X6_236 rc_34 (by omega) (d - 1) (by omega) rfl (c_X6_entries (by omega) hM hW) ?_
          refine V_icmp_ge (pc := 44) 96 dX6_alike_44 (by decide) (by omega) (by omega) (fun c_44 => ?_) (fun c_44 => ?_)
          · exact absurd c_44 (by omega)
          · refine V_iload_2 (pc := 47) dX6_alike_47 ?_
            refine V_aload_0 (pc := 48) dX6_alike_48 ?_
            refine V_iload_3 (pc := 49) dX6_alike_49 ?_
            refine V_iload_1 (pc := 50) dX6_alike_50 ?_
            refine V_callV2p (pc := 51) dX6_alike_51 kv_X6_293 rc_34 (by omega) (d - 1) (by omega) rfl (c_X6_isThere (by omega) hM hW hL (by omega) (by omega)) ?_
            refine V_if_eq_b (pc := 54) 87 dX6_alike_54 (by decide) (fun c_54 => ?_) (fun c_54 => ?_)
            · refine V_iconst (pc := 87) dX6_alike_87 ?_
              refine V_iadd (pc := 88) dX6_alike_88 ?_
              refine V_istore_2 (pc := 89) dX6_alike_89 ?_
              refine V_iinc_4 (pc := 90) dX6_alike_90 ?_
              refine V_goto (pc := 93) 38 dX6_alike_93 (by decide) ?_
              refine V.sub (by simp only [subL, Option.some.injEq, Sum.inl.injEq, Sum.inr.injEq, reduceCtorEq, true_or, or_true, false_or, true_and, and_true]; first | (rw [hS_, hA, bI_t (by omega)]; omega) | (rw [hS_, hA, bI_f (by omega)]; omega)) ih2
            · refine V_aload_0 (pc := 57) dX6_alike_57 ?_
              refine V_iload_4 (pc := 58) dX6_alike_58 ?_
              refine V_iload_1 (pc := 60) dX6_alike_60 ?_
              refine V_callV2p (pc := 61) dX6_alike_61 kv_X6_293 rc_34 (by omega) (d - 1) (by omega) rfl (c_X6_isThere (by omega) hM hW hL (by omega) (by omega)) ?_
              refine V_if_eq_b (pc := 64) 87 dX6_alike_64 (by decide) (fun c_64 => ?_) (fun c_64 => ?_)
              · refine V_iconst (pc := 87) dX6_alike_87 ?_
                refine V_iadd (pc := 88) dX6_alike_88 ?_
                refine V_istore_2 (pc := 89) dX6_alike_89 ?_
                refine V_iinc_4 (pc := 90) dX6_alike_90 ?_
                refine V_goto (pc := 93) 38 dX6_alike_93 (by decide) ?_
                refine V.sub (by simp only [subL, Option.some.injEq, Sum.inl.injEq, Sum.inr.injEq, reduceCtorEq, true_or, or_true, false_or, true_and, and_true]; first | (rw [hS_, hA, bI_t (by omega)]; omega) | (rw [hS_, hA, bI_f (by omega)]; omega)) ih2
              · refine V_aload_0 (pc := 67) dX6_alike_67 ?_
                refine V_iload_3 (pc := 68) dX6_alike_68 ?_
                refine V_iload_1 (pc := 69) dX6_alike_69 ?_
                refine V_callV2p (pc := 70) dX6_alike_70 kv_X6_283 rc_34 (by omega) (d - 1) (by omega) rfl (c_X6_shadeOf (by omega) (by omega) (by omega) (hS.s (by omega) (by omega))) ?_
                refine V_aload_0 (pc := 73) dX6_alike_73 ?_
                refine V_iload_4 (pc := 74) dX6_alike_74 ?_
                refine V_iload_1 (pc := 76) dX6_alike_76 ?_
                refine V_callV2p (pc := 77) dX6_alike_77 kv_X6_283 rc_34 (by omega) (d - 1) (by omega) rfl (c_X6_shadeOf (by omega) (by omega) (by omega) (hS.s (by omega) (by omega))) ?_
                refine V_icmp_ne (pc := 80) 87 dX6_alike_80 (by decide) (by omega) (by omega) (fun c_80 => ?_) (fun c_80 => ?_)
                · refine V_iconst (pc := 87) dX6_alike_87 ?_
                  refine V_iadd (pc := 88) dX6_alike_88 ?_
                  refine V_istore_2 (pc := 89) dX6_alike_89 ?_
                  refine V_iinc_4 (pc := 90) dX6_alike_90 ?_
                  refine V_goto (pc := 93) 38 dX6_alike_93 (by decide) ?_
                  refine V.sub (by simp only [subL, Option.some.injEq, Sum.inl.injEq, Sum.inr.injEq, reduceCtorEq, true_or, or_true, false_or, true_and, and_true]; first | (rw [hS_, hA, bI_t (by omega)]; omega) | (rw [hS_, hA, bI_f (by omega)]; omega)) ih2
                · refine V_iconst (pc := 83) dX6_alike_83 ?_
                  refine V_goto (pc := 84) 88 dX6_alike_84 (by decide) ?_
                  refine V_iadd (pc := 88) dX6_alike_88 ?_
                  refine V_istore_2 (pc := 89) dX6_alike_89 ?_
                  refine V_iinc_4 (pc := 90) dX6_alike_90 ?_
                  refine V_goto (pc := 93) 38 dX6_alike_93 (by decide) ?_
                  refine V.sub (by simp only [subL, Option.some.injEq, Sum.inl.injEq, Sum.inr.injEq, reduceCtorEq, true_or, or_true, false_or, true_and, and_true]; first | (rw [hS_, hA, bI_t (by omega)]; omega) | (rw [hS_, hA, bI_f (by omega)]; omega)) ih2
      refine V_iload_3 (pc := 25) dX6_alike_25 ?_
      refine V_aload_0 (pc := 26) dX6_alike_26 ?_
      refine V_callV0p (pc := 27) dX6_alike_27 kv_X6_236 rc_34 (by omega) (d - 1) (by omega) rfl (c_X6_entries (by omega) hM hW) ?_
      refine V_icmp_ge (pc := 30) 102 dX6_alike_30 (by decide) (by omega) (by omega) (fun c_30 => ?_) (fun c_30 => ?_)
      · exact absurd c_30 (by omega)
      · refine V_iload_3 (pc := 33) dX6_alike_33 ?_
        refine V_iconst (pc := 34) dX6_alike_34 ?_
        refine V_iadd (pc := 35) dX6_alike_35 ?_
        refine V_istore_4 (pc := 36) dX6_alike_36 ?_
        refine V.sub (by simp only [subL, Option.some.injEq, Sum.inl.injEq, Sum.inr.injEq, reduceCtorEq, true_or, or_true, false_or, true_and, and_true]; exact ⟨Int.add_zero _, by omega⟩) (loop2 0 (by omega))
  exact loop 0 (by omega)

set_option maxRecDepth 20000 in
set_option maxHeartbeats 1000000 in
theorem c_X6_alike {d : Nat} (hd : 5 ≤ d) {σ : MM} {B : BK} {y : Int} (hM : MB σ 0 B) (hG : GB B) (hy : IR y) : V yX6_alike cX6_alike 5 (some .int) d (QI (fun v σ' => v = q_alike B y ∧ KM σ σ')) 0 [some (vR 34 0), some (vI y), none, none, none] [] σ := by
  have hW := hG.w
  have hs := hW.s
  refine V_aload_0 (pc := 0) dX6_alike_0 ?_
  refine V_iconst (pc := 1) dX6_alike_1 ?_
  refine V_puti (pc := 2) dX6_alike_2 gf_X6_74 (by omega) ?_
  have hM := (KM.set (σ := σ) (t := 34) (k := 0) (z := 0) (v := 0) (by unfold SCM; omega)).mb hM
  refine V_aload_0 (pc := 5) dX6_alike_5 ?_
  refine V_iload_1 (pc := 6) dX6_alike_6 ?_
  refine V_i2l (pc := 7) dX6_alike_7 (by omega) ?_
  refine V_callV1p (pc := 8) dX6_alike_8 kv_X6_249 rc_34 (by omega) (d - 1) (by omega) rfl (c_X6_isYear (by omega) hM hW (by omega)) ?_
  refine V_if_ne_b (pc := 11) 17 dX6_alike_11 (by decide) (fun c_11 => ?_) (fun c_11 => ?_)
  · refine V_aload_0 (pc := 17) dX6_alike_17 ?_
    refine V_callV0z (pc := 18) dX6_alike_18 kv_X6_337 rc_34 (by omega) (d - 1) (by omega) rfl (c_X6_laysNow (by omega) hM hW) (fun σ_18 h_18 => ?_)
    obtain ⟨hL, hS, hK⟩ := h_18
    have hM := hK.mb hM
    refine V_iconst (pc := 21) dX6_alike_21 ?_
    refine V_istore_2 (pc := 22) dX6_alike_22 ?_
    refine V_iconst (pc := 23) dX6_alike_23 ?_
    refine V_istore_3 (pc := 24) dX6_alike_24 ?_
    exact alike_loop (by omega) hM hW hL hS ((KM.set (σ := σ) (t := 34) (k := 0) (z := 0) (v := 0) (by unfold SCM; omega)).tr hK) (by omega)
  · refine V_bipush (pc := 14) dX6_alike_14 (by decide) ?_
    refine V_iretI (pc := 16) dX6_alike_16 rfl ?_
    exact ⟨_, rfl, by unfold q_alike; rw [if_pos (by omega)], (KM.set (σ := σ) (t := 34) (k := 0) (z := 0) (v := 0) (by unfold SCM; omega))⟩

set_option maxRecDepth 20000 in
set_option maxHeartbeats 1000000 in
theorem c_X6_share {d : Nat} (hd : 56 ≤ d) {σ : MM} {B : BK} {e w : Int} (hM : MB σ 0 B) (hG : GB B) (he : IR e) (hw : IR w) : V yX6_share cX6_share 6 (some .int) d (QI (fun v σ' => v = q_share B e w ∧ KM σ σ')) 0 [some (vR 34 0), some (vI e), some (vI w), none, none, none] [] σ := by
  have hW := hG.w
  have hs := hW.s
  have hF := FCT_le (B 6 0).toNat (by omega)
  have hp0 : p2 (B 6 0) = p2 (((B 6 0).toNat : Nat) : Int) := by rw [show (((B 6 0).toNat : Nat) : Int) = B 6 0 by omega]
  have hp1 := p2_le (a := B 6 0) (b := 7) (by omega)
  have hp2 : p2 7 = 128 := rfl
  obtain ⟨N2, hN2⟩ : ∃ m : Nat, m = 2 ^ (B 6 0).toNat := ⟨_, rfl⟩
  have hp3 : p2 (((B 6 0).toNat : Nat) : Int) = N2 := by rw [hN2]; exact p2_nat _
  have hSH : ¬ ((e < 0 ∨ B 6 0 ≤ e) ∨ (¬ w = 0 ∧ ¬ w = 1)) → _ := fun q => SHR_ok hW (e := e) (w := w) (by omega) (by omega)
  rw [← hN2] at hSH
  have loop : (¬ ((e < 0 ∨ B 6 0 ≤ e) ∨ (¬ w = 0 ∧ ¬ w = 1))) → ∀ i : Nat, i ≤ N2 → ∀ σi : MM, (QS σ B σi) → V yX6_share cX6_share 6 (some .int) d (QI (fun v σ' => v = q_share B e w ∧ KM σ σ')) 33 [some (vR 34 0), some (vI e), some (vI w), some (vI (sumN (SHT B e) i)), some (vI (i : Int)), none] [] σi := by
    intro hR
    refine up_ind (P := fun i : Nat => ∀ σi : MM, (QS σ B σi) → V yX6_share cX6_share 6 (some .int) d (QI (fun v σ' => v = q_share B e w ∧ KM σ σ')) 33 [some (vR 34 0), some (vI e), some (vI w), some (vI (sumN (SHT B e) i)), some (vI (i : Int)), none] [] σi) ?_ ?_
    · intro σi hI
      have hI0 := hI
      obtain ⟨hM, hL, hS, hK⟩ := hI
      have hSR := hSH hR
      refine V_iload_4 (pc := 33) dX6_share_33 ?_
      refine V_iconst (pc := 35) dX6_share_35 ?_
      refine V_aload_0 (pc := 36) dX6_share_36 ?_
      refine V_callV0p (pc := 37) dX6_share_37 kv_X6_236 rc_34 (by omega) (d - 1) (by omega) rfl (c_X6_entries (by omega) hM hW) ?_
      refine V_ishl_1 (pc := 40) dX6_share_40 (by omega) ?_
      refine V_icmp_ge (pc := 41) 116 dX6_share_41 (by decide) (by omega) (by omega) (fun c_41 => ?_) (fun c_41 => ?_)
      · refine V_iload_3 (pc := 116) dX6_share_116 ?_
        refine V_i2l (pc := 117) dX6_share_117 (by omega) ?_
        refine V_aload_0 (pc := 118) dX6_share_118 ?_
        refine V_callV0p (pc := 119) dX6_share_119 kv_X6_236 rc_34 (by omega) (d - 1) (by omega) rfl (c_X6_entries (by omega) hM hW) ?_
        refine V_callS1p (pc := 122) dX6_share_122 kv_X6_401 (d - 1) (by omega) rfl (c_X6_times (by omega) (by omega) (by omega)) ?_
        refine V_i2l (pc := 125) dX6_share_125 (by omega) ?_
        refine V_iload_2 (pc := 126) dX6_share_126 ?_
        refine V_callS3j (pc := 127) dX6_share_127 kv_X6_411 (d - 1) (by omega) rfl (c_X6_part (by omega) (by omega) (by omega) (by omega)) (fun v_127 σ_127 h_127 => ?_)
        refine V_l2i (pc := 130) dX6_share_130 ?_
        refine V_iretI (pc := 131) dX6_share_131 rfl ?_
        obtain ⟨rfl, rfl⟩ := h_127
        exact ⟨_, rfl, hSR.2, hK⟩
      · exact absurd c_41 (by omega)
    · intro i hi ih σi hI
      have hI0 := hI
      obtain ⟨hM, hL, hS, hK⟩ := hI
      have hS_ := sumN_i (SHT B e) i
      have hPC := PC_le 7 i
      have hsb := setB_in (r := (i : Int)) (e := e) (n := (B 6 0).toNat) (by omega) (by omega)
      have hb01 := bt_01 (i : Int) e
      have hT0 : bt (i : Int) e = 1 → SHT B e i = 0 := fun q => by unfold SHT; rw [if_pos q]
      have hT1 : ¬ bt (i : Int) e = 1 → SHT B e i = ((FCT (PC 7 i) : Nat) : Int) * ((FCT ((B 6 0).toNat - PC 7 i - 1) : Nat) : Int) * MRG B i e := fun q => by unfold SHT; rw [if_neg q, Int.toNat_natCast]
      refine V_iload_4 (pc := 33) dX6_share_33 ?_
      refine V_iconst (pc := 35) dX6_share_35 ?_
      refine V_aload_0 (pc := 36) dX6_share_36 ?_
      refine V_callV0p (pc := 37) dX6_share_37 kv_X6_236 rc_34 (by omega) (d - 1) (by omega) rfl (c_X6_entries (by omega) hM hW) ?_
      refine V_ishl_1 (pc := 40) dX6_share_40 (by omega) ?_
      refine V_icmp_ge (pc := 41) 116 dX6_share_41 (by decide) (by omega) (by omega) (fun c_41 => ?_) (fun c_41 => ?_)
      · exact absurd c_41 (by omega)
      · refine V_iload_4 (pc := 44) dX6_share_44 ?_
        refine V_iload_1 (pc := 46) dX6_share_46 ?_
        refine V_callS2p (pc := 47) dX6_share_47 kv_X6_273 (d - 1) (by omega) rfl (c_X6_isBit (by omega) (by omega) (by omega)) ?_
        refine V_if_eq_b (pc := 50) 56 dX6_share_50 (by decide) (fun c_50 => ?_) (fun c_50 => ?_)
        · refine V_iload_4 (pc := 56) dX6_share_56 ?_
          refine V_callS1p (pc := 58) dX6_share_58 kv_X6_377 (d - 1) (by omega) rfl (by have := c_X6_sizeOf (d := d - 1) (by omega) (σ := σi) (n := i) (by omega); rw [PC_7 (by omega)] at this; exact this) ?_
          refine V_istore_5 (pc := 61) dX6_share_61 ?_
          refine V_iload_3 (pc := 63) dX6_share_63 ?_
          refine V_iload_5 (pc := 64) dX6_share_64 ?_
          refine V_callS1p (pc := 66) dX6_share_66 kv_X6_401 (d - 1) (by omega) rfl (by have := c_X6_times (d := d - 1) (by omega) (σ := σi) (x := ((PC 7 i : Nat) : Int)) (by omega) (by omega); rw [Int.toNat_natCast] at this; exact this) ?_
          refine V_aload_0 (pc := 69) dX6_share_69 ?_
          refine V_callV0p (pc := 70) dX6_share_70 kv_X6_236 rc_34 (by omega) (d - 1) (by omega) rfl (c_X6_entries (by omega) hM hW) ?_
          refine V_iload_5 (pc := 73) dX6_share_73 ?_
          refine V_isub (pc := 75) dX6_share_75 ?_
          refine V_iconst (pc := 76) dX6_share_76 ?_
          refine V_isub (pc := 77) dX6_share_77 ?_
          refine V_callS1p (pc := 78) dX6_share_78 kv_X6_401 (d - 1) (by omega) rfl (by have := c_X6_times (d := d - 1) (by omega) (σ := σi) (x := B 6 0 - ((PC 7 i : Nat) : Int) - 1) (by omega) (by omega); rw [show (B 6 0 - ((PC 7 i : Nat) : Int) - 1).toNat = (B 6 0).toNat - PC 7 i - 1 by omega] at this; exact this) ?_
          refine V_imul (pc := 81) dX6_share_81 ?_
          refine V_aload_0 (pc := 82) dX6_share_82 ?_
          refine V_iload_4 (pc := 83) dX6_share_83 ?_
          refine V_iconst (pc := 85) dX6_share_85 ?_
          refine V_iload_1 (pc := 86) dX6_share_86 ?_
          refine V_ishl_1 (pc := 87) dX6_share_87 (by omega) ?_
          refine V_ior_set (pc := 88) dX6_share_88 (by omega) (by omega) ?_
          refine V_aload_0 (pc := 89) dX6_share_89 ?_
          refine V_callV0p (pc := 90) dX6_share_90 kv_X6_243 rc_34 (by omega) (d - 1) (by omega) rfl (c_X6_years (by omega) hM hW) ?_
          refine V_callV2p (pc := 93) dX6_share_93 kv_X6_352 rc_34 (by omega) (d - 1) (by omega) rfl (c_X6_sortsOf (by omega) hM hW hL hS (by omega) (by omega)) ?_
          refine V_aload_0 (pc := 96) dX6_share_96 ?_
          refine V_iload_4 (pc := 97) dX6_share_97 ?_
          refine V_aload_0 (pc := 99) dX6_share_99 ?_
          refine V_callV0p (pc := 100) dX6_share_100 kv_X6_243 rc_34 (by omega) (d - 1) (by omega) rfl (c_X6_years (by omega) hM hW) ?_
          refine V_callV2p (pc := 103) dX6_share_103 kv_X6_352 rc_34 (by omega) (d - 1) (by omega) rfl (c_X6_sortsOf (by omega) hM hW hL hS (by omega) (by omega)) ?_
          refine V_isub (pc := 106) dX6_share_106 ?_
          refine V_imul (pc := 107) dX6_share_107 ?_
          refine V_iadd (pc := 108) dX6_share_108 ?_
          refine V_istore_3 (pc := 109) dX6_share_109 ?_
          refine V_iinc_4 (pc := 110) dX6_share_110 ?_
          refine V_goto (pc := 113) 33 dX6_share_113 (by decide) ?_
          refine V.sub (by simp only [subL, Option.some.injEq, Sum.inl.injEq, Sum.inr.injEq, reduceCtorEq, true_or, or_true, false_or, true_and, and_true]; first | (rw [hS_, hT0 (by omega)]; refine ⟨by omega, by omega⟩) | (rw [hS_, hT1 (by omega)]; refine ⟨rfl, by omega⟩)) (ih _ hI0)
        · refine V_goto (pc := 53) 110 dX6_share_53 (by decide) ?_
          refine V_iinc_4 (pc := 110) dX6_share_110 ?_
          refine V_goto (pc := 113) 33 dX6_share_113 (by decide) ?_
          refine V.sub (by simp only [subL, Option.some.injEq, Sum.inl.injEq, Sum.inr.injEq, reduceCtorEq, true_or, or_true, false_or, true_and, and_true]; first | (rw [hS_, hT0 (by omega)]; refine ⟨by omega, by omega⟩) | (rw [hS_, hT1 (by omega)]; refine ⟨rfl, by omega⟩)) (ih _ hI0)
  refine V_aload_0 (pc := 0) dX6_share_0 ?_
  refine V_iconst (pc := 1) dX6_share_1 ?_
  refine V_puti (pc := 2) dX6_share_2 gf_X6_74 (by omega) ?_
  have hM := (KM.set (σ := σ) (t := 34) (k := 0) (z := 0) (v := 0) (by unfold SCM; omega)).mb hM
  refine V_aload_0 (pc := 5) dX6_share_5 ?_
  refine V_iload_1 (pc := 6) dX6_share_6 ?_
  refine V_i2l (pc := 7) dX6_share_7 (by omega) ?_
  refine V_callV1p (pc := 8) dX6_share_8 kv_X6_246 rc_34 (by omega) (d - 1) (by omega) rfl (c_X6_isEntry (by omega) hM hW (by omega)) ?_
  refine V_if_eq_b (pc := 11) 21 dX6_share_11 (by decide) (fun c_11 => ?_) (fun c_11 => ?_)
  · refine V_bipush (pc := 21) dX6_share_21 (by decide) ?_
    refine V_iretI (pc := 23) dX6_share_23 rfl ?_
    exact ⟨_, rfl, by unfold q_share; rw [if_pos (by omega)], by first | exact (KM.set (σ := σ) (t := 34) (k := 0) (z := 0) (v := 0) (by unfold SCM; omega)).tr hK | exact (KM.set (σ := σ) (t := 34) (k := 0) (z := 0) (v := 0) (by unfold SCM; omega))⟩
  · refine V_iload_2 (pc := 14) dX6_share_14 ?_
    refine V_callS1p (pc := 15) dX6_share_15 kv_X6_408 (d - 1) (by omega) rfl (c_X6_isHalf (by omega) (by omega)) ?_
    refine V_if_ne_b (pc := 18) 24 dX6_share_18 (by decide) (fun c_18 => ?_) (fun c_18 => ?_)
    · refine V_aload_0 (pc := 24) dX6_share_24 ?_
      refine V_callV0z (pc := 25) dX6_share_25 kv_X6_337 rc_34 (by omega) (d - 1) (by omega) rfl (c_X6_laysNow (by omega) hM hW) (fun σ_25 h_25 => ?_)
      obtain ⟨hL, hS, hK⟩ := h_25
      have hM := hK.mb hM
      refine V_iconst (pc := 28) dX6_share_28 ?_
      refine V_istore_3 (pc := 29) dX6_share_29 ?_
      refine V_iconst (pc := 30) dX6_share_30 ?_
      refine V_istore_4 (pc := 31) dX6_share_31 ?_
      exact loop (by omega) 0 (by omega) _ ⟨hM, hL, hS, (KM.set (σ := σ) (t := 34) (k := 0) (z := 0) (v := 0) (by unfold SCM; omega)).tr hK⟩
    · refine V_bipush (pc := 21) dX6_share_21 (by decide) ?_
      refine V_iretI (pc := 23) dX6_share_23 rfl ?_
      exact ⟨_, rfl, by unfold q_share; rw [if_pos (by omega)], by first | exact (KM.set (σ := σ) (t := 34) (k := 0) (z := 0) (v := 0) (by unfold SCM; omega)).tr hK | exact (KM.set (σ := σ) (t := 34) (k := 0) (z := 0) (v := 0) (by unfold SCM; omega))⟩
