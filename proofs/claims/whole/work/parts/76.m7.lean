/-! CHANCE, over all sets of wet years -/
theorem sum_eo (F : Int → Int) : ∀ N : Nat, sumN F (2 * N) = sumN (fun m => F (2 * m) + F (2 * m + 1)) N
  | 0 => rfl
  | N + 1 => by
    rw [show 2 * (N + 1) = 2 * N + 1 + 1 by omega, sumN_S, sumN_S, sum_eo F N, sumN_S, show ((2 * N : Nat) : Int) = 2 * (N : Int) by omega, show ((2 * N + 1 : Nat) : Int) = 2 * (N : Int) + 1 by omega]
    omega
theorem sum_lin (a b : Int) (f g : Int → Int) : ∀ N : Nat, sumN (fun m => a * f m + b * g m) N = a * sumN f N + b * sumN g N
  | 0 => by show (0 : Int) = a * 0 + b * 0; rw [Int.mul_zero, Int.mul_zero]; rfl
  | N + 1 => by
    rw [sumN_S, sumN_S, sumN_S, sum_lin a b f g N, Int.mul_add, Int.mul_add]
    omega
def wOf (w : Int → Int) (y : Nat) (s : Int) : Int → Int := fun j => if j < y then w j else bt s (j - y)
theorem ASK_cong {B : BK} {e n : Int} {w w' : Int → Int} {y : Nat} (h : ∀ k : Int, 0 ≤ k ∧ k < y → w k = w' k) : ASK B e n w y = ASK B e n w' y := by
  unfold ASK
  rw [YS_cong y h]
def WTM (B : BK) (e n : Int) (k : Nat) (w : Int → Int) (y : Nat) (s : Int) : Int := PW (B 3 0) (PC k s.toNat) * PW (10 - B 3 0) (k - PC k s.toNat) * ASK B e n (wOf w y s) (y + k)
theorem bt_2b {m b j : Int} (hm : 0 ≤ m) (hb : b = 0 ∨ b = 1) (hj : 0 < j) : bt (2 * m + b) j = bt m (j - 1) := by
  unfold bt
  rw [show j = (j - 1) + 1 by omega, p2_succ (by omega), ← Int.ediv_ediv_of_nonneg (by omega), show (2 * m + b) / 2 = m by omega, show j - 1 + 1 - 1 = j - 1 by omega]
theorem wOf_b {w : Int → Int} {y : Nat} {m b : Int} (hm : 0 ≤ m) (hb : b = 0 ∨ b = 1) (j : Int) : wOf w y (2 * m + b) j = wOf (upW w y b) (y + 1) m j := by
  unfold wOf upW
  by_cases h : j < y
  · rw [if_pos h, if_pos (by omega), if_neg (by omega)]
  · rw [if_neg h]
    by_cases h2 : j = y
    · subst h2
      rw [if_pos (by omega), if_pos rfl]
      unfold bt
      rw [Int.sub_self, p2_0, Int.ediv_one]
      omega
    · rw [if_neg (by omega), bt_2b hm hb (by omega), show j - (y : Int) - 1 = j - ((y + 1 : Nat) : Int) by omega]
theorem WGT_sum {B : BK} {e n : Int} : ∀ (k : Nat) (w : Int → Int) (y : Nat), WGT B e n k w y = sumN (WTM B e n k w y) (2 ^ k)
  | 0, w, y => by
    show ASK B e n w y = 0 + PW (B 3 0) 0 * PW (10 - B 3 0) 0 * ASK B e n (wOf w y 0) (y + 0)
    rw [show PW (B 3 0) 0 = 1 from rfl, show PW (10 - B 3 0) 0 = 1 from rfl, Int.one_mul, Int.one_mul, Int.zero_add, Nat.add_zero]
    exact ASK_cong (fun j hj => by unfold wOf; rw [if_pos hj.2])
  | k + 1, w, y => by
    rw [WGT, WGT_sum k (upW w y 1) (y + 1), WGT_sum k (upW w y 0) (y + 1), ← sum_lin, Nat.pow_succ, Nat.mul_comm, sum_eo]
    refine (sumN_cong (fun m hm _ => ?_)).symm
    have hc := PC_le k m.toNat
    have e0 : WTM B e n (k + 1) w y (2 * m) = (10 - B 3 0) * WTM B e n k (upW w y 0) (y + 1) m := by
      unfold WTM
      rw [show PC (k + 1) (2 * m).toNat = PC k m.toNat by rw [PC, show (2 * m).toNat % 2 = 0 by omega, show (2 * m).toNat / 2 = m.toNat by omega, Nat.zero_add], show k + 1 - PC k m.toNat = (k - PC k m.toNat) + 1 by omega, PW, Int.mul_left_comm, Int.mul_assoc (10 - B 3 0), show y + (k + 1) = y + 1 + k by omega]
      rw [ASK_cong (w := wOf w y (2 * m)) (w' := wOf (upW w y 0) (y + 1) m) (fun j _ => by have := wOf_b (w := w) (y := y) hm (Or.inl rfl) j; rw [Int.add_zero] at this; exact this)]
    have e1 : WTM B e n (k + 1) w y (2 * m + 1) = B 3 0 * WTM B e n k (upW w y 1) (y + 1) m := by
      unfold WTM
      rw [show PC (k + 1) (2 * m + 1).toNat = PC k m.toNat + 1 by rw [PC, show (2 * m + 1).toNat % 2 = 1 by omega, show (2 * m + 1).toNat / 2 = m.toNat by omega, Nat.add_comm], show k + 1 - (PC k m.toNat + 1) = k - PC k m.toNat by omega, PW, Int.mul_assoc (B 3 0), Int.mul_assoc (B 3 0), show y + (k + 1) = y + 1 + k by omega]
      rw [ASK_cong (w := wOf w y (2 * m + 1)) (w' := wOf (upW w y 1) (y + 1) m) (fun j _ => wOf_b hm (Or.inr rfl) j)]
    show WTM B e n (k + 1) w y (2 * m) + WTM B e n (k + 1) w y (2 * m + 1) = _
    rw [e0, e1, Int.add_comm]
theorem PC_24 {k : Nat} (hk : k ≤ 24) {i : Nat} (h : i < 2 ^ k) : PC 24 i = PC k i := by
  have h1 := PC_sum 24 i
  have h2 := PC_sum k i
  have hp := p2_nat k
  have h3 := sum_hi (v := (i : Int)) (n := k) ⟨by omega, by omega⟩ 24 hk
  omega
/-- as the reference weighs it -/
def WTE (B : BK) (e n : Int) (k : Nat) (s : Int) : Int := PW (B 3 0) (PC 24 s.toNat) * PW (10 - B 3 0) (k - PC 24 s.toNat) * ASK B e n (bt s) k
theorem WGT_e {B : BK} {e n : Int} {k : Nat} (hk : k ≤ 24) : sumN (WTE B e n k) (2 ^ k) = WGT B e n k (fun _ => 0) 0 := by
  rw [WGT_sum]
  refine sumN_cong (fun s h0 h1 => ?_)
  unfold WTE WTM
  rw [PC_24 hk (show s.toNat < 2 ^ k by omega), Nat.zero_add]
  rw [ASK_cong (w := bt s) (w' := wOf (fun _ => 0) 0 s) (fun j hj => by unfold wOf; rw [if_neg (by omega)]; congr 1; omega)]
theorem c_sizeOfC {d : Nat} {σ : MM} {n c : Nat} (hc : PC 24 n = c) (hn : n < 16777216) : V yX6_sizeOf cX6_sizeOf 3 (some .int) d (QI (fun v σ' => v = (c : Int) ∧ σ' = σ)) 0 [some (vI (n : Int)), none, none] [] σ := by
  subst hc
  exact c_X6_sizeOf (by omega) hn
theorem c_powerX {d : Nat} (hd : 8 ≤ d) {σ : MM} {a x : Int} {n : Nat} (hx : x = n) (hn : n ≤ 8) : V yX6_power cX6_power 3 (some .long) d (QJ (fun v σ' => v = PW a n ∧ σ' = σ)) 0 [some (vL a), none, some (vI x)] [] σ := by
  have h := c_X6_power hd (σ := σ) (a := a) (x := x) (by omega)
  rw [show x.toNat = n by omega] at h
  exact h
theorem WTE_c {B : BK} {e n : Int} {k i c : Nat} (hc : PC 24 i = c) : WTE B e n k i = PW (B 3 0) c * PW (10 - B 3 0) (k - c) * ASK B e n (bt i) k := by
  subst hc
  rfl
theorem PW_10 : ∀ n : Nat, PW 10 n = P10 n
  | 0 => rfl
  | n + 1 => by rw [PW, P10, PW_10 n, Int.mul_comm]

set_option maxRecDepth 20000 in
set_option maxHeartbeats 1000000 in
theorem c_X6_weightOf {d : Nat} (hd : 9 ≤ d) {σ : MM} {B : BK} {e y n : Int} (hM : MB σ 0 B) (hW : WB B) (he : e = -1 ∨ (0 ≤ e ∧ e < B 6 0)) (hn : 0 ≤ n ∧ n ≤ 60) (hy : 1 ≤ y ∧ y ≤ 8) (hy1 : y ≤ B 1 0) : V yX6_weightOf cX6_weightOf 9 (some .long) d (QJ (fun v σ' => v = WGT B e n y.toNat (fun _ => 0) 0 ∧ KM σ σ')) 0 [some (vR 34 0), some (vI e), some (vI y), some (vI n), none, none, none, none, none] [] σ := by
  have hs := hW.s
  have hM0 := hM
  have hp0 : p2 y = p2 ((y.toNat : Nat) : Int) := by rw [show ((y.toNat : Nat) : Int) = y by omega]
  have hp1 := p2_le (a := y) (b := 8) (by omega)
  have hp2 : p2 8 = 256 := rfl
  obtain ⟨N2, hN2⟩ : ∃ m : Nat, m = 2 ^ y.toNat := ⟨_, rfl⟩
  have hp3 : p2 ((y.toNat : Nat) : Int) = N2 := by rw [hN2]; exact p2_nat _
  have loop : ∀ i : Nat, i ≤ N2 → ∀ σi : MM, ((∃ r : Int, LD σi B B r) ∧ KM σ σi) → V yX6_weightOf cX6_weightOf 9 (some .long) d (QJ (fun v σ' => v = WGT B e n y.toNat (fun _ => 0) 0 ∧ KM σ σ')) 10 [some (vR 34 0), some (vI e), some (vI y), some (vI n), some (vL (sumN (WTE B e n y.toNat) i)), none, some (vI (i : Int)), none, none] [] σi := by
    refine up_ind (P := fun i : Nat => ∀ σi : MM, ((∃ r : Int, LD σi B B r) ∧ KM σ σi) → V yX6_weightOf cX6_weightOf 9 (some .long) d (QJ (fun v σ' => v = WGT B e n y.toNat (fun _ => 0) 0 ∧ KM σ σ')) 10 [some (vR 34 0), some (vI e), some (vI y), some (vI n), some (vL (sumN (WTE B e n y.toNat) i)), none, some (vI (i : Int)), none, none] [] σi) ?_ ?_
    · intro σi hI
      obtain ⟨⟨r, hL⟩, hK⟩ := hI
      have hM := hK.mb hM0
      refine V_iload_6 (pc := 10) dX6_weightOf_10 ?_
      refine V_iconst (pc := 12) dX6_weightOf_12 ?_
      refine V_iload_2 (pc := 13) dX6_weightOf_13 ?_
      refine V_ishl_1 (pc := 14) dX6_weightOf_14 (by omega) ?_
      refine V_icmp_ge (pc := 15) 110 dX6_weightOf_15 (by decide) (by omega) (by omega) (fun c_15 => ?_) (fun c_15 => ?_)
      · refine V_lload_4 (pc := 110) dX6_weightOf_110 ?_
        refine V_lret (pc := 112) dX6_weightOf_112 rfl ?_
        exact ⟨_, rfl, by rw [hN2]; exact WGT_e (by omega), hK⟩
      · exact absurd c_15 (by omega)
    · intro i hi ih σi hI
      obtain ⟨⟨r, hL⟩, hK⟩ := hI
      have hM := hK.mb hM0
      have hS_ := sumN_i (WTE B e n y.toNat) i
      have hpc : PC 24 i = PC y.toNat i := PC_24 (by omega) (by rw [← hN2]; omega)
      have hpl := PC_le y.toNat i
      obtain ⟨c, hc⟩ : ∃ c : Nat, PC 24 i = c := ⟨_, rfl⟩
      have hc8 : c ≤ y.toNat := by rw [← hc, hpc]; exact hpl
      have hW_ := WTE_c (B := B) (e := e) (n := n) (k := y.toNat) hc
      clear hpc hpl
      have hsh := fun q : 0 ≤ e ∧ e < B 6 0 => SHD_in (r := (i : Int)) (y := y) hW q
      have hA1 : e = -1 → ASK B e n (bt i) y.toNat = sumN (fun e => SHD B (bt i) y e) (B 6 0).toNat := fun q => if_pos q
      have hA0 : ¬ e = -1 → ASK B e n (bt i) y.toNat = bI (n ≤ SHD B (bt i) y e) := fun q => if_neg q
      have hal : 0 ≤ sumN (fun e => SHD B (bt i) y e) (B 6 0).toNat ∧ sumN (fun e => SHD B (bt i) y e) (B 6 0).toNat ≤ 420 := ALS_in hs (TB_YS hW (w := bt i) (fun k _ => bt_01 i k) y.toNat)
      have hi24 : i < 16777216 := by omega
      refine V_iload_6 (pc := 10) dX6_weightOf_10 ?_
      refine V_iconst (pc := 12) dX6_weightOf_12 ?_
      refine V_iload_2 (pc := 13) dX6_weightOf_13 ?_
      refine V_ishl_1 (pc := 14) dX6_weightOf_14 (by omega) ?_
      refine V_icmp_ge (pc := 15) 110 dX6_weightOf_15 (by decide) (by omega) (by omega) (fun c_15 => ?_) (fun c_15 => ?_)
      · exact absurd c_15 (by omega)
      · refine V_aload_0 (pc := 18) dX6_weightOf_18 ?_
        refine V_iload_6 (pc := 19) dX6_weightOf_19 ?_
        refine V_puti (pc := 21) dX6_weightOf_21 gf_X6_255 (by omega) ?_
        refine V_aload_0 (pc := 24) dX6_weightOf_24 ?_
        have hL := hL.p_wet (w := (i : Int)) (by omega)
        have hK := hK.tr (KM.set (t := 34) (k := 0) (z := 24) (v := (i : Int)) (by unfold SCM; omega))
        have hM := hK.mb hM0
        refine V_callV0z (pc := 25) dX6_weightOf_25 kv_X6_318 rc_34 (by omega) (d - 1) (by omega) rfl (c_X6_runs (by omega) hM hW hL) (fun σ_25 h_25 => ?_)
        obtain ⟨hS, hR_⟩ := h_25
        have hL := hR_.ld hL
        have hK := hK.tr hR_.km
        have hM := hK.mb hM0
        refine V_aload_0 (pc := 28) dX6_weightOf_28 ?_
        refine V_getc (pc := 29) dX6_weightOf_29 gf_X6_34 (by omega) ?_
        refine V_iconst (pc := 32) dX6_weightOf_32 ?_
        refine V_iald (pc := 33) dX6_weightOf_33 sh_41 (by omega) (by omega) hM.h2 ?_
        refine V_i2l (pc := 34) dX6_weightOf_34 (by omega) ?_
        refine V_iload_6 (pc := 35) dX6_weightOf_35 ?_
        refine V_callS1p (pc := 37) dX6_weightOf_37 kv_X6_377 (d - 1) (by omega) rfl (c_sizeOfC hc (by omega)) ?_
        refine V_callS2j (pc := 40) dX6_weightOf_40 kv_X6_421 (d - 1) (by omega) rfl (c_powerX (n := c) (by omega) (by omega) (by omega)) (fun v_40 σ_40 h_40 => ?_)
        obtain ⟨rfl, rfl⟩ := h_40
        refine V_ldc2 (pc := 43) dX6_weightOf_43 (z := 10) ldc_X6_424 ?_
        refine V_aload_0 (pc := 46) dX6_weightOf_46 ?_
        refine V_getc (pc := 47) dX6_weightOf_47 gf_X6_34 (by omega) ?_
        refine V_iconst (pc := 50) dX6_weightOf_50 ?_
        refine V_iald (pc := 51) dX6_weightOf_51 sh_41 (by omega) (by omega) hM.h2 ?_
        refine V_i2l (pc := 52) dX6_weightOf_52 (by omega) ?_
        refine V_lsub (pc := 53) dX6_weightOf_53 ?_
        refine V_iload_2 (pc := 54) dX6_weightOf_54 ?_
        refine V_iload_6 (pc := 55) dX6_weightOf_55 ?_
        refine V_callS1p (pc := 57) dX6_weightOf_57 kv_X6_377 (d - 1) (by omega) rfl (c_sizeOfC hc (by omega)) ?_
        refine V_isub (pc := 60) dX6_weightOf_60 ?_
        refine V_callS2j (pc := 61) dX6_weightOf_61 kv_X6_421 (d - 1) (by omega) rfl (c_powerX (n := y.toNat - c) (by omega) (by omega) (by omega)) (fun v_61 σ_61 h_61 => ?_)
        obtain ⟨rfl, rfl⟩ := h_61
        refine V_lmul (pc := 64) dX6_weightOf_64 ?_
        refine V_lstore_7 (pc := 65) dX6_weightOf_65 ?_
        refine V_lload_4 (pc := 67) dX6_weightOf_67 ?_
        refine V_lload_7 (pc := 69) dX6_weightOf_69 ?_
        refine V_iload_1 (pc := 71) dX6_weightOf_71 ?_
        refine V_iconst (pc := 72) dX6_weightOf_72 ?_
        refine V_icmp_ne (pc := 73) 84 dX6_weightOf_73 (by decide) (by omega) (by omega) (fun c_73 => ?_) (fun c_73 => ?_)
        · refine V_aload_0 (pc := 84) dX6_weightOf_84 ?_
          refine V_iload_1 (pc := 85) dX6_weightOf_85 ?_
          refine V_iload_2 (pc := 86) dX6_weightOf_86 ?_
          refine V_callV2p (pc := 87) dX6_weightOf_87 kv_X6_283 rc_34 (by omega) (d - 1) (by omega) rfl (c_X6_shadeOf (by omega) (by omega) (by omega) (hS.s (by omega) (by omega))) ?_
          refine V_iload_3 (pc := 90) dX6_weightOf_90 ?_
          refine V_icmp_lt (pc := 91) 98 dX6_weightOf_91 (by decide) (by omega) (by omega) (fun c_91 => ?_) (fun c_91 => ?_)
          · refine V_iconst (pc := 98) dX6_weightOf_98 ?_
            refine V_i2l (pc := 99) dX6_weightOf_99 (by omega) ?_
            refine V_lmul (pc := 100) dX6_weightOf_100 ?_
            refine V_ladd (pc := 101) dX6_weightOf_101 ?_
            refine V_lstore_4 (pc := 102) dX6_weightOf_102 ?_
            refine V_iinc_6 (pc := 104) dX6_weightOf_104 ?_
            refine V_goto (pc := 107) 10 dX6_weightOf_107 (by decide) ?_
            refine V.sub (by simp only [subL, Option.some.injEq, Sum.inl.injEq, Sum.inr.injEq, reduceCtorEq, true_or, or_true, false_or, true_and, and_true]; rw [hS_, hW_]; first | (rw [hA1 (by omega)]; refine ⟨rfl, by omega⟩) | (rw [hA0 (by omega), bI_t (by omega)]; refine ⟨rfl, by omega⟩) | (rw [hA0 (by omega), bI_f (by omega)]; refine ⟨rfl, by omega⟩)) (ih _ ⟨⟨_, hL⟩, hK⟩)
          · refine V_iconst (pc := 94) dX6_weightOf_94 ?_
            refine V_goto (pc := 95) 99 dX6_weightOf_95 (by decide) ?_
            refine V_i2l (pc := 99) dX6_weightOf_99 (by omega) ?_
            refine V_lmul (pc := 100) dX6_weightOf_100 ?_
            refine V_ladd (pc := 101) dX6_weightOf_101 ?_
            refine V_lstore_4 (pc := 102) dX6_weightOf_102 ?_
            refine V_iinc_6 (pc := 104) dX6_weightOf_104 ?_
            refine V_goto (pc := 107) 10 dX6_weightOf_107 (by decide) ?_
            refine V.sub (by simp only [subL, Option.some.injEq, Sum.inl.injEq, Sum.inr.injEq, reduceCtorEq, true_or, or_true, false_or, true_and, and_true]; rw [hS_, hW_]; first | (rw [hA1 (by omega)]; refine ⟨rfl, by omega⟩) | (rw [hA0 (by omega), bI_t (by omega)]; refine ⟨rfl, by omega⟩) | (rw [hA0 (by omega), bI_f (by omega)]; refine ⟨rfl, by omega⟩)) (ih _ ⟨⟨_, hL⟩, hK⟩)
        · refine V_aload_0 (pc := 76) dX6_weightOf_76 ?_
          refine V_iload_2 (pc := 77) dX6_weightOf_77 ?_
          refine V_callV1p (pc := 78) dX6_weightOf_78 kv_X6_346 rc_34 (by omega) (d - 1) (by omega) rfl (c_X6_allAt (by omega) hM hW hL hS (by omega)) ?_
          refine V_goto (pc := 81) 99 dX6_weightOf_81 (by decide) ?_
          refine V_i2l (pc := 99) dX6_weightOf_99 (by omega) ?_
          refine V_lmul (pc := 100) dX6_weightOf_100 ?_
          refine V_ladd (pc := 101) dX6_weightOf_101 ?_
          refine V_lstore_4 (pc := 102) dX6_weightOf_102 ?_
          refine V_iinc_6 (pc := 104) dX6_weightOf_104 ?_
          refine V_goto (pc := 107) 10 dX6_weightOf_107 (by decide) ?_
          refine V.sub (by simp only [subL, Option.some.injEq, Sum.inl.injEq, Sum.inr.injEq, reduceCtorEq, true_or, or_true, false_or, true_and, and_true]; rw [hS_, hW_]; first | (rw [hA1 (by omega)]; refine ⟨rfl, by omega⟩) | (rw [hA0 (by omega), bI_t (by omega)]; refine ⟨rfl, by omega⟩) | (rw [hA0 (by omega), bI_f (by omega)]; refine ⟨rfl, by omega⟩)) (ih _ ⟨⟨_, hL⟩, hK⟩)
  refine V_aload_0 (pc := 0) dX6_weightOf_0 ?_
  refine V_callV0z (pc := 1) dX6_weightOf_1 kv_X6_315 rc_34 (by omega) (d - 1) (by omega) rfl (c_X6_lays (by omega) hM hW) (fun σ_1 h_1 => ?_)
  obtain ⟨hL, hK⟩ := h_1
  have hM := hK.mb hM0
  refine V_lconst (pc := 4) dX6_weightOf_4 (z := 0) rfl ?_
  refine V_lstore_4 (pc := 5) dX6_weightOf_5 ?_
  refine V_iconst (pc := 7) dX6_weightOf_7 ?_
  refine V_istore_6 (pc := 8) dX6_weightOf_8 ?_
  exact loop 0 (by omega) _ ⟨⟨_, hL⟩, hK⟩

set_option maxRecDepth 20000 in
set_option maxHeartbeats 1000000 in
theorem c_X6_chance {d : Nat} (hd : 56 ≤ d) {σ : MM} {B : BK} {e y n w : Int} (hM : MB σ 0 B) (hG : GB B) (he : IR e) (hy : IR y) (hn : IR n) (hw : IR w) : V yX6_chance cX6_chance 5 (some .int) d (QI (fun v σ' => v = q_chance B e y n w ∧ KM σ σ')) 0 [some (vR 34 0), some (vI e), some (vI y), some (vI n), some (vI w)] [] σ := by
  have hW := hG.w
  have hs := hW.s
  have hM0 := hM
  have hWG := WGT_in hW (e := e) (n := n) y.toNat (fun _ => 0) 0 (fun _ _ => Or.inl rfl)
  have hp8 : y.toNat ≤ 8 → _ := fun q => P10_le y.toNat q
  have hpp := P10_pos y.toNat
  refine V_aload_0 (pc := 0) dX6_chance_0 ?_
  refine V_iconst (pc := 1) dX6_chance_1 ?_
  refine V_puti (pc := 2) dX6_chance_2 gf_X6_74 (by omega) ?_
  have hM := (KM.set (σ := σ) (t := 34) (k := 0) (z := 0) (v := 0) (by unfold SCM; omega)).mb hM
  refine V_aload_0 (pc := 5) dX6_chance_5 ?_
  refine V_iload_1 (pc := 6) dX6_chance_6 ?_
  refine V_i2l (pc := 7) dX6_chance_7 (by omega) ?_
  refine V_callV1p (pc := 8) dX6_chance_8 kv_X6_246 rc_34 (by omega) (d - 1) (by omega) rfl (c_X6_isEntry (by omega) hM hW (by omega)) ?_
  refine V_if_eq_b (pc := 11) 65 dX6_chance_11 (by decide) (fun c_11 => ?_) (fun c_11 => ?_)
  · refine V_bipush (pc := 65) dX6_chance_65 (by decide) ?_
    refine V_iretI (pc := 67) dX6_chance_67 rfl ?_
    first | exact ⟨_, rfl, by unfold q_chance; rw [if_pos (by omega)], (KM.set (σ := σ) (t := 34) (k := 0) (z := 0) (v := 0) (by unfold SCM; omega))⟩ | exact ⟨_, rfl, by unfold q_chance; rw [if_neg (by omega)], hK⟩
  · refine V_aload_0 (pc := 14) dX6_chance_14 ?_
    refine V_iload_2 (pc := 15) dX6_chance_15 ?_
    refine V_callV1p (pc := 16) dX6_chance_16 kv_X6_426 rc_34 (by omega) (d - 1) (by omega) rfl (c_X6_isSoon (by omega) hM hW (by omega)) ?_
    refine V_if_eq_b (pc := 19) 65 dX6_chance_19 (by decide) (fun c_19 => ?_) (fun c_19 => ?_)
    · refine V_bipush (pc := 65) dX6_chance_65 (by decide) ?_
      refine V_iretI (pc := 67) dX6_chance_67 rfl ?_
      first | exact ⟨_, rfl, by unfold q_chance; rw [if_pos (by omega)], (KM.set (σ := σ) (t := 34) (k := 0) (z := 0) (v := 0) (by unfold SCM; omega))⟩ | exact ⟨_, rfl, by unfold q_chance; rw [if_neg (by omega)], hK⟩
    · refine V_iload_3 (pc := 22) dX6_chance_22 ?_
      refine V_i2l (pc := 23) dX6_chance_23 (by omega) ?_
      refine V_lconst (pc := 24) dX6_chance_24 (z := 0) rfl ?_
      refine V_ldc2 (pc := 25) dX6_chance_25 (z := 60) ldc_X6_366 ?_
      refine V_callS3p (pc := 28) dX6_chance_28 kv_X6_79 (d - 1) (by omega) rfl (c_X6_in (by omega) (by omega) (by omega) (by omega)) ?_
      refine V_if_eq_b (pc := 31) 65 dX6_chance_31 (by decide) (fun c_31 => ?_) (fun c_31 => ?_)
      · refine V_bipush (pc := 65) dX6_chance_65 (by decide) ?_
        refine V_iretI (pc := 67) dX6_chance_67 rfl ?_
        first | exact ⟨_, rfl, by unfold q_chance; rw [if_pos (by omega)], (KM.set (σ := σ) (t := 34) (k := 0) (z := 0) (v := 0) (by unfold SCM; omega))⟩ | exact ⟨_, rfl, by unfold q_chance; rw [if_neg (by omega)], hK⟩
      · refine V_iload_4 (pc := 34) dX6_chance_34 ?_
        refine V_callS1p (pc := 36) dX6_chance_36 kv_X6_408 (d - 1) (by omega) rfl (c_X6_isHalf (by omega) (by omega)) ?_
        refine V_if_eq_b (pc := 39) 65 dX6_chance_39 (by decide) (fun c_39 => ?_) (fun c_39 => ?_)
        · refine V_bipush (pc := 65) dX6_chance_65 (by decide) ?_
          refine V_iretI (pc := 67) dX6_chance_67 rfl ?_
          first | exact ⟨_, rfl, by unfold q_chance; rw [if_pos (by omega)], (KM.set (σ := σ) (t := 34) (k := 0) (z := 0) (v := 0) (by unfold SCM; omega))⟩ | exact ⟨_, rfl, by unfold q_chance; rw [if_neg (by omega)], hK⟩
        · refine V_aload_0 (pc := 42) dX6_chance_42 ?_
          refine V_iload_1 (pc := 43) dX6_chance_43 ?_
          refine V_iload_2 (pc := 44) dX6_chance_44 ?_
          refine V_iload_3 (pc := 45) dX6_chance_45 ?_
          refine V_callV3j (pc := 46) dX6_chance_46 kv_X6_429 rc_34 (by omega) (d - 1) (by omega) rfl (c_X6_weightOf (by omega) hM hW (by omega) (by omega) (by omega) (by omega)) (fun v_46 σ_46 h_46 => ?_)
          obtain ⟨rfl, hKw⟩ := h_46
          have hK := (KM.set (σ := σ) (t := 34) (k := 0) (z := 0) (v := 0) (by unfold SCM; omega)).tr hKw
          have hWm : 0 ≤ (WGT B e n y.toNat (fun _ => 0) 0) ∧ (WGT B e n y.toNat (fun _ => 0) 0) ≤ 42000000000 := by
            have h9 := hp8 (by omega)
            refine ⟨hWG.1, Int.le_trans hWG.2 ?_⟩
            split <;> omega
          refine V_ldc2 (pc := 49) dX6_chance_49 (z := 10) ldc_X6_424 ?_
          refine V_iload_2 (pc := 52) dX6_chance_52 ?_
          refine V_callS2j (pc := 53) dX6_chance_53 kv_X6_421 (d - 1) (by omega) rfl (c_powerX (n := y.toNat) (by omega) (by omega) (by omega)) (fun v_53 σ_53 h_53 => ?_)
          obtain ⟨e1, rfl⟩ := h_53
          rw [PW_10] at e1
          have h9 := hp8 (by omega)
          subst e1
          refine V_iload_4 (pc := 56) dX6_chance_56 ?_
          refine V_callS3j (pc := 58) dX6_chance_58 kv_X6_411 (d - 1) (by omega) rfl (c_X6_part (by omega) (by omega) (by omega) (by omega)) (fun v_58 σ_58 h_58 => ?_)
          obtain ⟨rfl, rfl⟩ := h_58
          refine V_l2i (pc := 61) dX6_chance_61 ?_
          refine V_goto (pc := 62) 67 dX6_chance_62 (by decide) ?_
          refine V_iretI (pc := 67) dX6_chance_67 rfl ?_
          first | exact ⟨_, rfl, by unfold q_chance; rw [if_pos (by omega)], (KM.set (σ := σ) (t := 34) (k := 0) (z := 0) (v := 0) (by unfold SCM; omega))⟩ | exact ⟨_, rfl, by unfold q_chance; rw [if_neg (by omega)], hK⟩

set_option maxRecDepth 20000 in
set_option maxHeartbeats 1000000 in
theorem c_X6_mean {d : Nat} (hd : 56 ≤ d) {σ : MM} {B : BK} {y w : Int} (hM : MB σ 0 B) (hG : GB B) (hy : IR y) (hw : IR w) : V yX6_mean cX6_mean 3 (some .long) d (QJ (fun v σ' => v = q_mean B y w ∧ KM σ σ')) 0 [some (vR 34 0), some (vI y), some (vI w)] [] σ := by
  have hW := hG.w
  have hs := hW.s
  have hM0 := hM
  have hWG := WGT_in hW (e := (-1)) (n := 0) y.toNat (fun _ => 0) 0 (fun _ _ => Or.inl rfl)
  have hp8 : y.toNat ≤ 8 → _ := fun q => P10_le y.toNat q
  have hpp := P10_pos y.toNat
  refine V_aload_0 (pc := 0) dX6_mean_0 ?_
  refine V_iconst (pc := 1) dX6_mean_1 ?_
  refine V_puti (pc := 2) dX6_mean_2 gf_X6_74 (by omega) ?_
  have hM := (KM.set (σ := σ) (t := 34) (k := 0) (z := 0) (v := 0) (by unfold SCM; omega)).mb hM
  refine V_aload_0 (pc := 5) dX6_mean_5 ?_
  refine V_iload_1 (pc := 6) dX6_mean_6 ?_
  refine V_callV1p (pc := 7) dX6_mean_7 kv_X6_426 rc_34 (by omega) (d - 1) (by omega) rfl (c_X6_isSoon (by omega) hM hW (by omega)) ?_
  refine V_if_eq_b (pc := 10) 41 dX6_mean_10 (by decide) (fun c_10 => ?_) (fun c_10 => ?_)
  · refine V_ldc2 (pc := 41) dX6_mean_41 (z := -2) ldc_X6_433 ?_
    refine V_lret (pc := 44) dX6_mean_44 rfl ?_
    first | exact ⟨_, rfl, by unfold q_mean; rw [if_pos (by omega)], (KM.set (σ := σ) (t := 34) (k := 0) (z := 0) (v := 0) (by unfold SCM; omega))⟩ | exact ⟨_, rfl, by unfold q_mean; rw [if_neg (by omega)], hK⟩
  · refine V_iload_2 (pc := 13) dX6_mean_13 ?_
    refine V_callS1p (pc := 14) dX6_mean_14 kv_X6_408 (d - 1) (by omega) rfl (c_X6_isHalf (by omega) (by omega)) ?_
    refine V_if_eq_b (pc := 17) 41 dX6_mean_17 (by decide) (fun c_17 => ?_) (fun c_17 => ?_)
    · refine V_ldc2 (pc := 41) dX6_mean_41 (z := -2) ldc_X6_433 ?_
      refine V_lret (pc := 44) dX6_mean_44 rfl ?_
      first | exact ⟨_, rfl, by unfold q_mean; rw [if_pos (by omega)], (KM.set (σ := σ) (t := 34) (k := 0) (z := 0) (v := 0) (by unfold SCM; omega))⟩ | exact ⟨_, rfl, by unfold q_mean; rw [if_neg (by omega)], hK⟩
    · refine V_aload_0 (pc := 20) dX6_mean_20 ?_
      refine V_iconst (pc := 21) dX6_mean_21 ?_
      refine V_iload_1 (pc := 22) dX6_mean_22 ?_
      refine V_iconst (pc := 23) dX6_mean_23 ?_
      refine V_callV3j (pc := 24) dX6_mean_24 kv_X6_429 rc_34 (by omega) (d - 1) (by omega) rfl (c_X6_weightOf (by omega) hM hW (by omega) (by omega) (by omega) (by omega)) (fun v_24 σ_24 h_24 => ?_)
      obtain ⟨rfl, hKw⟩ := h_24
      have hK := (KM.set (σ := σ) (t := 34) (k := 0) (z := 0) (v := 0) (by unfold SCM; omega)).tr hKw
      have hWm : 0 ≤ (WGT B (-1) 0 y.toNat (fun _ => 0) 0) ∧ (WGT B (-1) 0 y.toNat (fun _ => 0) 0) ≤ 42000000000 := by
        have h9 := hp8 (by omega)
        refine ⟨hWG.1, Int.le_trans hWG.2 ?_⟩
        split <;> omega
      refine V_ldc2 (pc := 27) dX6_mean_27 (z := 10) ldc_X6_424 ?_
      refine V_iload_1 (pc := 30) dX6_mean_30 ?_
      refine V_callS2j (pc := 31) dX6_mean_31 kv_X6_421 (d - 1) (by omega) rfl (c_powerX (n := y.toNat) (by omega) (by omega) (by omega)) (fun v_31 σ_31 h_31 => ?_)
      obtain ⟨e1, rfl⟩ := h_31
      rw [PW_10] at e1
      have h9 := hp8 (by omega)
      subst e1
      refine V_iload_2 (pc := 34) dX6_mean_34 ?_
      refine V_callS3j (pc := 35) dX6_mean_35 kv_X6_411 (d - 1) (by omega) rfl (c_X6_part (by omega) (by omega) (by omega) (by omega)) (fun v_35 σ_35 h_35 => ?_)
      obtain ⟨rfl, rfl⟩ := h_35
      refine V_goto (pc := 38) 44 dX6_mean_38 (by decide) ?_
      refine V_lret (pc := 44) dX6_mean_44 rfl ?_
      first | exact ⟨_, rfl, by unfold q_mean; rw [if_pos (by omega)], (KM.set (σ := σ) (t := 34) (k := 0) (z := 0) (v := 0) (by unfold SCM; omega))⟩ | exact ⟨_, rfl, by unfold q_mean; rw [if_neg (by omega)], hK⟩

set_option maxRecDepth 20000 in
set_option maxHeartbeats 1000000 in
theorem c_X6_draws {d : Nat} (hd : 4 ≤ d) {σ : MM} {B : BK} {s : Int} (hM : MB σ 0 B) (hW : WB B) (hs0 : 0 ≤ s ∧ s ≤ 2147483647) : V yX6_draws cX6_draws 6 none d (QZ (fun σ' => LD σ' B B (WET B s) ∧ SHM σ' B B (WET B s) ∧ MB σ' 0 B ∧ KM σ σ')) 0 [some (vR 34 0), some (vL s), none, none, none, none] [] σ := by
  have hs := hW.s
  have hM0 := hM
  have loop : ∀ i : Nat, i ≤ (B 1 0).toNat → ∀ σi : MM, (LD σi B B (bsN (fun i => bI (WTC B s i)) i) ∧ KM σ σi) → V yX6_draws cX6_draws 6 none d (QZ (fun σ' => LD σ' B B (WET B s) ∧ SHM σ' B B (WET B s) ∧ MB σ' 0 B ∧ KM σ σ')) 9 [some (vR 34 0), some (vL s), none, some (vL (LCG s i)), none, some (vI (i : Int))] [] σi := by
    refine up_ind (P := fun i : Nat => ∀ σi : MM, (LD σi B B (bsN (fun i => bI (WTC B s i)) i) ∧ KM σ σi) → V yX6_draws cX6_draws 6 none d (QZ (fun σ' => LD σ' B B (WET B s) ∧ SHM σ' B B (WET B s) ∧ MB σ' 0 B ∧ KM σ σ')) 9 [some (vR 34 0), some (vL s), none, some (vL (LCG s i)), none, some (vI (i : Int))] [] σi) ?_ ?_
    · intro σi hI
      obtain ⟨hL, hK⟩ := hI
      have hM := hK.mb hM0
      refine V_iload_5 (pc := 9) dX6_draws_9 ?_
      refine V_aload_0 (pc := 11) dX6_draws_11 ?_
      refine V_callV0p (pc := 12) dX6_draws_12 kv_X6_243 rc_34 (by omega) (d - 1) (by omega) rfl (c_X6_years (by omega) hM hW) ?_
      refine V_icmp_ge (pc := 15) 75 dX6_draws_15 (by decide) (by omega) (by omega) (fun c_15 => ?_) (fun c_15 => ?_)
      · refine V_aload_0 (pc := 75) dX6_draws_75 ?_
        refine V_callV0z (pc := 76) dX6_draws_76 kv_X6_318 rc_34 (by omega) (d - 1) (by omega) rfl (c_X6_runs (by omega) hM hW hL) (fun σ_76 h_76 => ?_)
        obtain ⟨hS, hR_⟩ := h_76
        have hL := hR_.ld hL
        have hK := hK.tr hR_.km
        have hM := hK.mb hM0
        refine V_vret (pc := 79) dX6_draws_79 rfl ?_
        exact ⟨rfl, hL, hS, hM, hK⟩
      · exact absurd c_15 (by omega)
    · intro i hi ih σi hI
      obtain ⟨hL, hK⟩ := hI
      have hM := hK.mb hM0
      have hx := LCG_in hs0 i
      have hb := bsI_in (fun i => WTC B s i) i
      have hS_ := bsN_S (fun i => bI (WTC B s i)) i
      have hcz := cmpZ_in (((1103515245 * LCG s i + 12345) % 2147483648) / 65536 % 10) (B 3 0)
      have hWT : WTC B s i ↔ ((1103515245 * LCG s i + 12345) % 2147483648) / 65536 % 10 < B 3 0 := Iff.rfl
      have hpi := p2_32 (z := (i : Int)) (by omega)
      have hpe := p2_succ (z := (i : Int)) (by omega)
      have hpe2 := p2_32 (z := (i : Int) + 1) (by omega)
      refine V_iload_5 (pc := 9) dX6_draws_9 ?_
      refine V_aload_0 (pc := 11) dX6_draws_11 ?_
      refine V_callV0p (pc := 12) dX6_draws_12 kv_X6_243 rc_34 (by omega) (d - 1) (by omega) rfl (c_X6_years (by omega) hM hW) ?_
      refine V_icmp_ge (pc := 15) 75 dX6_draws_15 (by decide) (by omega) (by omega) (fun c_15 => ?_) (fun c_15 => ?_)
      · exact absurd c_15 (by omega)
      · refine V_ldc2 (pc := 18) dX6_draws_18 (z := 1103515245) ldc_X6_435 ?_
        refine V_lload_3 (pc := 21) dX6_draws_21 ?_
        refine V_lmul (pc := 22) dX6_draws_22 ?_
        refine V_ldc2 (pc := 23) dX6_draws_23 (z := 12345) ldc_X6_437 ?_
        refine V_ladd (pc := 26) dX6_draws_26 ?_
        refine V_ldc2 (pc := 27) dX6_draws_27 (z := 2147483648) ldc_X6_439 ?_
        refine V_lrem_p (pc := 30) dX6_draws_30 (by omega) (by omega) ?_
        refine V_lstore_3 (pc := 31) dX6_draws_31 ?_
        refine V_aload_0 (pc := 32) dX6_draws_32 ?_
        refine V_dup (pc := 33) dX6_draws_33 rfl ?_
        refine V_geti (pc := 34) dX6_draws_34 gf_X6_255 (by omega) hL.wet.1 ?_
        refine V_lload_3 (pc := 37) dX6_draws_37 ?_
        refine V_ldc2 (pc := 38) dX6_draws_38 (z := 65536) ldc_X6_441 ?_
        refine V_ldiv_p (pc := 41) dX6_draws_41 (by omega) (by omega) ?_
        refine V_ldc2 (pc := 42) dX6_draws_42 (z := 10) ldc_X6_424 ?_
        refine V_lrem_p (pc := 45) dX6_draws_45 (by omega) (by omega) ?_
        refine V_aload_0 (pc := 46) dX6_draws_46 ?_
        refine V_getc (pc := 47) dX6_draws_47 gf_X6_34 (by omega) ?_
        refine V_iconst (pc := 50) dX6_draws_50 ?_
        refine V_iald (pc := 51) dX6_draws_51 sh_41 (by omega) (by omega) hM.h2 ?_
        refine V_i2l (pc := 52) dX6_draws_52 (by omega) ?_
        refine V_lcmp (pc := 53) dX6_draws_53 (by omega) (by omega) ?_
        refine V_if_ge (pc := 54) 64 dX6_draws_54 (by decide) (by omega) (fun c_54 => ?_) (fun c_54 => ?_)
        · refine V_iconst (pc := 64) dX6_draws_64 ?_
          first
            | refine V_ior_add (pc := 65) dX6_draws_65 (by assumption) ?_
            | refine V_ior_0 (pc := 65) dX6_draws_65 ?_
          refine V_puti (pc := 66) dX6_draws_66 gf_X6_255 (by omega) ?_
          refine V_iinc_5 (pc := 69) dX6_draws_69 ?_
          refine V_goto (pc := 72) 9 dX6_draws_72 (by decide) ?_
          first | (refine V.sub (by simp only [subL, Option.some.injEq, Sum.inl.injEq, reduceCtorEq, true_or, or_true, false_or, true_and, and_true]; exact ⟨rfl, by omega⟩) (ih _ ⟨?_, hK.tr (KM.set (t := 34) (k := 0) (by unfold SCM; omega))⟩); first | (rw [hS_, bI_t (hWT.mpr (by omega)), Int.one_mul]; exact hL.p_wet (by omega)) | (rw [hS_, bI_f (fun q => absurd (hWT.mp q) (by omega)), Int.zero_mul, Int.add_zero]; exact hL.p_wet (by omega)))
        · refine V_iconst (pc := 57) dX6_draws_57 ?_
          refine V_iload_5 (pc := 58) dX6_draws_58 ?_
          refine V_ishl_1 (pc := 60) dX6_draws_60 (by omega) ?_
          refine V_goto (pc := 61) 65 dX6_draws_61 (by decide) ?_
          first
            | refine V_ior_add (pc := 65) dX6_draws_65 (by assumption) ?_
            | refine V_ior_0 (pc := 65) dX6_draws_65 ?_
          refine V_puti (pc := 66) dX6_draws_66 gf_X6_255 (by omega) ?_
          refine V_iinc_5 (pc := 69) dX6_draws_69 ?_
          refine V_goto (pc := 72) 9 dX6_draws_72 (by decide) ?_
          first | (refine V.sub (by simp only [subL, Option.some.injEq, Sum.inl.injEq, reduceCtorEq, true_or, or_true, false_or, true_and, and_true]; exact ⟨rfl, by omega⟩) (ih _ ⟨?_, hK.tr (KM.set (t := 34) (k := 0) (by unfold SCM; omega))⟩); first | (rw [hS_, bI_t (hWT.mpr (by omega)), Int.one_mul]; exact hL.p_wet (by omega)) | (rw [hS_, bI_f (fun q => absurd (hWT.mp q) (by omega)), Int.zero_mul, Int.add_zero]; exact hL.p_wet (by omega)))
  refine V_aload_0 (pc := 0) dX6_draws_0 ?_
  refine V_callV0z (pc := 1) dX6_draws_1 kv_X6_315 rc_34 (by omega) (d - 1) (by omega) rfl (c_X6_lays (by omega) hM hW) (fun σ_1 h_1 => ?_)
  obtain ⟨hL, hK⟩ := h_1
  have hM := hK.mb hM0
  refine V_lload_1 (pc := 4) dX6_draws_4 ?_
  refine V_lstore_3 (pc := 5) dX6_draws_5 ?_
  refine V_iconst (pc := 6) dX6_draws_6 ?_
  refine V_istore_5 (pc := 7) dX6_draws_7 ?_
  exact loop 0 (by omega) _ ⟨hL, hK⟩

set_option maxRecDepth 20000 in
set_option maxHeartbeats 1000000 in
theorem c_X6_drawn {d : Nat} (hd : 5 ≤ d) {σ : MM} {B : BK} {s w : Int} (hM : MB σ 0 B) (hG : GB B) (hs0 : IR s) (hw : IR w) : V yX6_drawn cX6_drawn 3 (some .int) d (QI (fun v σ' => v = q_drawn B s w ∧ KM σ σ')) 0 [some (vR 34 0), some (vI s), some (vI w)] [] σ := by
  have hW := hG.w
  have hs := hW.s
  have hM0 := hM
  refine V_aload_0 (pc := 0) dX6_drawn_0 ?_
  refine V_iconst (pc := 1) dX6_drawn_1 ?_
  refine V_puti (pc := 2) dX6_drawn_2 gf_X6_74 (by omega) ?_
  have hM := (KM.set (σ := σ) (t := 34) (k := 0) (z := 0) (v := 0) (by unfold SCM; omega)).mb hM
  refine V_aload_0 (pc := 5) dX6_drawn_5 ?_
  refine V_callV0p (pc := 6) dX6_drawn_6 kv_X6_240 rc_34 (by omega) (d - 1) (by omega) rfl (c_X6_isBook (by omega) hM hW) ?_
  refine V_if_eq_b (pc := 9) 26 dX6_drawn_9 (by decide) (fun c_9 => ?_) (fun c_9 => ?_)
  · refine V_bipush (pc := 26) dX6_drawn_26 (by decide) ?_
    refine V_iretI (pc := 28) dX6_drawn_28 rfl ?_
    first | exact ⟨_, rfl, by unfold q_drawn; rw [if_pos (by omega)], (KM.set (σ := σ) (t := 34) (k := 0) (z := 0) (v := 0) (by unfold SCM; omega))⟩ | exact ⟨_, rfl, by unfold q_drawn; rw [if_neg (by omega), if_pos (by omega)], hK⟩ | exact ⟨_, rfl, by unfold q_drawn; rw [if_neg (by omega), if_neg (by omega)], hK⟩
  · refine V_iload_1 (pc := 12) dX6_drawn_12 ?_
    refine V_callS1p (pc := 13) dX6_drawn_13 kv_X6_445 (d - 1) (by omega) rfl (c_X6_isSeed (by omega) (by omega)) ?_
    refine V_if_eq_b (pc := 16) 26 dX6_drawn_16 (by decide) (fun c_16 => ?_) (fun c_16 => ?_)
    · refine V_bipush (pc := 26) dX6_drawn_26 (by decide) ?_
      refine V_iretI (pc := 28) dX6_drawn_28 rfl ?_
      first | exact ⟨_, rfl, by unfold q_drawn; rw [if_pos (by omega)], (KM.set (σ := σ) (t := 34) (k := 0) (z := 0) (v := 0) (by unfold SCM; omega))⟩ | exact ⟨_, rfl, by unfold q_drawn; rw [if_neg (by omega), if_pos (by omega)], hK⟩ | exact ⟨_, rfl, by unfold q_drawn; rw [if_neg (by omega), if_neg (by omega)], hK⟩
    · refine V_iload_2 (pc := 19) dX6_drawn_19 ?_
      refine V_callS1p (pc := 20) dX6_drawn_20 kv_X6_408 (d - 1) (by omega) rfl (c_X6_isHalf (by omega) (by omega)) ?_
      refine V_if_ne_b (pc := 23) 29 dX6_drawn_23 (by decide) (fun c_23 => ?_) (fun c_23 => ?_)
      · refine V_aload_0 (pc := 29) dX6_drawn_29 ?_
        refine V_iload_1 (pc := 30) dX6_drawn_30 ?_
        refine V_i2l (pc := 31) dX6_drawn_31 (by omega) ?_
        refine V_callV1z (pc := 32) dX6_drawn_32 kv_X6_448 rc_34 (by omega) (d - 1) (by omega) rfl (c_X6_draws (by omega) hM hW (by omega)) (fun σ_32 h_32 => ?_)
        obtain ⟨hL, hS, hM, hKd⟩ := h_32
        have hK := (KM.set (σ := σ) (t := 34) (k := 0) (z := 0) (v := 0) (by unfold SCM; omega)).tr hKd
        refine V_iload_2 (pc := 35) dX6_drawn_35 ?_
        refine V_if_ne (pc := 36) 46 dX6_drawn_36 (by decide) (by omega) (fun c_36 => ?_) (fun c_36 => ?_)
        · refine V_aload_0 (pc := 46) dX6_drawn_46 ?_
          refine V_aload_0 (pc := 47) dX6_drawn_47 ?_
          refine V_callV0p (pc := 48) dX6_drawn_48 kv_X6_243 rc_34 (by omega) (d - 1) (by omega) rfl (c_X6_years (by omega) hM hW) ?_
          refine V_callV1p (pc := 51) dX6_drawn_51 kv_X6_343 rc_34 (by omega) (d - 1) (by omega) rfl (c_X6_clearAt (by omega) hM hW hL hS (by omega)) ?_
          refine V_iretI (pc := 54) dX6_drawn_54 rfl ?_
          first | exact ⟨_, rfl, by unfold q_drawn; rw [if_pos (by omega)], (KM.set (σ := σ) (t := 34) (k := 0) (z := 0) (v := 0) (by unfold SCM; omega))⟩ | exact ⟨_, rfl, by unfold q_drawn; rw [if_neg (by omega), if_pos (by omega)], hK⟩ | exact ⟨_, rfl, by unfold q_drawn; rw [if_neg (by omega), if_neg (by omega)], hK⟩
        · refine V_aload_0 (pc := 39) dX6_drawn_39 ?_
          refine V_geti (pc := 40) dX6_drawn_40 gf_X6_255 (by omega) hL.wet.1 ?_
          refine V_goto (pc := 43) 54 dX6_drawn_43 (by decide) ?_
          refine V_iretI (pc := 54) dX6_drawn_54 rfl ?_
          first | exact ⟨_, rfl, by unfold q_drawn; rw [if_pos (by omega)], (KM.set (σ := σ) (t := 34) (k := 0) (z := 0) (v := 0) (by unfold SCM; omega))⟩ | exact ⟨_, rfl, by unfold q_drawn; rw [if_neg (by omega), if_pos (by omega)], hK⟩ | exact ⟨_, rfl, by unfold q_drawn; rw [if_neg (by omega), if_neg (by omega)], hK⟩
      · refine V_bipush (pc := 26) dX6_drawn_26 (by decide) ?_
        refine V_iretI (pc := 28) dX6_drawn_28 rfl ?_
        first | exact ⟨_, rfl, by unfold q_drawn; rw [if_pos (by omega)], (KM.set (σ := σ) (t := 34) (k := 0) (z := 0) (v := 0) (by unfold SCM; omega))⟩ | exact ⟨_, rfl, by unfold q_drawn; rw [if_neg (by omega), if_pos (by omega)], hK⟩ | exact ⟨_, rfl, by unfold q_drawn; rw [if_neg (by omega), if_neg (by omega)], hK⟩

set_option maxRecDepth 20000 in
set_option maxHeartbeats 1000000 in
theorem c_X6_luck {d : Nat} (hd : 5 ≤ d) {σ : MM} {B : BK} {s n e : Int} (hM : MB σ 0 B) (hG : GB B) (hs : IR s) (hn : IR n) (he : IR e) : V yX6_luck cX6_luck 6 (some .int) d (QI (fun v σ' => v = q_luck B s n e ∧ KM σ σ')) 0 [some (vR 34 0), some (vI s), some (vI n), some (vI e), none, none] [] σ := by
  have hW := hG.w
  have hs := hW.s
  have hM0 := hM
  have loop : (¬ ((e < 0 ∨ B 6 0 ≤ e) ∨ (s < 0 ∨ 2000000000 < s) ∨ (n < 1 ∨ 20 < n))) → ∀ i : Nat, i ≤ n.toNat → ∀ σi : MM, (KM σ σi) → V yX6_luck cX6_luck 6 (some .int) d (QI (fun v σ' => v = q_luck B s n e ∧ KM σ σ')) 42 [some (vR 34 0), some (vI s), some (vI n), some (vI e), some (vI (sumN (fun i => bI (5 ≤ SHD B (bt (WET B (s + i))) (B 1 0) e)) i)), some (vI (i : Int))] [] σi := by
    intro hR
    refine up_ind (P := fun i : Nat => ∀ σi : MM, (KM σ σi) → V yX6_luck cX6_luck 6 (some .int) d (QI (fun v σ' => v = q_luck B s n e ∧ KM σ σ')) 42 [some (vR 34 0), some (vI s), some (vI n), some (vI e), some (vI (sumN (fun i => bI (5 ≤ SHD B (bt (WET B (s + i))) (B 1 0) e)) i)), some (vI (i : Int))] [] σi) ?_ ?_
    · intro σi hI
      have hK := hI
      have hM := hK.mb hM0
      refine V_iload_5 (pc := 42) dX6_luck_42 ?_
      refine V_iload_2 (pc := 44) dX6_luck_44 ?_
      refine V_icmp_ge (pc := 45) 83 dX6_luck_45 (by decide) (by omega) (by omega) (fun c_45 => ?_) (fun c_45 => ?_)
      · refine V_iload_4 (pc := 83) dX6_luck_83 ?_
        refine V_iretI (pc := 85) dX6_luck_85 rfl ?_
        exact ⟨_, rfl, by unfold q_luck; rw [if_neg (by omega)], hK⟩
      · exact absurd c_45 (by omega)
    · intro i hi ih σi hI
      have hK := hI
      have hM := hK.mb hM0
      have hsh := SHD_in (r := WET B (s + i)) (y := B 1 0) hW (e := e) (by omega)
      have hb := suI_in (fun i => 5 ≤ SHD B (bt (WET B (s + i))) (B 1 0) e) i
      have hS_ := sumN_S (fun i => bI (5 ≤ SHD B (bt (WET B (s + i))) (B 1 0) e)) i
      refine V_iload_5 (pc := 42) dX6_luck_42 ?_
      refine V_iload_2 (pc := 44) dX6_luck_44 ?_
      refine V_icmp_ge (pc := 45) 83 dX6_luck_45 (by decide) (by omega) (by omega) (fun c_45 => ?_) (fun c_45 => ?_)
      · exact absurd c_45 (by omega)
      · refine V_aload_0 (pc := 48) dX6_luck_48 ?_
        refine V_iload_1 (pc := 49) dX6_luck_49 ?_
        refine V_i2l (pc := 50) dX6_luck_50 (by omega) ?_
        refine V_iload_5 (pc := 51) dX6_luck_51 ?_
        refine V_i2l (pc := 53) dX6_luck_53 (by omega) ?_
        refine V_ladd (pc := 54) dX6_luck_54 ?_
        refine V_callV1z (pc := 55) dX6_luck_55 kv_X6_448 rc_34 (by omega) (d - 1) (by omega) rfl (c_X6_draws (by omega) hM hW (by omega)) (fun σ_55 h_55 => ?_)
        obtain ⟨hL, hS, hM, hKd⟩ := h_55
        have hK := hK.tr hKd
        refine V_iload_4 (pc := 58) dX6_luck_58 ?_
        refine V_aload_0 (pc := 60) dX6_luck_60 ?_
        refine V_iload_3 (pc := 61) dX6_luck_61 ?_
        refine V_callV1p (pc := 62) dX6_luck_62 kv_X6_398 rc_34 (by omega) (d - 1) (by omega) rfl (c_X6_lastOf (by omega) hM hW hL hS (by omega)) ?_
        refine V_iconst (pc := 65) dX6_luck_65 ?_
        refine V_icmp_lt (pc := 66) 73 dX6_luck_66 (by decide) (by omega) (by omega) (fun c_66 => ?_) (fun c_66 => ?_)
        · refine V_iconst (pc := 73) dX6_luck_73 ?_
          refine V_iadd (pc := 74) dX6_luck_74 ?_
          refine V_istore_4 (pc := 75) dX6_luck_75 ?_
          refine V_iinc_5 (pc := 77) dX6_luck_77 ?_
          refine V_goto (pc := 80) 42 dX6_luck_80 (by decide) ?_
          refine V.sub (by simp only [subL, Option.some.injEq, Sum.inl.injEq, Sum.inr.injEq, reduceCtorEq, true_or, or_true, false_or, true_and, and_true]; first | (rw [hS_, bI_t (by omega)]; refine ⟨by omega, by omega⟩) | (rw [hS_, bI_f (by omega)]; refine ⟨by omega, by omega⟩)) (ih _ hK)
        · refine V_iconst (pc := 69) dX6_luck_69 ?_
          refine V_goto (pc := 70) 74 dX6_luck_70 (by decide) ?_
          refine V_iadd (pc := 74) dX6_luck_74 ?_
          refine V_istore_4 (pc := 75) dX6_luck_75 ?_
          refine V_iinc_5 (pc := 77) dX6_luck_77 ?_
          refine V_goto (pc := 80) 42 dX6_luck_80 (by decide) ?_
          refine V.sub (by simp only [subL, Option.some.injEq, Sum.inl.injEq, Sum.inr.injEq, reduceCtorEq, true_or, or_true, false_or, true_and, and_true]; first | (rw [hS_, bI_t (by omega)]; refine ⟨by omega, by omega⟩) | (rw [hS_, bI_f (by omega)]; refine ⟨by omega, by omega⟩)) (ih _ hK)
  refine V_aload_0 (pc := 0) dX6_luck_0 ?_
  refine V_iconst (pc := 1) dX6_luck_1 ?_
  refine V_puti (pc := 2) dX6_luck_2 gf_X6_74 (by omega) ?_
  have hM := (KM.set (σ := σ) (t := 34) (k := 0) (z := 0) (v := 0) (by unfold SCM; omega)).mb hM
  refine V_iload_1 (pc := 5) dX6_luck_5 ?_
  refine V_callS1p (pc := 6) dX6_luck_6 kv_X6_445 (d - 1) (by omega) rfl (c_X6_isSeed (by omega) (by omega)) ?_
  refine V_if_eq_b (pc := 9) 33 dX6_luck_9 (by decide) (fun c_9 => ?_) (fun c_9 => ?_)
  · refine V_bipush (pc := 33) dX6_luck_33 (by decide) ?_
    refine V_iretI (pc := 35) dX6_luck_35 rfl ?_
    exact ⟨_, rfl, by unfold q_luck; rw [if_pos (by omega)], (KM.set (σ := σ) (t := 34) (k := 0) (z := 0) (v := 0) (by unfold SCM; omega))⟩
  · refine V_iload_2 (pc := 12) dX6_luck_12 ?_
    refine V_i2l (pc := 13) dX6_luck_13 (by omega) ?_
    refine V_lconst (pc := 14) dX6_luck_14 (z := 1) rfl ?_
    refine V_ldc2 (pc := 15) dX6_luck_15 (z := 20) ldc_X6_396 ?_
    refine V_callS3p (pc := 18) dX6_luck_18 kv_X6_79 (d - 1) (by omega) rfl (c_X6_in (by omega) (by omega) (by omega) (by omega)) ?_
    refine V_if_eq_b (pc := 21) 33 dX6_luck_21 (by decide) (fun c_21 => ?_) (fun c_21 => ?_)
    · refine V_bipush (pc := 33) dX6_luck_33 (by decide) ?_
      refine V_iretI (pc := 35) dX6_luck_35 rfl ?_
      exact ⟨_, rfl, by unfold q_luck; rw [if_pos (by omega)], (KM.set (σ := σ) (t := 34) (k := 0) (z := 0) (v := 0) (by unfold SCM; omega))⟩
    · refine V_aload_0 (pc := 24) dX6_luck_24 ?_
      refine V_iload_3 (pc := 25) dX6_luck_25 ?_
      refine V_i2l (pc := 26) dX6_luck_26 (by omega) ?_
      refine V_callV1p (pc := 27) dX6_luck_27 kv_X6_246 rc_34 (by omega) (d - 1) (by omega) rfl (c_X6_isEntry (by omega) hM hW (by omega)) ?_
      refine V_if_ne_b (pc := 30) 36 dX6_luck_30 (by decide) (fun c_30 => ?_) (fun c_30 => ?_)
      · refine V_iconst (pc := 36) dX6_luck_36 ?_
        refine V_istore_4 (pc := 37) dX6_luck_37 ?_
        refine V_iconst (pc := 39) dX6_luck_39 ?_
        refine V_istore_5 (pc := 40) dX6_luck_40 ?_
        exact loop (by omega) 0 (by omega) _ (KM.set (σ := σ) (t := 34) (k := 0) (z := 0) (v := 0) (by unfold SCM; omega))
      · refine V_bipush (pc := 33) dX6_luck_33 (by decide) ?_
        refine V_iretI (pc := 35) dX6_luck_35 rfl ?_
        exact ⟨_, rfl, by unfold q_luck; rw [if_pos (by omega)], (KM.set (σ := σ) (t := 34) (k := 0) (z := 0) (v := 0) (by unfold SCM; omega))⟩
