theorem bw_shl8 {w : Int} (hw : 0 ≤ w ∧ w ≤ 3) : iN 8 <<< (iN w &&& 31) = iN (8 * p2 w) := by
  have h : w = 0 ∨ w = 1 ∨ w = 2 ∨ w = 3 := by omega
  rcases h with rfl | rfl | rfl | rfl <;> decide +kernel
def CUT (w v : Int) : Int := if w = 0 then b8 v else if w = 1 then b16 v else if w = 2 then v.bmod 4294967296 else v
theorem bw_cut {w v : Int} (hw : 0 ≤ w ∧ w ≤ 3) (hv : LR v) : lI (lI v <<< ((iN (64 - 8 * p2 w)).toInt64 &&& 63)).toInt >>> ((iN (64 - 8 * p2 w)).toInt64 &&& 63) = lI (CUT w v) := by
  rw [lI_self]
  have h : w = 0 ∨ w = 1 ∨ w = 2 ∨ w = 3 := by omega
  rcases h with rfl | rfl | rfl | rfl
  · exact lsh_cut 56 8 _ rfl (by decide) (by decide +kernel) v
  · exact lsh_cut 48 16 _ rfl (by decide) (by decide +kernel) v
  · exact lsh_cut 32 32 _ rfl (by decide) (by decide +kernel) v
  · rw [lsh_cut 0 64 _ rfl (by decide) (by decide +kernel) v]
    have e : v.bmod (2 ^ 64) = v := by
      have h64 : (2 ^ 64 : Nat) = 18446744073709551616 := rfl
      have := hv.1
      have := hv.2
      rw [h64]
      unfold Int.bmod
      dsimp only
      split <;> omega
    rw [e]
    rfl
/-- a slot that begins -/
def BEG (σ σ' : MM) (k w n : Int) : Prop := (σ' 27 k 1 = 1 ∧ σ' 27 k 2 = w ∧ σ' 27 k 3 = n) ∧ (∀ i : Int, 0 ≤ i ∧ i < 60 → σ' 28 k i = 0) ∧ ∀ (t : Nat) (k' z : Int), ¬ (t = 27 ∧ k' = k) → ¬ (t = 28 ∧ k' = k) → σ' t k' z = σ t k' z

set_option maxRecDepth 20000 in
set_option maxHeartbeats 1000000 in
theorem c_X4_keep {d : Nat} (hd : 0 ≤ d) {σ : MM} {k i v w : Int} (hk : 0 ≤ k ∧ k < 4) (hi : 0 ≤ i ∧ i < 60) (hw : 0 ≤ w ∧ w ≤ 3) (hs : σ 27 k 2 = w) (hv : LR v) : V yX4_keep cX4_keep 5 none d (QZ (fun σ' => σ' = setI σ 28 k i (CUT w v))) 0 [some (vR 27 k), some (vI i), some (vL v), none, none] [] σ := by
  refine V_bipush (pc := 0) dX4_keep_0 (by decide) ?_
  refine V_bipush (pc := 2) dX4_keep_2 (by decide) ?_
  refine V_aload_0 (pc := 4) dX4_keep_4 ?_
  refine V_geti (pc := 5) dX4_keep_5 gf_X4_19 (by omega) hs ?_
  refine V_ishl (pc := 8) dX4_keep_8 (bw_shl8 hw) ?_
  refine V_isub (pc := 9) dX4_keep_9 ?_
  refine V_istore_4 (pc := 10) dX4_keep_10 ?_
  refine V_aload_0 (pc := 12) dX4_keep_12 ?_
  refine V_gets (pc := 13) dX4_keep_13 gf_X4_9 (by omega) ?_
  refine V_iload_1 (pc := 16) dX4_keep_16 ?_
  refine V_lload_2 (pc := 17) dX4_keep_17 ?_
  refine V_iload_4 (pc := 18) dX4_keep_18 ?_
  refine V_lshl (pc := 20) dX4_keep_20 (lI_self _).symm ?_
  refine V_iload_4 (pc := 21) dX4_keep_21 ?_
  refine V_lshr (pc := 23) dX4_keep_23 (bw_cut hw hv) ?_
  refine V_jast (pc := 24) dX4_keep_24 sh_28 (by omega) (by omega) ?_
  refine V_vret (pc := 25) dX4_keep_25 rfl ?_
  exact ⟨rfl, rfl⟩

set_option maxRecDepth 20000 in
set_option maxHeartbeats 1000000 in
theorem c_X4_holds {d : Nat} (hd : 0 ≤ d) {σ : MM} {k i n s : Int} (hk : 0 ≤ k ∧ k < 4) (hs : σ 27 k 3 = s) (hs1 : 0 ≤ s ∧ s ≤ 60) (hi : IR i) (hn : IR n) : V yX4_holds cX4_holds 3 (some .boolean) d (QI (fun v σ' => v = bI (0 ≤ i ∧ 0 ≤ n ∧ i + n ≤ s) ∧ σ' = σ)) 0 [some (vR 27 k), some (vI i), some (vI n)] [] σ := by
  refine V_iload_1 (pc := 0) dX4_holds_0 ?_
  refine V_if_lt (pc := 1) 30 dX4_holds_1 (by decide) (by omega) (fun c_1 => ?_) (fun c_1 => ?_)
  · refine V_iconst (pc := 30) dX4_holds_30 ?_
    refine V_iretZ (pc := 31) dX4_holds_31 rfl (by omega) ?_
    exact ⟨_, rfl, by first | exact (bI_t (by omega)).symm | exact (bI_f (by omega)).symm, rfl⟩
  · refine V_iload_2 (pc := 4) dX4_holds_4 ?_
    refine V_if_lt (pc := 5) 30 dX4_holds_5 (by decide) (by omega) (fun c_5 => ?_) (fun c_5 => ?_)
    · refine V_iconst (pc := 30) dX4_holds_30 ?_
      refine V_iretZ (pc := 31) dX4_holds_31 rfl (by omega) ?_
      exact ⟨_, rfl, by first | exact (bI_t (by omega)).symm | exact (bI_f (by omega)).symm, rfl⟩
    · refine V_iload_1 (pc := 8) dX4_holds_8 ?_
      refine V_aload_0 (pc := 9) dX4_holds_9 ?_
      refine V_geti (pc := 10) dX4_holds_10 gf_X4_23 (by omega) hs ?_
      refine V_icmp_gt (pc := 13) 30 dX4_holds_13 (by decide) (by omega) (by omega) (fun c_13 => ?_) (fun c_13 => ?_)
      · refine V_iconst (pc := 30) dX4_holds_30 ?_
        refine V_iretZ (pc := 31) dX4_holds_31 rfl (by omega) ?_
        exact ⟨_, rfl, by first | exact (bI_t (by omega)).symm | exact (bI_f (by omega)).symm, rfl⟩
      · refine V_iload_2 (pc := 16) dX4_holds_16 ?_
        refine V_aload_0 (pc := 17) dX4_holds_17 ?_
        refine V_geti (pc := 18) dX4_holds_18 gf_X4_23 (by omega) hs ?_
        refine V_iload_1 (pc := 21) dX4_holds_21 ?_
        refine V_isub (pc := 22) dX4_holds_22 ?_
        refine V_icmp_gt (pc := 23) 30 dX4_holds_23 (by decide) (by omega) (by omega) (fun c_23 => ?_) (fun c_23 => ?_)
        · refine V_iconst (pc := 30) dX4_holds_30 ?_
          refine V_iretZ (pc := 31) dX4_holds_31 rfl (by omega) ?_
          exact ⟨_, rfl, by first | exact (bI_t (by omega)).symm | exact (bI_f (by omega)).symm, rfl⟩
        · refine V_iconst (pc := 26) dX4_holds_26 ?_
          refine V_goto (pc := 27) 31 dX4_holds_27 (by decide) ?_
          refine V_iretZ (pc := 31) dX4_holds_31 rfl (by omega) ?_
          exact ⟨_, rfl, by first | exact (bI_t (by omega)).symm | exact (bI_f (by omega)).symm, rfl⟩

set_option maxRecDepth 20000 in
set_option maxHeartbeats 1000000 in
theorem c_X4_begin {d : Nat} (hd : 0 ≤ d) {σ : MM} {k w n : Int} (hk : 0 ≤ k ∧ k < 4) : V yX4_begin cX4_begin 4 none d (QZ (fun σ' => BEG σ σ' k w n)) 0 [some (vR 27 k), some (vI w), some (vI n), none] [] σ := by
  have loop : ∀ i : Nat, i ≤ 60 → ∀ σi : MM, ((σi 27 k 1 = 1 ∧ σi 27 k 2 = w ∧ σi 27 k 3 = n) ∧ (∀ x : Int, 0 ≤ x ∧ x < i → σi 28 k x = 0) ∧ ∀ (t : Nat) (k' z : Int), ¬ (t = 27 ∧ k' = k) → ¬ (t = 28 ∧ k' = k) → σi t k' z = σ t k' z) → V yX4_begin cX4_begin 4 none d (QZ (fun σ' => BEG σ σ' k w n)) 17 [some (vR 27 k), some (vI w), some (vI n), some (vI (i : Int))] [] σi := by
    refine up_ind (P := fun i : Nat => ∀ σi : MM, ((σi 27 k 1 = 1 ∧ σi 27 k 2 = w ∧ σi 27 k 3 = n) ∧ (∀ x : Int, 0 ≤ x ∧ x < i → σi 28 k x = 0) ∧ ∀ (t : Nat) (k' z : Int), ¬ (t = 27 ∧ k' = k) → ¬ (t = 28 ∧ k' = k) → σi t k' z = σ t k' z) → V yX4_begin cX4_begin 4 none d (QZ (fun σ' => BEG σ σ' k w n)) 17 [some (vR 27 k), some (vI w), some (vI n), some (vI (i : Int))] [] σi) ?_ ?_
    · intro σi hI
      refine V_iload_3 (pc := 17) dX4_begin_17 ?_
      refine V_bipush (pc := 18) dX4_begin_18 (by decide) ?_
      refine V_icmp_ge (pc := 20) 36 dX4_begin_20 (by decide) (by omega) (by omega) (fun c_20 => ?_) (fun c_20 => ?_)
      · refine V_vret (pc := 36) dX4_begin_36 rfl ?_
        exact ⟨rfl, hI.1, fun x hx => hI.2.1 x (by omega), hI.2.2⟩
      · exact absurd c_20 (by omega)
    · intro i hi ih σi hI
      refine V_iload_3 (pc := 17) dX4_begin_17 ?_
      refine V_bipush (pc := 18) dX4_begin_18 (by decide) ?_
      refine V_icmp_ge (pc := 20) 36 dX4_begin_20 (by decide) (by omega) (by omega) (fun c_20 => ?_) (fun c_20 => ?_)
      · exact absurd c_20 (by omega)
      · refine V_aload_0 (pc := 23) dX4_begin_23 ?_
        refine V_gets (pc := 24) dX4_begin_24 gf_X4_9 (by omega) ?_
        refine V_iload_3 (pc := 27) dX4_begin_27 ?_
        refine V_lconst (pc := 28) dX4_begin_28 (z := 0) rfl ?_
        refine V_jast (pc := 29) dX4_begin_29 sh_28 (by omega) (by omega) ?_
        refine V_iinc_3 (pc := 30) dX4_begin_30 ?_
        refine V_goto (pc := 33) 17 dX4_begin_33 (by decide) ?_
        refine V.sub (by simp only [subL, Option.some.injEq, Sum.inl.injEq, reduceCtorEq, true_or, or_true, false_or, true_and, and_true]; omega) (ih _ ⟨by simp [setI_at, hI.1], fun x hx => ?_, fun t k' z g1 g2 => ?_⟩)
        · by_cases q : x = i
          · subst q; simp [setI_at]
          · simp only [setI_at, q, and_false, if_false]; exact hI.2.1 x (by omega)
        · have g3 : ¬ (t = 28 ∧ k' = k ∧ z = i) := fun q => g2 ⟨q.1, q.2.1⟩
          simp only [setI_at, g3, if_false]; exact hI.2.2 t k' z g1 g2
  refine V_aload_0 (pc := 0) dX4_begin_0 ?_
  refine V_iconst (pc := 1) dX4_begin_1 ?_
  refine V_putz (pc := 2) dX4_begin_2 gf_X4_15 (by omega) (by omega) ?_
  refine V_aload_0 (pc := 5) dX4_begin_5 ?_
  refine V_iload_1 (pc := 6) dX4_begin_6 ?_
  refine V_puti (pc := 7) dX4_begin_7 gf_X4_19 (by omega) ?_
  refine V_aload_0 (pc := 10) dX4_begin_10 ?_
  refine V_iload_2 (pc := 11) dX4_begin_11 ?_
  refine V_puti (pc := 12) dX4_begin_12 gf_X4_23 (by omega) ?_
  refine V_iconst (pc := 15) dX4_begin_15 ?_
  refine V_istore_3 (pc := 16) dX4_begin_16 ?_
  exact loop 0 (by omega) _ ⟨by simp [setI_at], fun x hx => by omega, fun t k' z g1 g2 => by
    have g3 : ∀ x : Int, ¬ (t = 27 ∧ k' = k ∧ z = x) := fun x q => g1 ⟨q.1, q.2.1⟩
    simp only [setI_at, g3, if_false]⟩

set_option maxRecDepth 20000 in
set_option maxHeartbeats 1000000 in
theorem c_X5_isSound {d : Nat} (hd : 0 ≤ d) {σ : MM} {B : BK} {Z : Nat → Int → Int → Int} {k : Int} (hB : CB σ 1 B) (hW : WB B)(hZ : ZR σ Z) (hk : 0 ≤ k ∧ k < 4) (h1 : Z 0 k 0 = 1) : V yX5_isSound cX5_isSound 3 (some .boolean) d (QI (fun v σ' => v = bI (SND B Z k) ∧ σ' = σ)) 0 [some (vR 0 0), some (vR 27 k), none] [] σ := by
  have hs := hW.s
  obtain ⟨z0, -, z1⟩ := hZ k hk
  obtain ⟨⟨w0, w1⟩, ⟨n0, n1⟩, zc⟩ := z1 h1
  have loop : (Z 2 k 0 % 3 = 0) → ∀ i : Nat, i ≤ (Z 2 k 0 / 3).toNat → (∀ x : Int, 0 ≤ x ∧ x < (i : Int) → ¬ BAD B (Z 3 k) x) → V yX5_isSound cX5_isSound 3 (some .boolean) d (QI (fun v σ' => v = bI (SND B Z k) ∧ σ' = σ)) 13 [some (vR 0 0), some (vR 27 k), some (vI (3 * (i : Int)))] [] σ := by
    intro hR
    refine up_ind (P := fun i : Nat => (∀ x : Int, 0 ≤ x ∧ x < (i : Int) → ¬ BAD B (Z 3 k) x) → V yX5_isSound cX5_isSound 3 (some .boolean) d (QI (fun v σ' => v = bI (SND B Z k) ∧ σ' = σ)) 13 [some (vR 0 0), some (vR 27 k), some (vI (3 * (i : Int)))] [] σ) ?_ ?_
    · intro hI
      refine V_iload_2 (pc := 13) dX5_isSound_13 ?_
      refine V_iconst (pc := 14) dX5_isSound_14 ?_
      refine V_iadd (pc := 15) dX5_isSound_15 ?_
      refine V_aload_1 (pc := 16) dX5_isSound_16 ?_
      refine V_geti (pc := 17) dX5_isSound_17 gf_X5_328 (by omega) n0 ?_
      refine V_icmp_ge (pc := 20) 121 dX5_isSound_20 (by decide) (by omega) (by omega) (fun c_20 => ?_) (fun c_20 => ?_)
      · refine V_iconst (pc := 121) dX5_isSound_121 ?_
        refine V_iretZ (pc := 122) dX5_isSound_122 rfl (by omega) ?_
        exact ⟨_, rfl, (bI_t ⟨hR, fst_m1.mpr (fun x hx => hI x (by omega))⟩).symm, rfl⟩
      · exact absurd c_20 (by omega)
    · intro i hi ih hI
      have d0 := zc (3 * (i : Int)) (by omega)
      have d1 := zc (3 * (i : Int) + 1) (by omega)
      have d2 := zc (3 * (i : Int) + 2) (by omega)
      have e0 := cmpZ_in (Z 3 k (3 * (i : Int))) (0)
      have e1 := cmpZ_in (Z 3 k (3 * (i : Int))) (B 6 0)
      have e2 := cmpZ_in (Z 3 k (3 * (i : Int) + 1)) (0)
      have e3 := cmpZ_in (Z 3 k (3 * (i : Int) + 1)) (B 1 0)
      have e4 := cmpZ_in (Z 3 k (3 * (i : Int) + 2)) (0)
      have e5 := cmpZ_in (Z 3 k (3 * (i : Int) + 2)) (60)
      refine V_iload_2 (pc := 13) dX5_isSound_13 ?_
      refine V_iconst (pc := 14) dX5_isSound_14 ?_
      refine V_iadd (pc := 15) dX5_isSound_15 ?_
      refine V_aload_1 (pc := 16) dX5_isSound_16 ?_
      refine V_geti (pc := 17) dX5_isSound_17 gf_X5_328 (by omega) n0 ?_
      refine V_icmp_ge (pc := 20) 121 dX5_isSound_20 (by decide) (by omega) (by omega) (fun c_20 => ?_) (fun c_20 => ?_)
      · exact absurd c_20 (by omega)
      · refine V_aload_1 (pc := 23) dX5_isSound_23 ?_
        refine V_gets (pc := 24) dX5_isSound_24 gf_X5_341 (by omega) ?_
        refine V_iload_2 (pc := 27) dX5_isSound_27 ?_
        refine V_jald (pc := 28) dX5_isSound_28 sh_28 (by omega) (by omega) d0.1 ?_
        refine V_lconst (pc := 29) dX5_isSound_29 (z := 0) rfl ?_
        refine V_lcmp (pc := 30) dX5_isSound_30 (by omega) (by omega) ?_
        refine V_if_lt (pc := 31) 113 dX5_isSound_31 (by decide) (by omega) (fun c_31 => ?_) (fun c_31 => ?_)
        · refine V_iconst (pc := 113) dX5_isSound_113 ?_
          refine V_iretZ (pc := 114) dX5_isSound_114 rfl (by omega) ?_
          exact ⟨_, rfl, (bI_f (fun q => fst_m1.mp q.2 i (by omega) (fun r => by omega))).symm, rfl⟩
        · refine V_aload_1 (pc := 34) dX5_isSound_34 ?_
          refine V_gets (pc := 35) dX5_isSound_35 gf_X5_341 (by omega) ?_
          refine V_iload_2 (pc := 38) dX5_isSound_38 ?_
          refine V_jald (pc := 39) dX5_isSound_39 sh_28 (by omega) (by omega) d0.1 ?_
          refine V_aload_0 (pc := 40) dX5_isSound_40 ?_
          refine V_getc (pc := 41) dX5_isSound_41 gf_X5_23 (by omega) ?_
          refine V_geti (pc := 44) dX5_isSound_44 gf_X5_159 (by omega) hB.s6 ?_
          refine V_i2l (pc := 47) dX5_isSound_47 (by omega) ?_
          refine V_lcmp (pc := 48) dX5_isSound_48 (by omega) (by omega) ?_
          refine V_if_ge (pc := 49) 113 dX5_isSound_49 (by decide) (by omega) (fun c_49 => ?_) (fun c_49 => ?_)
          · refine V_iconst (pc := 113) dX5_isSound_113 ?_
            refine V_iretZ (pc := 114) dX5_isSound_114 rfl (by omega) ?_
            exact ⟨_, rfl, (bI_f (fun q => fst_m1.mp q.2 i (by omega) (fun r => by omega))).symm, rfl⟩
          · refine V_aload_1 (pc := 52) dX5_isSound_52 ?_
            refine V_gets (pc := 53) dX5_isSound_53 gf_X5_341 (by omega) ?_
            refine V_iload_2 (pc := 56) dX5_isSound_56 ?_
            refine V_iconst (pc := 57) dX5_isSound_57 ?_
            refine V_iadd (pc := 58) dX5_isSound_58 ?_
            refine V_jald (pc := 59) dX5_isSound_59 sh_28 (by omega) (by omega) d1.1 ?_
            refine V_lconst (pc := 60) dX5_isSound_60 (z := 0) rfl ?_
            refine V_lcmp (pc := 61) dX5_isSound_61 (by omega) (by omega) ?_
            refine V_if_lt (pc := 62) 113 dX5_isSound_62 (by decide) (by omega) (fun c_62 => ?_) (fun c_62 => ?_)
            · refine V_iconst (pc := 113) dX5_isSound_113 ?_
              refine V_iretZ (pc := 114) dX5_isSound_114 rfl (by omega) ?_
              exact ⟨_, rfl, (bI_f (fun q => fst_m1.mp q.2 i (by omega) (fun r => by omega))).symm, rfl⟩
            · refine V_aload_1 (pc := 65) dX5_isSound_65 ?_
              refine V_gets (pc := 66) dX5_isSound_66 gf_X5_341 (by omega) ?_
              refine V_iload_2 (pc := 69) dX5_isSound_69 ?_
              refine V_iconst (pc := 70) dX5_isSound_70 ?_
              refine V_iadd (pc := 71) dX5_isSound_71 ?_
              refine V_jald (pc := 72) dX5_isSound_72 sh_28 (by omega) (by omega) d1.1 ?_
              refine V_aload_0 (pc := 73) dX5_isSound_73 ?_
              refine V_getc (pc := 74) dX5_isSound_74 gf_X5_23 (by omega) ?_
              refine V_geti (pc := 77) dX5_isSound_77 gf_X5_175 (by omega) hB.s1 ?_
              refine V_i2l (pc := 80) dX5_isSound_80 (by omega) ?_
              refine V_lcmp (pc := 81) dX5_isSound_81 (by omega) (by omega) ?_
              refine V_if_gt (pc := 82) 113 dX5_isSound_82 (by decide) (by omega) (fun c_82 => ?_) (fun c_82 => ?_)
              · refine V_iconst (pc := 113) dX5_isSound_113 ?_
                refine V_iretZ (pc := 114) dX5_isSound_114 rfl (by omega) ?_
                exact ⟨_, rfl, (bI_f (fun q => fst_m1.mp q.2 i (by omega) (fun r => by omega))).symm, rfl⟩
              · refine V_aload_1 (pc := 85) dX5_isSound_85 ?_
                refine V_gets (pc := 86) dX5_isSound_86 gf_X5_341 (by omega) ?_
                refine V_iload_2 (pc := 89) dX5_isSound_89 ?_
                refine V_iconst (pc := 90) dX5_isSound_90 ?_
                refine V_iadd (pc := 91) dX5_isSound_91 ?_
                refine V_jald (pc := 92) dX5_isSound_92 sh_28 (by omega) (by omega) d2.1 ?_
                refine V_lconst (pc := 93) dX5_isSound_93 (z := 0) rfl ?_
                refine V_lcmp (pc := 94) dX5_isSound_94 (by omega) (by omega) ?_
                refine V_if_lt (pc := 95) 113 dX5_isSound_95 (by decide) (by omega) (fun c_95 => ?_) (fun c_95 => ?_)
                · refine V_iconst (pc := 113) dX5_isSound_113 ?_
                  refine V_iretZ (pc := 114) dX5_isSound_114 rfl (by omega) ?_
                  exact ⟨_, rfl, (bI_f (fun q => fst_m1.mp q.2 i (by omega) (fun r => by omega))).symm, rfl⟩
                · refine V_aload_1 (pc := 98) dX5_isSound_98 ?_
                  refine V_gets (pc := 99) dX5_isSound_99 gf_X5_341 (by omega) ?_
                  refine V_iload_2 (pc := 102) dX5_isSound_102 ?_
                  refine V_iconst (pc := 103) dX5_isSound_103 ?_
                  refine V_iadd (pc := 104) dX5_isSound_104 ?_
                  refine V_jald (pc := 105) dX5_isSound_105 sh_28 (by omega) (by omega) d2.1 ?_
                  refine V_ldc2 (pc := 106) dX5_isSound_106 (z := 60) ldc_X5_358 ?_
                  refine V_lcmp (pc := 109) dX5_isSound_109 (by omega) (by omega) ?_
                  refine V_if_le (pc := 110) 115 dX5_isSound_110 (by decide) (by omega) (fun c_110 => ?_) (fun c_110 => ?_)
                  · refine V_iinc_2 (pc := 115) dX5_isSound_115 ?_
                    refine V_goto (pc := 118) 13 dX5_isSound_118 (by decide) ?_
                    refine V.sub (by simp only [subL, Option.some.injEq, Sum.inl.injEq, reduceCtorEq, true_or, or_true, false_or, true_and, and_true]; omega) (ih (nx_step hI (fun q => q ⟨by omega, by omega, by omega⟩) (by omega)))
                  · refine V_iconst (pc := 113) dX5_isSound_113 ?_
                    refine V_iretZ (pc := 114) dX5_isSound_114 rfl (by omega) ?_
                    exact ⟨_, rfl, (bI_f (fun q => fst_m1.mp q.2 i (by omega) (fun r => by omega))).symm, rfl⟩
  refine V_aload_1 (pc := 0) dX5_isSound_0 ?_
  refine V_geti (pc := 1) dX5_isSound_1 gf_X5_328 (by omega) n0 ?_
  refine V_iconst (pc := 4) dX5_isSound_4 ?_
  refine V_irem_p (pc := 5) dX5_isSound_5 (by omega) (by omega) ?_
  refine V_if_eq (pc := 6) 11 dX5_isSound_6 (by decide) (by omega) (fun c_6 => ?_) (fun c_6 => ?_)
  · refine V_iconst (pc := 11) dX5_isSound_11 ?_
    refine V_istore_2 (pc := 12) dX5_isSound_12 ?_
    exact loop (by omega) 0 (by omega) (fun x hx => by omega)
  · refine V_iconst (pc := 9) dX5_isSound_9 ?_
    refine V_iretZ (pc := 10) dX5_isSound_10 rfl (by omega) ?_
    exact ⟨_, rfl, (bI_f (fun q => c_6 q.1)).symm, rfl⟩

set_option maxRecDepth 20000 in
set_option maxHeartbeats 1000000 in
theorem c_X5_refusedSeen {d : Nat} (hd : 1 ≤ d) {σ : MM} {B : BK} {Z : Nat → Int → Int → Int} {k : Int} (hB : CB σ 1 B) (hW : WB B) (hZ : ZR σ Z) (hk0 : IR k) : V yX5_refusedSeen cX5_refusedSeen 2 (some .int) d (QI (fun v σ' => v = RFS B Z k ∧ σ' = σ)) 0 [some (vR 0 0), some (vI k)] [] σ := by
  have hs := hW.s
  have hz9 : ∀ hk : 0 ≤ k ∧ k < 4, _ := fun hk => (hZ k hk)
  refine V_aload_0 (pc := 0) dX5_refusedSeen_0 ?_
  refine V_iload_1 (pc := 1) dX5_refusedSeen_1 ?_
  refine V_callV1p (pc := 2) dX5_refusedSeen_2 kv_X5_317 rc_0 (by omega) (d - 1) (by omega) rfl (c_X5_noSlot (by omega) (by omega)) ?_
  refine V_if_ne_b (pc := 5) 15 dX5_refusedSeen_5 (by decide) (fun c_5 => ?_) (fun c_5 => ?_)
  · refine V_bipush (pc := 15) dX5_refusedSeen_15 (by decide) ?_
    refine V_iretI (pc := 17) dX5_refusedSeen_17 rfl ?_
    exact ⟨_, rfl, by unfold RFS; first | rw [if_pos (by omega)] | (rw [if_neg (by omega), if_pos (by omega)]) | (rw [if_neg (by omega), if_neg (by omega), if_pos (by assumption)]) | (rw [if_neg (by omega), if_neg (by omega), if_neg (by assumption)]), rfl⟩
  · refine V_aload_0 (pc := 8) dX5_refusedSeen_8 ?_
    refine V_callV0p (pc := 9) dX5_refusedSeen_9 kv_X5_155 rc_0 (by omega) (d - 1) (by omega) rfl (c_X5_noBook (by omega) hB hs) ?_
    refine V_if_eq_b (pc := 12) 18 dX5_refusedSeen_12 (by decide) (fun c_12 => ?_) (fun c_12 => ?_)
    · refine V_aload_0 (pc := 18) dX5_refusedSeen_18 ?_
      refine V_getc (pc := 19) dX5_refusedSeen_19 gf_X5_49 (by omega) ?_
      refine V_iload_1 (pc := 22) dX5_refusedSeen_22 ?_
      refine V_aald_26 (pc := 23) dX5_refusedSeen_23 (by omega) (by omega) ?_
      refine V_geti (pc := 24) dX5_refusedSeen_24 gf_X5_324 (by omega) (hZ k (by omega)).1 ?_
      refine V_if_ne (pc := 27) 33 dX5_refusedSeen_27 (by decide) (by omega) (fun c_27 => ?_) (fun c_27 => ?_)
      · refine V_aload_0 (pc := 33) dX5_refusedSeen_33 ?_
        refine V_aload_0 (pc := 34) dX5_refusedSeen_34 ?_
        refine V_getc (pc := 35) dX5_refusedSeen_35 gf_X5_49 (by omega) ?_
        refine V_iload_1 (pc := 38) dX5_refusedSeen_38 ?_
        refine V_aald_26 (pc := 39) dX5_refusedSeen_39 (by omega) (by omega) ?_
        refine V_callV1p (pc := 40) dX5_refusedSeen_40 kv_X5_355 rc_0 (by omega) (d - 1) (by omega) rfl (c_X5_isSound (by omega) hB hW hZ (by omega) (by have := (hZ k (by omega)).2.1; omega)) ?_
        refine V_if_eq_b (pc := 43) 50 dX5_refusedSeen_43 (by decide) (fun c_43 => ?_) (fun c_43 => ?_)
        · refine V_bipush (pc := 50) dX5_refusedSeen_50 (by decide) ?_
          refine V_iretI (pc := 52) dX5_refusedSeen_52 rfl ?_
          exact ⟨_, rfl, by unfold RFS; first | rw [if_pos (by omega)] | (rw [if_neg (by omega), if_pos (by omega)]) | (rw [if_neg (by omega), if_neg (by omega), if_pos (by assumption)]) | (rw [if_neg (by omega), if_neg (by omega), if_neg (by assumption)]), rfl⟩
        · refine V_iconst (pc := 46) dX5_refusedSeen_46 ?_
          refine V_goto (pc := 47) 52 dX5_refusedSeen_47 (by decide) ?_
          refine V_iretI (pc := 52) dX5_refusedSeen_52 rfl ?_
          exact ⟨_, rfl, by unfold RFS; first | rw [if_pos (by omega)] | (rw [if_neg (by omega), if_pos (by omega)]) | (rw [if_neg (by omega), if_neg (by omega), if_pos (by assumption)]) | (rw [if_neg (by omega), if_neg (by omega), if_neg (by assumption)]), rfl⟩
      · refine V_bipush (pc := 30) dX5_refusedSeen_30 (by decide) ?_
        refine V_iretI (pc := 32) dX5_refusedSeen_32 rfl ?_
        exact ⟨_, rfl, by unfold RFS; first | rw [if_pos (by omega)] | (rw [if_neg (by omega), if_pos (by omega)]) | (rw [if_neg (by omega), if_neg (by omega), if_pos (by assumption)]) | (rw [if_neg (by omega), if_neg (by omega), if_neg (by assumption)]), rfl⟩
    · refine V_bipush (pc := 15) dX5_refusedSeen_15 (by decide) ?_
      refine V_iretI (pc := 17) dX5_refusedSeen_17 rfl ?_
      exact ⟨_, rfl, by unfold RFS; first | rw [if_pos (by omega)] | (rw [if_neg (by omega), if_pos (by omega)]) | (rw [if_neg (by omega), if_neg (by omega), if_pos (by assumption)]) | (rw [if_neg (by omega), if_neg (by omega), if_neg (by assumption)]), rfl⟩

set_option maxRecDepth 20000 in
set_option maxHeartbeats 1000000 in
theorem c_X5_fits {d : Nat} (hd : 0 ≤ d) {σ : MM} {B : BK} {Z : Nat → Int → Int → Int} {k : Int} {r : Int} (hs : WS B) (hC : CK σ 1 B (bt r)) (hW : WB B) (hS : SND B Z k)(hZ : ZR σ Z) (hk : 0 ≤ k ∧ k < 4) (h1 : Z 0 k 0 = 1) : V yX5_fits cX5_fits 3 (some .boolean) d (QI (fun v σ' => v = bI (FIT B (bt r) Z k) ∧ σ' = σ)) 0 [some (vR 0 0), some (vR 27 k), none] [] σ := by
  obtain ⟨z0, -, z1⟩ := hZ k hk
  obtain ⟨⟨w0, w1⟩, ⟨n0, n1⟩, zc⟩ := z1 h1
  have loop : ∀ i : Nat, i ≤ (Z 2 k 0 / 3).toNat → (∀ x : Int, 0 ≤ x ∧ x < (i : Int) → ¬ (SHD B (bt r) (Z 3 k (3 * x + 1)) (Z 3 k (3 * x)) ≠ Z 3 k (3 * x + 2))) → V yX5_fits cX5_fits 3 (some .boolean) d (QI (fun v σ' => v = bI (FIT B (bt r) Z k) ∧ σ' = σ)) 2 [some (vR 0 0), some (vR 27 k), some (vI (3 * (i : Int)))] [] σ := by
    refine up_ind (P := fun i : Nat => (∀ x : Int, 0 ≤ x ∧ x < (i : Int) → ¬ (SHD B (bt r) (Z 3 k (3 * x + 1)) (Z 3 k (3 * x)) ≠ Z 3 k (3 * x + 2))) → V yX5_fits cX5_fits 3 (some .boolean) d (QI (fun v σ' => v = bI (FIT B (bt r) Z k) ∧ σ' = σ)) 2 [some (vR 0 0), some (vR 27 k), some (vI (3 * (i : Int)))] [] σ) ?_ ?_
    · intro hI
      have hS1 := hS.1
      refine V_iload_2 (pc := 2) dX5_fits_2 ?_
      refine V_iconst (pc := 3) dX5_fits_3 ?_
      refine V_iadd (pc := 4) dX5_fits_4 ?_
      refine V_aload_1 (pc := 5) dX5_fits_5 ?_
      refine V_geti (pc := 6) dX5_fits_6 gf_X5_328 (by omega) n0 ?_
      refine V_icmp_ge (pc := 9) 58 dX5_fits_9 (by decide) (by omega) (by omega) (fun c_9 => ?_) (fun c_9 => ?_)
      · refine V_iconst (pc := 58) dX5_fits_58 ?_
        refine V_iretZ (pc := 59) dX5_fits_59 rfl (by omega) ?_
        exact ⟨_, rfl, (bI_t (fst_m1.mpr (fun x hx => hI x (by omega)))).symm, rfl⟩
      · exact absurd c_9 (by omega)
    · intro i hi ih hI
      have hS1 := hS.1
      have hT := SND_t (t := (i : Int)) hS (by omega)
      have d0 := zc (3 * (i : Int)) (by omega)
      have d1 := zc (3 * (i : Int) + 1) (by omega)
      have d2 := zc (3 * (i : Int) + 2) (by omega)
      have hd := SHD_in (r := r) (y := Z 3 k (3 * (i : Int) + 1)) hW hT.1
      have e0 := cmpZ_in (SHD B (bt r) (Z 3 k (3 * (i : Int) + 1)) (Z 3 k (3 * (i : Int)))) (Z 3 k (3 * (i : Int) + 2))
      refine V_iload_2 (pc := 2) dX5_fits_2 ?_
      refine V_iconst (pc := 3) dX5_fits_3 ?_
      refine V_iadd (pc := 4) dX5_fits_4 ?_
      refine V_aload_1 (pc := 5) dX5_fits_5 ?_
      refine V_geti (pc := 6) dX5_fits_6 gf_X5_328 (by omega) n0 ?_
      refine V_icmp_ge (pc := 9) 58 dX5_fits_9 (by decide) (by omega) (by omega) (fun c_9 => ?_) (fun c_9 => ?_)
      · exact absurd c_9 (by omega)
      · refine V_aload_0 (pc := 12) dX5_fits_12 ?_
        refine V_getc (pc := 13) dX5_fits_13 gf_X5_36 (by omega) ?_
        refine V_gets (pc := 16) dX5_fits_16 gf_X5_169 (by omega) ?_
        refine V_aload_1 (pc := 19) dX5_fits_19 ?_
        refine V_gets (pc := 20) dX5_fits_20 gf_X5_341 (by omega) ?_
        refine V_iload_2 (pc := 23) dX5_fits_23 ?_
        refine V_iconst (pc := 24) dX5_fits_24 ?_
        refine V_iadd (pc := 25) dX5_fits_25 ?_
        refine V_jald (pc := 26) dX5_fits_26 sh_28 (by omega) (by omega) d1.1 ?_
        refine V_l2i (pc := 27) dX5_fits_27 ?_
        refine V_aald_19 (pc := 28) dX5_fits_28 (by omega) (by omega) ?_
        refine V_aload_1 (pc := 29) dX5_fits_29 ?_
        refine V_gets (pc := 30) dX5_fits_30 gf_X5_341 (by omega) ?_
        refine V_iload_2 (pc := 33) dX5_fits_33 ?_
        refine V_jald (pc := 34) dX5_fits_34 sh_28 (by omega) (by omega) d0.1 ?_
        refine V_l2i (pc := 35) dX5_fits_35 ?_
        refine V_iald (pc := 36) dX5_fits_36 sh_22 (by omega) (by omega) (hC.sh (by omega) (by omega)) ?_
        refine V_i2l (pc := 37) dX5_fits_37 (by omega) ?_
        refine V_aload_1 (pc := 38) dX5_fits_38 ?_
        refine V_gets (pc := 39) dX5_fits_39 gf_X5_341 (by omega) ?_
        refine V_iload_2 (pc := 42) dX5_fits_42 ?_
        refine V_iconst (pc := 43) dX5_fits_43 ?_
        refine V_iadd (pc := 44) dX5_fits_44 ?_
        refine V_jald (pc := 45) dX5_fits_45 sh_28 (by omega) (by omega) d2.1 ?_
        refine V_lcmp (pc := 46) dX5_fits_46 (by omega) (by omega) ?_
        refine V_if_eq (pc := 47) 52 dX5_fits_47 (by decide) (by omega) (fun c_47 => ?_) (fun c_47 => ?_)
        · refine V_iinc_2 (pc := 52) dX5_fits_52 ?_
          refine V_goto (pc := 55) 2 dX5_fits_55 (by decide) ?_
          refine V.sub (by simp only [subL, Option.some.injEq, Sum.inl.injEq, reduceCtorEq, true_or, or_true, false_or, true_and, and_true]; omega) (ih (nx_step hI (fun q => q (by omega)) (by omega)))
        · refine V_iconst (pc := 50) dX5_fits_50 ?_
          refine V_iretZ (pc := 51) dX5_fits_51 rfl (by omega) ?_
          exact ⟨_, rfl, (bI_f (fun q => fst_m1.mp q i (by omega) (by omega))).symm, rfl⟩
  refine V_iconst (pc := 0) dX5_fits_0 ?_
  refine V_istore_2 (pc := 1) dX5_fits_1 ?_
  exact loop 0 (by omega) (fun x hx => by omega)
