set_option maxRecDepth 20000 in
set_option maxHeartbeats 1000000 in
theorem c_X5_put {d : Nat} (hd : 1 ≤ d) {σ : MM} {B : BK} (hB : CB σ 1 B) (hW : WB B) : V yX5_put cX5_put 3 (some .int) d (QI (fun v σ' => v = q_put B ∧ σ' = σ)) 0 [some (vR 0 0), none, none] [] σ := by
  have hs := hW.s
  have loop : (¬ B 0 0 = 0) → ∀ i : Nat, i ≤ (B 6 0).toNat → V yX5_put cX5_put 3 (some .int) d (QI (fun v σ' => v = q_put B ∧ σ' = σ)) 14 [some (vR 0 0), some (vI (bsN (fun e => bI (EBH B e)) i)), some (vI (i : Int))] [] σ := by
    intro hR
    refine up_ind (P := fun i : Nat => V yX5_put cX5_put 3 (some .int) d (QI (fun v σ' => v = q_put B ∧ σ' = σ)) 14 [some (vR 0 0), some (vI (bsN (fun e => bI (EBH B e)) i)), some (vI (i : Int))] [] σ) ?_ ?_
    · 
      refine V_iload_2 (pc := 14) dX5_put_14 ?_
      refine V_aload_0 (pc := 15) dX5_put_15 ?_
      refine V_getc (pc := 16) dX5_put_16 gf_X5_23 (by omega) ?_
      refine V_geti (pc := 19) dX5_put_19 gf_X5_159 (by omega) hB.s6 ?_
      refine V_icmp_ge (pc := 22) 45 dX5_put_22 (by decide) (by omega) (by omega) (fun c_22 => ?_) (fun c_22 => ?_)
      · refine V_iload_1 (pc := 45) dX5_put_45 ?_
        refine V_iretI (pc := 46) dX5_put_46 rfl ?_
        exact ⟨_, rfl, by unfold q_put; (repeat' split) <;> first | rfl | omega, rfl⟩
      · exact absurd c_22 (by omega)
    · intro i hi ih
      have h1 := hW.e (i := (i : Int)) (by omega)
      have hb := bsI_in (fun e => EBH B e) i
      have hS := bsN_S (fun e => bI (EBH B e)) i
      refine V_iload_2 (pc := 14) dX5_put_14 ?_
      refine V_aload_0 (pc := 15) dX5_put_15 ?_
      refine V_getc (pc := 16) dX5_put_16 gf_X5_23 (by omega) ?_
      refine V_geti (pc := 19) dX5_put_19 gf_X5_159 (by omega) hB.s6 ?_
      refine V_icmp_ge (pc := 22) 45 dX5_put_22 (by decide) (by omega) (by omega) (fun c_22 => ?_) (fun c_22 => ?_)
      · exact absurd c_22 (by omega)
      · refine V_aload_0 (pc := 25) dX5_put_25 ?_
        refine V_iload_2 (pc := 26) dX5_put_26 ?_
        refine V_callV1p (pc := 27) dX5_put_27 kv_X5_162 rc_0 (by omega) (d - 1) (by omega) rfl (c_X5_earlierBehind (by omega) hB hW (by omega)) ?_
        refine V_if_eq_b (pc := 30) 39 dX5_put_30 (by decide) (fun c_30 => ?_) (fun c_30 => ?_)
        · refine V_iinc_2 (pc := 39) dX5_put_39 ?_
          refine V_goto (pc := 42) 14 dX5_put_42 (by decide) ?_
          refine V.sub (by simp only [subL, Option.some.injEq, Sum.inl.injEq, Sum.inr.injEq, reduceCtorEq, true_or, or_true, false_or, true_and, and_true]; first | omega | (rw [hS, bI_t (by assumption)]; omega) | (rw [hS, bI_f (by assumption)]; omega)) ih
        · refine V_iload_1 (pc := 33) dX5_put_33 ?_
          refine V_iconst (pc := 34) dX5_put_34 ?_
          refine V_iload_2 (pc := 35) dX5_put_35 ?_
          refine V_ishl_1 (pc := 36) dX5_put_36 (by omega) ?_
          refine V_ior_add (pc := 37) dX5_put_37 (by assumption) ?_
          refine V_istore_1 (pc := 38) dX5_put_38 ?_
          refine V_iinc_2 (pc := 39) dX5_put_39 ?_
          refine V_goto (pc := 42) 14 dX5_put_42 (by decide) ?_
          refine V.sub (by simp only [subL, Option.some.injEq, Sum.inl.injEq, Sum.inr.injEq, reduceCtorEq, true_or, or_true, false_or, true_and, and_true]; first | omega | (rw [hS, bI_t (by assumption)]; omega) | (rw [hS, bI_f (by assumption)]; omega)) ih
  refine V_aload_0 (pc := 0) dX5_put_0 ?_
  refine V_callV0p (pc := 1) dX5_put_1 kv_X5_155 rc_0 (by omega) (d - 1) (by omega) rfl (c_X5_noBook (by omega) hB hs) ?_
  refine V_if_eq_b (pc := 4) 10 dX5_put_4 (by decide) (fun c_4 => ?_) (fun c_4 => ?_)
  · refine V_iconst (pc := 10) dX5_put_10 ?_
    refine V_istore_1 (pc := 11) dX5_put_11 ?_
    refine V_iconst (pc := 12) dX5_put_12 ?_
    refine V_istore_2 (pc := 13) dX5_put_13 ?_
    exact loop (by omega) 0 (by omega)
  · refine V_bipush (pc := 7) dX5_put_7 (by decide) ?_
    refine V_iretI (pc := 9) dX5_put_9 rfl ?_
    exact ⟨_, rfl, by unfold q_put; (repeat' split) <;> first | rfl | omega, rfl⟩

set_option maxRecDepth 20000 in
set_option maxHeartbeats 1000000 in
theorem c_X5_lies {d : Nat} (hd : 1 ≤ d) {σ : MM} {B : BK} (hB : CB σ 1 B) (hW : WB B) : V yX5_lies cX5_lies 3 (some .int) d (QI (fun v σ' => v = q_lies B ∧ σ' = σ)) 0 [some (vR 0 0), none, none] [] σ := by
  have hs := hW.s
  have loop : (¬ B 0 0 = 0) → ∀ i : Nat, i ≤ (B 6 0).toNat → V yX5_lies cX5_lies 3 (some .int) d (QI (fun v σ' => v = q_lies B ∧ σ' = σ)) 14 [some (vR 0 0), some (vI (bsN (fun e => bI (B 14 e ≠ B 13 e)) i)), some (vI (i : Int))] [] σ := by
    intro hR
    refine up_ind (P := fun i : Nat => V yX5_lies cX5_lies 3 (some .int) d (QI (fun v σ' => v = q_lies B ∧ σ' = σ)) 14 [some (vR 0 0), some (vI (bsN (fun e => bI (B 14 e ≠ B 13 e)) i)), some (vI (i : Int))] [] σ) ?_ ?_
    · 
      refine V_iload_2 (pc := 14) dX5_lies_14 ?_
      refine V_aload_0 (pc := 15) dX5_lies_15 ?_
      refine V_getc (pc := 16) dX5_lies_16 gf_X5_23 (by omega) ?_
      refine V_geti (pc := 19) dX5_lies_19 gf_X5_159 (by omega) hB.s6 ?_
      refine V_icmp_ge (pc := 22) 58 dX5_lies_22 (by decide) (by omega) (by omega) (fun c_22 => ?_) (fun c_22 => ?_)
      · refine V_iload_1 (pc := 58) dX5_lies_58 ?_
        refine V_iretI (pc := 59) dX5_lies_59 rfl ?_
        exact ⟨_, rfl, by unfold q_lies; (repeat' split) <;> first | rfl | omega, rfl⟩
      · exact absurd c_22 (by omega)
    · intro i hi ih
      have h1 := hW.e (i := (i : Int)) (by omega)
      have hb := bsI_in (fun e => B 14 e ≠ B 13 e) i
      have hS := bsN_S (fun e => bI (B 14 e ≠ B 13 e)) i
      refine V_iload_2 (pc := 14) dX5_lies_14 ?_
      refine V_aload_0 (pc := 15) dX5_lies_15 ?_
      refine V_getc (pc := 16) dX5_lies_16 gf_X5_23 (by omega) ?_
      refine V_geti (pc := 19) dX5_lies_19 gf_X5_159 (by omega) hB.s6 ?_
      refine V_icmp_ge (pc := 22) 58 dX5_lies_22 (by decide) (by omega) (by omega) (fun c_22 => ?_) (fun c_22 => ?_)
      · exact absurd c_22 (by omega)
      · refine V_aload_0 (pc := 25) dX5_lies_25 ?_
        refine V_getc (pc := 26) dX5_lies_26 gf_X5_23 (by omega) ?_
        refine V_gets (pc := 29) dX5_lies_29 gf_X5_137 (by omega) ?_
        refine V_iload_2 (pc := 32) dX5_lies_32 ?_
        refine V_iald (pc := 33) dX5_lies_33 sh_11 (by omega) (by omega) (hB.a11 (by omega)) ?_
        refine V_aload_0 (pc := 34) dX5_lies_34 ?_
        refine V_getc (pc := 35) dX5_lies_35 gf_X5_23 (by omega) ?_
        refine V_gets (pc := 38) dX5_lies_38 gf_X5_134 (by omega) ?_
        refine V_iload_2 (pc := 41) dX5_lies_41 ?_
        refine V_iald (pc := 42) dX5_lies_42 sh_10 (by omega) (by omega) (hB.a10 (by omega)) ?_
        refine V_icmp_eq (pc := 43) 52 dX5_lies_43 (by decide) (by omega) (by omega) (fun c_43 => ?_) (fun c_43 => ?_)
        · refine V_iinc_2 (pc := 52) dX5_lies_52 ?_
          refine V_goto (pc := 55) 14 dX5_lies_55 (by decide) ?_
          refine V.sub (by simp only [subL, Option.some.injEq, Sum.inl.injEq, Sum.inr.injEq, reduceCtorEq, true_or, or_true, false_or, true_and, and_true]; first | omega | (rw [hS, bI_t (by omega)]; omega) | (rw [hS, bI_f (by omega)]; omega)) ih
        · refine V_iload_1 (pc := 46) dX5_lies_46 ?_
          refine V_iconst (pc := 47) dX5_lies_47 ?_
          refine V_iload_2 (pc := 48) dX5_lies_48 ?_
          refine V_ishl_1 (pc := 49) dX5_lies_49 (by omega) ?_
          refine V_ior_add (pc := 50) dX5_lies_50 (by assumption) ?_
          refine V_istore_1 (pc := 51) dX5_lies_51 ?_
          refine V_iinc_2 (pc := 52) dX5_lies_52 ?_
          refine V_goto (pc := 55) 14 dX5_lies_55 (by decide) ?_
          refine V.sub (by simp only [subL, Option.some.injEq, Sum.inl.injEq, Sum.inr.injEq, reduceCtorEq, true_or, or_true, false_or, true_and, and_true]; first | omega | (rw [hS, bI_t (by omega)]; omega) | (rw [hS, bI_f (by omega)]; omega)) ih
  refine V_aload_0 (pc := 0) dX5_lies_0 ?_
  refine V_callV0p (pc := 1) dX5_lies_1 kv_X5_155 rc_0 (by omega) (d - 1) (by omega) rfl (c_X5_noBook (by omega) hB hs) ?_
  refine V_if_eq_b (pc := 4) 10 dX5_lies_4 (by decide) (fun c_4 => ?_) (fun c_4 => ?_)
  · refine V_iconst (pc := 10) dX5_lies_10 ?_
    refine V_istore_1 (pc := 11) dX5_lies_11 ?_
    refine V_iconst (pc := 12) dX5_lies_12 ?_
    refine V_istore_2 (pc := 13) dX5_lies_13 ?_
    exact loop (by omega) 0 (by omega)
  · refine V_bipush (pc := 7) dX5_lies_7 (by decide) ?_
    refine V_iretI (pc := 9) dX5_lies_9 rfl ?_
    exact ⟨_, rfl, by unfold q_lies; (repeat' split) <;> first | rfl | omega, rfl⟩

set_option maxRecDepth 20000 in
set_option maxHeartbeats 1000000 in
theorem c_X5_uses {d : Nat} (hd : 1 ≤ d) {σ : MM} {B : BK} {j : Int} (hB : CB σ 1 B) (hW : WB B) (hj : IR j) : V yX5_uses cX5_uses 4 (some .int) d (QI (fun v σ' => v = q_uses B j ∧ σ' = σ)) 0 [some (vR 0 0), some (vI j), none, none] [] σ := by
  have hs := hW.s
  have loop : (¬ (j < 0 ∨ B 4 0 ≤ j)) → ∀ i : Nat, i ≤ (B 6 0).toNat → V yX5_uses cX5_uses 4 (some .int) d (QI (fun v σ' => v = q_uses B j ∧ σ' = σ)) 15 [some (vR 0 0), some (vI (j)), some (vI (bsN (fun e => bI (B 12 e = j)) i)), some (vI (i : Int))] [] σ := by
    intro hR
    refine up_ind (P := fun i : Nat => V yX5_uses cX5_uses 4 (some .int) d (QI (fun v σ' => v = q_uses B j ∧ σ' = σ)) 15 [some (vR 0 0), some (vI (j)), some (vI (bsN (fun e => bI (B 12 e = j)) i)), some (vI (i : Int))] [] σ) ?_ ?_
    · 
      refine V_iload_3 (pc := 15) dX5_uses_15 ?_
      refine V_aload_0 (pc := 16) dX5_uses_16 ?_
      refine V_getc (pc := 17) dX5_uses_17 gf_X5_23 (by omega) ?_
      refine V_geti (pc := 20) dX5_uses_20 gf_X5_159 (by omega) hB.s6 ?_
      refine V_icmp_ge (pc := 23) 51 dX5_uses_23 (by decide) (by omega) (by omega) (fun c_23 => ?_) (fun c_23 => ?_)
      · refine V_iload_2 (pc := 51) dX5_uses_51 ?_
        refine V_iretI (pc := 52) dX5_uses_52 rfl ?_
        exact ⟨_, rfl, by unfold q_uses; (repeat' split) <;> first | rfl | omega, rfl⟩
      · exact absurd c_23 (by omega)
    · intro i hi ih
      have h1 := hW.e (i := (i : Int)) (by omega)
      have hb := bsI_in (fun e => B 12 e = j) i
      have hS := bsN_S (fun e => bI (B 12 e = j)) i
      refine V_iload_3 (pc := 15) dX5_uses_15 ?_
      refine V_aload_0 (pc := 16) dX5_uses_16 ?_
      refine V_getc (pc := 17) dX5_uses_17 gf_X5_23 (by omega) ?_
      refine V_geti (pc := 20) dX5_uses_20 gf_X5_159 (by omega) hB.s6 ?_
      refine V_icmp_ge (pc := 23) 51 dX5_uses_23 (by decide) (by omega) (by omega) (fun c_23 => ?_) (fun c_23 => ?_)
      · exact absurd c_23 (by omega)
      · refine V_aload_0 (pc := 26) dX5_uses_26 ?_
        refine V_getc (pc := 27) dX5_uses_27 gf_X5_23 (by omega) ?_
        refine V_gets (pc := 30) dX5_uses_30 gf_X5_131 (by omega) ?_
        refine V_iload_3 (pc := 33) dX5_uses_33 ?_
        refine V_iald (pc := 34) dX5_uses_34 sh_9 (by omega) (by omega) (hB.a9 (by omega)) ?_
        refine V_iload_1 (pc := 35) dX5_uses_35 ?_
        refine V_icmp_ne (pc := 36) 45 dX5_uses_36 (by decide) (by omega) (by omega) (fun c_36 => ?_) (fun c_36 => ?_)
        · refine V_iinc_3 (pc := 45) dX5_uses_45 ?_
          refine V_goto (pc := 48) 15 dX5_uses_48 (by decide) ?_
          refine V.sub (by simp only [subL, Option.some.injEq, Sum.inl.injEq, Sum.inr.injEq, reduceCtorEq, true_or, or_true, false_or, true_and, and_true]; first | omega | (rw [hS, bI_t (by omega)]; omega) | (rw [hS, bI_f (by omega)]; omega)) ih
        · refine V_iload_2 (pc := 39) dX5_uses_39 ?_
          refine V_iconst (pc := 40) dX5_uses_40 ?_
          refine V_iload_3 (pc := 41) dX5_uses_41 ?_
          refine V_ishl_1 (pc := 42) dX5_uses_42 (by omega) ?_
          refine V_ior_add (pc := 43) dX5_uses_43 (by assumption) ?_
          refine V_istore_2 (pc := 44) dX5_uses_44 ?_
          refine V_iinc_3 (pc := 45) dX5_uses_45 ?_
          refine V_goto (pc := 48) 15 dX5_uses_48 (by decide) ?_
          refine V.sub (by simp only [subL, Option.some.injEq, Sum.inl.injEq, Sum.inr.injEq, reduceCtorEq, true_or, or_true, false_or, true_and, and_true]; first | omega | (rw [hS, bI_t (by omega)]; omega) | (rw [hS, bI_f (by omega)]; omega)) ih
  refine V_aload_0 (pc := 0) dX5_uses_0 ?_
  refine V_iload_1 (pc := 1) dX5_uses_1 ?_
  refine V_callV1p (pc := 2) dX5_uses_2 kv_X5_106 rc_0 (by omega) (d - 1) (by omega) rfl (c_X5_noInk (by omega) hB hs (by omega)) ?_
  refine V_if_eq_b (pc := 5) 11 dX5_uses_5 (by decide) (fun c_5 => ?_) (fun c_5 => ?_)
  · refine V_iconst (pc := 11) dX5_uses_11 ?_
    refine V_istore_2 (pc := 12) dX5_uses_12 ?_
    refine V_iconst (pc := 13) dX5_uses_13 ?_
    refine V_istore_3 (pc := 14) dX5_uses_14 ?_
    exact loop (by omega) 0 (by omega)
  · refine V_bipush (pc := 8) dX5_uses_8 (by decide) ?_
    refine V_iretI (pc := 10) dX5_uses_10 rfl ?_
    exact ⟨_, rfl, by unfold q_uses; (repeat' split) <;> first | rfl | omega, rfl⟩

set_option maxRecDepth 20000 in
set_option maxHeartbeats 1000000 in
theorem c_X5_newest {d : Nat} (hd : 2 ≤ d) {σ : MM} {B : BK} {y : Int} (hB : CB σ 1 B) (hW : WB B) (hy : IR y) : V yX5_newest cX5_newest 4 (some .int) d (QI (fun v σ' => v = q_newest B y ∧ σ' = σ)) 0 [some (vR 0 0), some (vI y), none, none] [] σ := by
  have hs := hW.s
  have loop : (¬ (B 0 0 = 0 ∨ y < 0 ∨ B 1 0 < y)) → ∀ i : Nat, i ≤ (B 6 0).toNat → V yX5_newest cX5_newest 4 (some .int) d (QI (fun v σ' => v = q_newest B y ∧ σ' = σ)) 15 [some (vR 0 0), some (vI (y)), some (vI (bst (fun e => B 13 e ≤ y) (fun e => B 13 e) i)), some (vI (i : Int))] [] σ := by
    intro hR
    refine up_ind (P := fun i : Nat => V yX5_newest cX5_newest 4 (some .int) d (QI (fun v σ' => v = q_newest B y ∧ σ' = σ)) 15 [some (vR 0 0), some (vI (y)), some (vI (bst (fun e => B 13 e ≤ y) (fun e => B 13 e) i)), some (vI (i : Int))] [] σ) ?_ ?_
    · 
      refine V_iload_3 (pc := 15) dX5_newest_15 ?_
      refine V_aload_0 (pc := 16) dX5_newest_16 ?_
      refine V_getc (pc := 17) dX5_newest_17 gf_X5_23 (by omega) ?_
      refine V_geti (pc := 20) dX5_newest_20 gf_X5_159 (by omega) hB.s6 ?_
      refine V_icmp_ge (pc := 23) 72 dX5_newest_23 (by decide) (by omega) (by omega) (fun c_23 => ?_) (fun c_23 => ?_)
      · refine V_iload_2 (pc := 72) dX5_newest_72 ?_
        refine V_iretI (pc := 73) dX5_newest_73 rfl ?_
        exact ⟨_, rfl, by unfold q_newest; (repeat' split) <;> first | rfl | omega, rfl⟩
      · exact absurd c_23 (by omega)
    · intro i hi ih
      have h1 := hW.e (i := (i : Int)) (by omega)
      have hb := bst_in (p := fun e => B 13 e ≤ y) (g := (fun e => B 13 e)) i
      have h2 : bst (fun e => B 13 e ≤ y) (fun e => B 13 e) i ≠ -1 → _ := fun q => hW.e (i := bst (fun e => B 13 e ≤ y) (fun e => B 13 e) i) (by omega)
      have hS : bst (fun e => B 13 e ≤ y) (fun e => B 13 e) (i + 1) = if B 13 i ≤ y ∧ (bst (fun e => B 13 e ≤ y) (fun e => B 13 e) i = -1 ∨ B 13 (bst (fun e => B 13 e ≤ y) (fun e => B 13 e) i) < B 13 i) then (i : Int) else bst (fun e => B 13 e ≤ y) (fun e => B 13 e) i := rfl
      refine V_iload_3 (pc := 15) dX5_newest_15 ?_
      refine V_aload_0 (pc := 16) dX5_newest_16 ?_
      refine V_getc (pc := 17) dX5_newest_17 gf_X5_23 (by omega) ?_
      refine V_geti (pc := 20) dX5_newest_20 gf_X5_159 (by omega) hB.s6 ?_
      refine V_icmp_ge (pc := 23) 72 dX5_newest_23 (by decide) (by omega) (by omega) (fun c_23 => ?_) (fun c_23 => ?_)
      · exact absurd c_23 (by omega)
      · refine V_aload_0 (pc := 26) dX5_newest_26 ?_
        refine V_getc (pc := 27) dX5_newest_27 gf_X5_23 (by omega) ?_
        refine V_iload_3 (pc := 30) dX5_newest_30 ?_
        refine V_iload_1 (pc := 31) dX5_newest_31 ?_
        refine V_callV2p (pc := 32) dX5_newest_32 kv_X5_165 rc_3 (by omega) (d - 1) (by omega) rfl (c_X1_isThere (by omega) (by omega) hB hW (by omega) (by omega)) ?_
        refine V_if_eq_b (pc := 35) 66 dX5_newest_35 (by decide) (fun c_35 => ?_) (fun c_35 => ?_)
        · refine V_iinc_3 (pc := 66) dX5_newest_66 ?_
          refine V_goto (pc := 69) 15 dX5_newest_69 (by decide) ?_
          refine V.sub (by simp only [subL, Option.some.injEq, Sum.inl.injEq, Sum.inr.injEq, reduceCtorEq, true_or, or_true, false_or, true_and, and_true]; first | omega | (rw [hS, if_pos (by omega)]; omega) | (rw [hS, if_neg (by omega)]; omega)) ih
        · refine V_iload_2 (pc := 38) dX5_newest_38 ?_
          refine V_iconst (pc := 39) dX5_newest_39 ?_
          refine V_icmp_eq (pc := 40) 64 dX5_newest_40 (by decide) (by omega) (by omega) (fun c_40 => ?_) (fun c_40 => ?_)
          · refine V_iload_3 (pc := 64) dX5_newest_64 ?_
            refine V_istore_2 (pc := 65) dX5_newest_65 ?_
            refine V_iinc_3 (pc := 66) dX5_newest_66 ?_
            refine V_goto (pc := 69) 15 dX5_newest_69 (by decide) ?_
            refine V.sub (by simp only [subL, Option.some.injEq, Sum.inl.injEq, Sum.inr.injEq, reduceCtorEq, true_or, or_true, false_or, true_and, and_true]; first | omega | (rw [hS, if_pos (by omega)]; omega) | (rw [hS, if_neg (by omega)]; omega)) ih
          · refine V_aload_0 (pc := 43) dX5_newest_43 ?_
            refine V_getc (pc := 44) dX5_newest_44 gf_X5_23 (by omega) ?_
            refine V_gets (pc := 47) dX5_newest_47 gf_X5_134 (by omega) ?_
            refine V_iload_3 (pc := 50) dX5_newest_50 ?_
            refine V_iald (pc := 51) dX5_newest_51 sh_10 (by omega) (by omega) (hB.a10 (by omega)) ?_
            refine V_aload_0 (pc := 52) dX5_newest_52 ?_
            refine V_getc (pc := 53) dX5_newest_53 gf_X5_23 (by omega) ?_
            refine V_gets (pc := 56) dX5_newest_56 gf_X5_134 (by omega) ?_
            refine V_iload_2 (pc := 59) dX5_newest_59 ?_
            refine V_iald (pc := 60) dX5_newest_60 sh_10 (by omega) (by omega) (hB.a10 (by omega)) ?_
            refine V_icmp_le (pc := 61) 66 dX5_newest_61 (by decide) (by omega) (by omega) (fun c_61 => ?_) (fun c_61 => ?_)
            · refine V_iinc_3 (pc := 66) dX5_newest_66 ?_
              refine V_goto (pc := 69) 15 dX5_newest_69 (by decide) ?_
              refine V.sub (by simp only [subL, Option.some.injEq, Sum.inl.injEq, Sum.inr.injEq, reduceCtorEq, true_or, or_true, false_or, true_and, and_true]; first | omega | (rw [hS, if_pos (by omega)]; omega) | (rw [hS, if_neg (by omega)]; omega)) ih
            · refine V_iload_3 (pc := 64) dX5_newest_64 ?_
              refine V_istore_2 (pc := 65) dX5_newest_65 ?_
              refine V_iinc_3 (pc := 66) dX5_newest_66 ?_
              refine V_goto (pc := 69) 15 dX5_newest_69 (by decide) ?_
              refine V.sub (by simp only [subL, Option.some.injEq, Sum.inl.injEq, Sum.inr.injEq, reduceCtorEq, true_or, or_true, false_or, true_and, and_true]; first | omega | (rw [hS, if_pos (by omega)]; omega) | (rw [hS, if_neg (by omega)]; omega)) ih
  refine V_aload_0 (pc := 0) dX5_newest_0 ?_
  refine V_iload_1 (pc := 1) dX5_newest_1 ?_
  refine V_callV1p (pc := 2) dX5_newest_2 kv_X5_149 rc_0 (by omega) (d - 1) (by omega) rfl (c_X5_noYear (by omega) hB hs (by omega)) ?_
  refine V_if_eq_b (pc := 5) 11 dX5_newest_5 (by decide) (fun c_5 => ?_) (fun c_5 => ?_)
  · refine V_iconst (pc := 11) dX5_newest_11 ?_
    refine V_istore_2 (pc := 12) dX5_newest_12 ?_
    refine V_iconst (pc := 13) dX5_newest_13 ?_
    refine V_istore_3 (pc := 14) dX5_newest_14 ?_
    exact loop (by omega) 0 (by omega)
  · refine V_bipush (pc := 8) dX5_newest_8 (by decide) ?_
    refine V_iretI (pc := 10) dX5_newest_10 rfl ?_
    exact ⟨_, rfl, by unfold q_newest; (repeat' split) <;> first | rfl | omega, rfl⟩

set_option maxRecDepth 20000 in
set_option maxHeartbeats 1000000 in
theorem c_X5_oldest {d : Nat} (hd : 2 ≤ d) {σ : MM} {B : BK} {y : Int} (hB : CB σ 1 B) (hW : WB B) (hy : IR y) : V yX5_oldest cX5_oldest 4 (some .int) d (QI (fun v σ' => v = q_oldest B y ∧ σ' = σ)) 0 [some (vR 0 0), some (vI y), none, none] [] σ := by
  have hs := hW.s
  have loop : (¬ (B 0 0 = 0 ∨ y < 0 ∨ B 1 0 < y)) → ∀ i : Nat, i ≤ (B 6 0).toNat → V yX5_oldest cX5_oldest 4 (some .int) d (QI (fun v σ' => v = q_oldest B y ∧ σ' = σ)) 15 [some (vR 0 0), some (vI (y)), some (vI (bst (fun e => B 13 e ≤ y) (fun e => -B 13 e) i)), some (vI (i : Int))] [] σ := by
    intro hR
    refine up_ind (P := fun i : Nat => V yX5_oldest cX5_oldest 4 (some .int) d (QI (fun v σ' => v = q_oldest B y ∧ σ' = σ)) 15 [some (vR 0 0), some (vI (y)), some (vI (bst (fun e => B 13 e ≤ y) (fun e => -B 13 e) i)), some (vI (i : Int))] [] σ) ?_ ?_
    · 
      refine V_iload_3 (pc := 15) dX5_oldest_15 ?_
      refine V_aload_0 (pc := 16) dX5_oldest_16 ?_
      refine V_getc (pc := 17) dX5_oldest_17 gf_X5_23 (by omega) ?_
      refine V_geti (pc := 20) dX5_oldest_20 gf_X5_159 (by omega) hB.s6 ?_
      refine V_icmp_ge (pc := 23) 72 dX5_oldest_23 (by decide) (by omega) (by omega) (fun c_23 => ?_) (fun c_23 => ?_)
      · refine V_iload_2 (pc := 72) dX5_oldest_72 ?_
        refine V_iretI (pc := 73) dX5_oldest_73 rfl ?_
        exact ⟨_, rfl, by unfold q_oldest; (repeat' split) <;> first | rfl | omega, rfl⟩
      · exact absurd c_23 (by omega)
    · intro i hi ih
      have h1 := hW.e (i := (i : Int)) (by omega)
      have hb := bst_in (p := fun e => B 13 e ≤ y) (g := (fun e => -B 13 e)) i
      have h2 : bst (fun e => B 13 e ≤ y) (fun e => -B 13 e) i ≠ -1 → _ := fun q => hW.e (i := bst (fun e => B 13 e ≤ y) (fun e => -B 13 e) i) (by omega)
      have hS : bst (fun e => B 13 e ≤ y) (fun e => -B 13 e) (i + 1) = if B 13 i ≤ y ∧ (bst (fun e => B 13 e ≤ y) (fun e => -B 13 e) i = -1 ∨ -B 13 (bst (fun e => B 13 e ≤ y) (fun e => -B 13 e) i) < -B 13 i) then (i : Int) else bst (fun e => B 13 e ≤ y) (fun e => -B 13 e) i := rfl
      refine V_iload_3 (pc := 15) dX5_oldest_15 ?_
      refine V_aload_0 (pc := 16) dX5_oldest_16 ?_
      refine V_getc (pc := 17) dX5_oldest_17 gf_X5_23 (by omega) ?_
      refine V_geti (pc := 20) dX5_oldest_20 gf_X5_159 (by omega) hB.s6 ?_
      refine V_icmp_ge (pc := 23) 72 dX5_oldest_23 (by decide) (by omega) (by omega) (fun c_23 => ?_) (fun c_23 => ?_)
      · exact absurd c_23 (by omega)
      · refine V_aload_0 (pc := 26) dX5_oldest_26 ?_
        refine V_getc (pc := 27) dX5_oldest_27 gf_X5_23 (by omega) ?_
        refine V_iload_3 (pc := 30) dX5_oldest_30 ?_
        refine V_iload_1 (pc := 31) dX5_oldest_31 ?_
        refine V_callV2p (pc := 32) dX5_oldest_32 kv_X5_165 rc_3 (by omega) (d - 1) (by omega) rfl (c_X1_isThere (by omega) (by omega) hB hW (by omega) (by omega)) ?_
        refine V_if_eq_b (pc := 35) 66 dX5_oldest_35 (by decide) (fun c_35 => ?_) (fun c_35 => ?_)
        · refine V_iinc_3 (pc := 66) dX5_oldest_66 ?_
          refine V_goto (pc := 69) 15 dX5_oldest_69 (by decide) ?_
          refine V.sub (by simp only [subL, Option.some.injEq, Sum.inl.injEq, Sum.inr.injEq, reduceCtorEq, true_or, or_true, false_or, true_and, and_true]; first | omega | (rw [hS, if_pos (by omega)]; omega) | (rw [hS, if_neg (by omega)]; omega)) ih
        · refine V_iload_2 (pc := 38) dX5_oldest_38 ?_
          refine V_iconst (pc := 39) dX5_oldest_39 ?_
          refine V_icmp_eq (pc := 40) 64 dX5_oldest_40 (by decide) (by omega) (by omega) (fun c_40 => ?_) (fun c_40 => ?_)
          · refine V_iload_3 (pc := 64) dX5_oldest_64 ?_
            refine V_istore_2 (pc := 65) dX5_oldest_65 ?_
            refine V_iinc_3 (pc := 66) dX5_oldest_66 ?_
            refine V_goto (pc := 69) 15 dX5_oldest_69 (by decide) ?_
            refine V.sub (by simp only [subL, Option.some.injEq, Sum.inl.injEq, Sum.inr.injEq, reduceCtorEq, true_or, or_true, false_or, true_and, and_true]; first | omega | (rw [hS, if_pos (by omega)]; omega) | (rw [hS, if_neg (by omega)]; omega)) ih
          · refine V_aload_0 (pc := 43) dX5_oldest_43 ?_
            refine V_getc (pc := 44) dX5_oldest_44 gf_X5_23 (by omega) ?_
            refine V_gets (pc := 47) dX5_oldest_47 gf_X5_134 (by omega) ?_
            refine V_iload_3 (pc := 50) dX5_oldest_50 ?_
            refine V_iald (pc := 51) dX5_oldest_51 sh_10 (by omega) (by omega) (hB.a10 (by omega)) ?_
            refine V_aload_0 (pc := 52) dX5_oldest_52 ?_
            refine V_getc (pc := 53) dX5_oldest_53 gf_X5_23 (by omega) ?_
            refine V_gets (pc := 56) dX5_oldest_56 gf_X5_134 (by omega) ?_
            refine V_iload_2 (pc := 59) dX5_oldest_59 ?_
            refine V_iald (pc := 60) dX5_oldest_60 sh_10 (by omega) (by omega) (hB.a10 (by omega)) ?_
            refine V_icmp_ge (pc := 61) 66 dX5_oldest_61 (by decide) (by omega) (by omega) (fun c_61 => ?_) (fun c_61 => ?_)
            · refine V_iinc_3 (pc := 66) dX5_oldest_66 ?_
              refine V_goto (pc := 69) 15 dX5_oldest_69 (by decide) ?_
              refine V.sub (by simp only [subL, Option.some.injEq, Sum.inl.injEq, Sum.inr.injEq, reduceCtorEq, true_or, or_true, false_or, true_and, and_true]; first | omega | (rw [hS, if_pos (by omega)]; omega) | (rw [hS, if_neg (by omega)]; omega)) ih
            · refine V_iload_3 (pc := 64) dX5_oldest_64 ?_
              refine V_istore_2 (pc := 65) dX5_oldest_65 ?_
              refine V_iinc_3 (pc := 66) dX5_oldest_66 ?_
              refine V_goto (pc := 69) 15 dX5_oldest_69 (by decide) ?_
              refine V.sub (by simp only [subL, Option.some.injEq, Sum.inl.injEq, Sum.inr.injEq, reduceCtorEq, true_or, or_true, false_or, true_and, and_true]; first | omega | (rw [hS, if_pos (by omega)]; omega) | (rw [hS, if_neg (by omega)]; omega)) ih
  refine V_aload_0 (pc := 0) dX5_oldest_0 ?_
  refine V_iload_1 (pc := 1) dX5_oldest_1 ?_
  refine V_callV1p (pc := 2) dX5_oldest_2 kv_X5_149 rc_0 (by omega) (d - 1) (by omega) rfl (c_X5_noYear (by omega) hB hs (by omega)) ?_
  refine V_if_eq_b (pc := 5) 11 dX5_oldest_5 (by decide) (fun c_5 => ?_) (fun c_5 => ?_)
  · refine V_iconst (pc := 11) dX5_oldest_11 ?_
    refine V_istore_2 (pc := 12) dX5_oldest_12 ?_
    refine V_iconst (pc := 13) dX5_oldest_13 ?_
    refine V_istore_3 (pc := 14) dX5_oldest_14 ?_
    exact loop (by omega) 0 (by omega)
  · refine V_bipush (pc := 8) dX5_oldest_8 (by decide) ?_
    refine V_iretI (pc := 10) dX5_oldest_10 rfl ?_
    exact ⟨_, rfl, by unfold q_oldest; (repeat' split) <;> first | rfl | omega, rfl⟩

set_option maxRecDepth 20000 in
set_option maxHeartbeats 1000000 in
theorem c_X5_blank {d : Nat} (hd : 1 ≤ d) {σ : MM} {B : BK} {e : Int} (hB : CB σ 1 B) (hW : WB B) (hC : CK σ 0 B (bt 0)) (he : IR e) : V yX5_blank cX5_blank 3 (some .int) d (QI (fun v σ' => v = q_blank B e ∧ σ' = σ)) 0 [some (vR 0 0), some (vI e), none] [] σ := by
  have hs := hW.s
  have loop : (¬ (e < 0 ∨ B 6 0 ≤ e)) → ∀ i : Nat, i ≤ (B 1 0 + 1 - B 13 e).toNat → (∀ x : Int, 0 ≤ x ∧ x < (B 13 e + (i : Int)) → ¬ (B 13 e ≤ x ∧ SHD B (bt 0) (x) e = 0)) → V yX5_blank cX5_blank 3 (some .int) d (QI (fun v σ' => v = q_blank B e ∧ σ' = σ)) 21 [some (vR 0 0), some (vI (e)), some (vI ((B 13 e + (i : Int))))] [] σ := by
    intro hR
    have he : 0 ≤ e ∧ e < B 6 0 := by omega
    have h1 := hW.e he
    refine up_ind (P := fun i : Nat => (∀ x : Int, 0 ≤ x ∧ x < (B 13 e + (i : Int)) → ¬ (B 13 e ≤ x ∧ SHD B (bt 0) (x) e = 0)) → V yX5_blank cX5_blank 3 (some .int) d (QI (fun v σ' => v = q_blank B e ∧ σ' = σ)) 21 [some (vR 0 0), some (vI (e)), some (vI ((B 13 e + (i : Int))))] [] σ) ?_ ?_
    · intro hI
      refine V_iload_2 (pc := 21) dX5_blank_21 ?_
      refine V_aload_0 (pc := 22) dX5_blank_22 ?_
      refine V_getc (pc := 23) dX5_blank_23 gf_X5_23 (by omega) ?_
      refine V_geti (pc := 26) dX5_blank_26 gf_X5_175 (by omega) hB.s1 ?_
      refine V_icmp_gt (pc := 29) 54 dX5_blank_29 (by decide) (by omega) (by omega) (fun c_29 => ?_) (fun c_29 => ?_)
      · refine V_iconst (pc := 54) dX5_blank_54 ?_
        refine V_iretI (pc := 55) dX5_blank_55 rfl ?_
        exact ⟨_, rfl, by unfold q_blank; rw [if_neg hR]; exact (fst_no _ _ (fun x hx => hI x (by omega))).symm, rfl⟩
      · exact absurd c_29 (by omega)
    · intro i hi ih hI
      have h2 := SHD_in (r := 0) (y := B 13 e + i) hW (e := e) (by omega)
      refine V_iload_2 (pc := 21) dX5_blank_21 ?_
      refine V_aload_0 (pc := 22) dX5_blank_22 ?_
      refine V_getc (pc := 23) dX5_blank_23 gf_X5_23 (by omega) ?_
      refine V_geti (pc := 26) dX5_blank_26 gf_X5_175 (by omega) hB.s1 ?_
      refine V_icmp_gt (pc := 29) 54 dX5_blank_29 (by decide) (by omega) (by omega) (fun c_29 => ?_) (fun c_29 => ?_)
      · exact absurd c_29 (by omega)
      · refine V_aload_0 (pc := 32) dX5_blank_32 ?_
        refine V_getc (pc := 33) dX5_blank_33 gf_X5_32 (by omega) ?_
        refine V_gets (pc := 36) dX5_blank_36 gf_X5_169 (by omega) ?_
        refine V_iload_2 (pc := 39) dX5_blank_39 ?_
        refine V_aald_19 (pc := 40) dX5_blank_40 (by omega) (by omega) ?_
        refine V_iload_1 (pc := 41) dX5_blank_41 ?_
        refine V_iald (pc := 42) dX5_blank_42 sh_22 (by omega) (by omega) (hC.sh (by omega) (by omega)) ?_
        refine V_if_ne (pc := 43) 48 dX5_blank_43 (by decide) (by omega) (fun c_43 => ?_) (fun c_43 => ?_)
        · refine V_iinc_2 (pc := 48) dX5_blank_48 ?_
          refine V_goto (pc := 51) 21 dX5_blank_51 (by decide) ?_
          refine V.sub (by simp only [subL, Option.some.injEq, Sum.inl.injEq, reduceCtorEq, true_or, or_true, false_or, true_and, and_true]; omega) (ih (nx_step hI (by omega) (by omega)))
        · refine V_iload_2 (pc := 46) dX5_blank_46 ?_
          refine V_iretI (pc := 47) dX5_blank_47 rfl ?_
          exact ⟨_, rfl, by unfold q_blank; rw [if_neg hR]; exact (fst_is (x := (B 13 e + (i : Int))) (by omega) _ _ (by omega) (fun x hx => hI x (by omega))).symm, rfl⟩
  refine V_aload_0 (pc := 0) dX5_blank_0 ?_
  refine V_iload_1 (pc := 1) dX5_blank_1 ?_
  refine V_callV1p (pc := 2) dX5_blank_2 kv_X5_125 rc_0 (by omega) (d - 1) (by omega) rfl (c_X5_noEntry (by omega) hB hs (by omega)) ?_
  refine V_if_eq_b (pc := 5) 11 dX5_blank_5 (by decide) (fun c_5 => ?_) (fun c_5 => ?_)
  · refine V_aload_0 (pc := 11) dX5_blank_11 ?_
    refine V_getc (pc := 12) dX5_blank_12 gf_X5_23 (by omega) ?_
    refine V_gets (pc := 15) dX5_blank_15 gf_X5_134 (by omega) ?_
    refine V_iload_1 (pc := 18) dX5_blank_18 ?_
    refine V_iald (pc := 19) dX5_blank_19 sh_10 (by omega) (by omega) (hB.a10 (by omega)) ?_
    refine V_istore_2 (pc := 20) dX5_blank_20 ?_
    refine V.sub (by simp only [subL, Option.some.injEq, Sum.inl.injEq, reduceCtorEq, true_or, or_true, false_or, true_and, and_true]; omega) (loop (by omega) 0 (by omega) (fun x hx => by have := hW.e (i := e) (by omega); omega))
  · refine V_bipush (pc := 8) dX5_blank_8 (by decide) ?_
    refine V_iretI (pc := 10) dX5_blank_10 rfl ?_
    exact ⟨_, rfl, by unfold q_blank; (repeat' split) <;> first | rfl | omega, rfl⟩

set_option maxRecDepth 20000 in
set_option maxHeartbeats 1000000 in
theorem c_X5_betrayed {d : Nat} (hd : 5 ≤ d) {σ : MM} {B : BK} {e : Int} (hB : CB σ 1 B) (hW : WB B) (hC : CK σ 0 B (bt 0)) (he : IR e) : V yX5_betrayed cX5_betrayed 3 (some .int) d (QI (fun v σ' => v = q_betrayed B e ∧ σ' = σ)) 0 [some (vR 0 0), some (vI e), none] [] σ := by
  have hs := hW.s
  have loop : (¬ (e < 0 ∨ B 6 0 ≤ e)) → ∀ i : Nat, i ≤ (B 1 0 + 1 - B 13 e).toNat → (∀ x : Int, 0 ≤ x ∧ x < (B 13 e + (i : Int)) → ¬ (B 13 e ≤ x ∧ PSI B e (x) = 0)) → V yX5_betrayed cX5_betrayed 3 (some .int) d (QI (fun v σ' => v = q_betrayed B e ∧ σ' = σ)) 21 [some (vR 0 0), some (vI (e)), some (vI ((B 13 e + (i : Int))))] [] σ := by
    intro hR
    have he : 0 ≤ e ∧ e < B 6 0 := by omega
    have h1 := hW.e he
    refine up_ind (P := fun i : Nat => (∀ x : Int, 0 ≤ x ∧ x < (B 13 e + (i : Int)) → ¬ (B 13 e ≤ x ∧ PSI B e (x) = 0)) → V yX5_betrayed cX5_betrayed 3 (some .int) d (QI (fun v σ' => v = q_betrayed B e ∧ σ' = σ)) 21 [some (vR 0 0), some (vI (e)), some (vI ((B 13 e + (i : Int))))] [] σ) ?_ ?_
    · intro hI
      refine V_iload_2 (pc := 21) dX5_betrayed_21 ?_
      refine V_aload_0 (pc := 22) dX5_betrayed_22 ?_
      refine V_getc (pc := 23) dX5_betrayed_23 gf_X5_23 (by omega) ?_
      refine V_geti (pc := 26) dX5_betrayed_26 gf_X5_175 (by omega) hB.s1 ?_
      refine V_icmp_gt (pc := 29) 49 dX5_betrayed_29 (by decide) (by omega) (by omega) (fun c_29 => ?_) (fun c_29 => ?_)
      · refine V_iconst (pc := 49) dX5_betrayed_49 ?_
        refine V_iretI (pc := 50) dX5_betrayed_50 rfl ?_
        exact ⟨_, rfl, by unfold q_betrayed; rw [if_neg hR]; exact (fst_no _ _ (fun x hx => hI x (by omega))).symm, rfl⟩
      · exact absurd c_29 (by omega)
    · intro i hi ih hI
      have h2 := PSI_in (y := B 13 e + i) hW (e := e) (by omega)
      refine V_iload_2 (pc := 21) dX5_betrayed_21 ?_
      refine V_aload_0 (pc := 22) dX5_betrayed_22 ?_
      refine V_getc (pc := 23) dX5_betrayed_23 gf_X5_23 (by omega) ?_
      refine V_geti (pc := 26) dX5_betrayed_26 gf_X5_175 (by omega) hB.s1 ?_
      refine V_icmp_gt (pc := 29) 49 dX5_betrayed_29 (by decide) (by omega) (by omega) (fun c_29 => ?_) (fun c_29 => ?_)
      · exact absurd c_29 (by omega)
      · refine V_aload_0 (pc := 32) dX5_betrayed_32 ?_
        refine V_iload_1 (pc := 33) dX5_betrayed_33 ?_
        refine V_iload_2 (pc := 34) dX5_betrayed_34 ?_
        refine V_callV2p (pc := 35) dX5_betrayed_35 kv_X5_212 rc_0 (by omega) (d - 1) (by omega) rfl (c_X5_passingInks (by omega) hB hW hC (by omega) (by omega)) ?_
        refine V_if_ne (pc := 38) 43 dX5_betrayed_38 (by decide) (by omega) (fun c_38 => ?_) (fun c_38 => ?_)
        · refine V_iinc_2 (pc := 43) dX5_betrayed_43 ?_
          refine V_goto (pc := 46) 21 dX5_betrayed_46 (by decide) ?_
          refine V.sub (by simp only [subL, Option.some.injEq, Sum.inl.injEq, reduceCtorEq, true_or, or_true, false_or, true_and, and_true]; omega) (ih (nx_step hI (by omega) (by omega)))
        · refine V_iload_2 (pc := 41) dX5_betrayed_41 ?_
          refine V_iretI (pc := 42) dX5_betrayed_42 rfl ?_
          exact ⟨_, rfl, by unfold q_betrayed; rw [if_neg hR]; exact (fst_is (x := (B 13 e + (i : Int))) (by omega) _ _ (by omega) (fun x hx => hI x (by omega))).symm, rfl⟩
  refine V_aload_0 (pc := 0) dX5_betrayed_0 ?_
  refine V_iload_1 (pc := 1) dX5_betrayed_1 ?_
  refine V_callV1p (pc := 2) dX5_betrayed_2 kv_X5_125 rc_0 (by omega) (d - 1) (by omega) rfl (c_X5_noEntry (by omega) hB hs (by omega)) ?_
  refine V_if_eq_b (pc := 5) 11 dX5_betrayed_5 (by decide) (fun c_5 => ?_) (fun c_5 => ?_)
  · refine V_aload_0 (pc := 11) dX5_betrayed_11 ?_
    refine V_getc (pc := 12) dX5_betrayed_12 gf_X5_23 (by omega) ?_
    refine V_gets (pc := 15) dX5_betrayed_15 gf_X5_134 (by omega) ?_
    refine V_iload_1 (pc := 18) dX5_betrayed_18 ?_
    refine V_iald (pc := 19) dX5_betrayed_19 sh_10 (by omega) (by omega) (hB.a10 (by omega)) ?_
    refine V_istore_2 (pc := 20) dX5_betrayed_20 ?_
    refine V.sub (by simp only [subL, Option.some.injEq, Sum.inl.injEq, reduceCtorEq, true_or, or_true, false_or, true_and, and_true]; omega) (loop (by omega) 0 (by omega) (fun x hx => by have := hW.e (i := e) (by omega); omega))
  · refine V_bipush (pc := 8) dX5_betrayed_8 (by decide) ?_
    refine V_iretI (pc := 10) dX5_betrayed_10 rfl ?_
    exact ⟨_, rfl, by unfold q_betrayed; (repeat' split) <;> first | rfl | omega, rfl⟩

set_option maxRecDepth 20000 in
set_option maxHeartbeats 1000000 in
theorem c_X5_cross {d : Nat} (hd : 2 ≤ d) {σ : MM} {B : BK} {e k : Int} (hB : CB σ 1 B) (hW : WB B) (hC : CK σ 0 B (bt 0)) (he : IR e) (hk : IR k) : V yX5_cross cX5_cross 4 (some .int) d (QI (fun v σ' => v = q_cross B e k ∧ σ' = σ)) 0 [some (vR 0 0), some (vI e), some (vI k), none] [] σ := by
  have hs := hW.s
  have loop : (¬ ((e < 0 ∨ B 6 0 ≤ e) ∨ (k < 0 ∨ B 6 0 ≤ k))) → ∀ i : Nat, i ≤ (B 1 0 + 1).toNat → (∀ x : Int, 0 ≤ x ∧ x < (i : Int) → ¬ ((B 13 e ≤ x ∧ B 13 k ≤ x) ∧ SHD B (bt 0) (x) k < SHD B (bt 0) (x) e)) → V yX5_cross cX5_cross 4 (some .int) d (QI (fun v σ' => v = q_cross B e k ∧ σ' = σ)) 21 [some (vR 0 0), some (vI (e)), some (vI (k)), some (vI ((i : Int)))] [] σ := by
    intro hR
    refine up_ind (P := fun i : Nat => (∀ x : Int, 0 ≤ x ∧ x < (i : Int) → ¬ ((B 13 e ≤ x ∧ B 13 k ≤ x) ∧ SHD B (bt 0) (x) k < SHD B (bt 0) (x) e)) → V yX5_cross cX5_cross 4 (some .int) d (QI (fun v σ' => v = q_cross B e k ∧ σ' = σ)) 21 [some (vR 0 0), some (vI (e)), some (vI (k)), some (vI ((i : Int)))] [] σ) ?_ ?_
    · intro hI
      refine V_iload_3 (pc := 21) dX5_cross_21 ?_
      refine V_aload_0 (pc := 22) dX5_cross_22 ?_
      refine V_getc (pc := 23) dX5_cross_23 gf_X5_23 (by omega) ?_
      refine V_geti (pc := 26) dX5_cross_26 gf_X5_175 (by omega) hB.s1 ?_
      refine V_icmp_gt (pc := 29) 60 dX5_cross_29 (by decide) (by omega) (by omega) (fun c_29 => ?_) (fun c_29 => ?_)
      · refine V_iconst (pc := 60) dX5_cross_60 ?_
        refine V_iretI (pc := 61) dX5_cross_61 rfl ?_
        exact ⟨_, rfl, by unfold q_cross; rw [if_neg hR]; exact (fst_no _ _ (fun x hx => hI x (by omega))).symm, rfl⟩
      · exact absurd c_29 (by omega)
    · intro i hi ih hI
      have h1 := SHD_in (r := 0) (y := (i : Int)) hW (e := e) (by omega)
      have h2 := SHD_in (r := 0) (y := (i : Int)) hW (e := k) (by omega)
      have hc := cmpI_in (SHD B (bt 0) i e) (SHD B (bt 0) i k)
      refine V_iload_3 (pc := 21) dX5_cross_21 ?_
      refine V_aload_0 (pc := 22) dX5_cross_22 ?_
      refine V_getc (pc := 23) dX5_cross_23 gf_X5_23 (by omega) ?_
      refine V_geti (pc := 26) dX5_cross_26 gf_X5_175 (by omega) hB.s1 ?_
      refine V_icmp_gt (pc := 29) 60 dX5_cross_29 (by decide) (by omega) (by omega) (fun c_29 => ?_) (fun c_29 => ?_)
      · exact absurd c_29 (by omega)
      · refine V_aload_0 (pc := 32) dX5_cross_32 ?_
        refine V_iload_1 (pc := 33) dX5_cross_33 ?_
        refine V_iload_2 (pc := 34) dX5_cross_34 ?_
        refine V_iload_3 (pc := 35) dX5_cross_35 ?_
        refine V_callV3p (pc := 36) dX5_cross_36 kv_X5_184 rc_0 (by omega) (d - 1) (by omega) rfl (c_X5_bothThere (by omega) hB hW (by omega) (by omega) (by omega)) ?_
        refine V_if_eq_b (pc := 39) 54 dX5_cross_39 (by decide) (fun c_39 => ?_) (fun c_39 => ?_)
        · refine V_iinc_3 (pc := 54) dX5_cross_54 ?_
          refine V_goto (pc := 57) 21 dX5_cross_57 (by decide) ?_
          refine V.sub (by simp only [subL, Option.some.injEq, Sum.inl.injEq, reduceCtorEq, true_or, or_true, false_or, true_and, and_true]; omega) (ih (nx_step hI (by omega) (by omega)))
        · refine V_aload_0 (pc := 42) dX5_cross_42 ?_
          refine V_iload_1 (pc := 43) dX5_cross_43 ?_
          refine V_iload_2 (pc := 44) dX5_cross_44 ?_
          refine V_iload_3 (pc := 45) dX5_cross_45 ?_
          refine V_callV3p (pc := 46) dX5_cross_46 kv_X5_188 rc_0 (by omega) (d - 1) (by omega) rfl (c_X5_compared (by omega) hB hW hC (by omega) (by omega) (by omega)) ?_
          refine V_if_le (pc := 49) 54 dX5_cross_49 (by decide) (by omega) (fun c_49 => ?_) (fun c_49 => ?_)
          · refine V_iinc_3 (pc := 54) dX5_cross_54 ?_
            refine V_goto (pc := 57) 21 dX5_cross_57 (by decide) ?_
            refine V.sub (by simp only [subL, Option.some.injEq, Sum.inl.injEq, reduceCtorEq, true_or, or_true, false_or, true_and, and_true]; omega) (ih (nx_step hI (by omega) (by omega)))
          · refine V_iload_3 (pc := 52) dX5_cross_52 ?_
            refine V_iretI (pc := 53) dX5_cross_53 rfl ?_
            exact ⟨_, rfl, by unfold q_cross; rw [if_neg hR]; exact (fst_is (x := (i : Int)) (by omega) _ _ (by omega) (fun x hx => hI x (by omega))).symm, rfl⟩
  refine V_aload_0 (pc := 0) dX5_cross_0 ?_
  refine V_iload_1 (pc := 1) dX5_cross_1 ?_
  refine V_callV1p (pc := 2) dX5_cross_2 kv_X5_125 rc_0 (by omega) (d - 1) (by omega) rfl (c_X5_noEntry (by omega) hB hs (by omega)) ?_
  refine V_if_ne_b (pc := 5) 16 dX5_cross_5 (by decide) (fun c_5 => ?_) (fun c_5 => ?_)
  · refine V_bipush (pc := 16) dX5_cross_16 (by decide) ?_
    refine V_iretI (pc := 18) dX5_cross_18 rfl ?_
    exact ⟨_, rfl, by unfold q_cross; (repeat' split) <;> first | rfl | omega, rfl⟩
  · refine V_aload_0 (pc := 8) dX5_cross_8 ?_
    refine V_iload_2 (pc := 9) dX5_cross_9 ?_
    refine V_callV1p (pc := 10) dX5_cross_10 kv_X5_125 rc_0 (by omega) (d - 1) (by omega) rfl (c_X5_noEntry (by omega) hB hs (by omega)) ?_
    refine V_if_eq_b (pc := 13) 19 dX5_cross_13 (by decide) (fun c_13 => ?_) (fun c_13 => ?_)
    · refine V_iconst (pc := 19) dX5_cross_19 ?_
      refine V_istore_3 (pc := 20) dX5_cross_20 ?_
      exact loop (by omega) 0 (by omega) (fun x hx => by omega)
    · refine V_bipush (pc := 16) dX5_cross_16 (by decide) ?_
      refine V_iretI (pc := 18) dX5_cross_18 rfl ?_
      exact ⟨_, rfl, by unfold q_cross; (repeat' split) <;> first | rfl | omega, rfl⟩

set_option maxRecDepth 20000 in
set_option maxHeartbeats 1000000 in
theorem c_X5_falls {d : Nat} (hd : 1 ≤ d) {σ : MM} {B : BK} {e : Int} (hB : CB σ 1 B) (hW : WB B) (hC : CK σ 0 B (bt 0)) (he : IR e) : V yX5_falls cX5_falls 4 (some .int) d (QI (fun v σ' => v = q_falls B e ∧ σ' = σ)) 0 [some (vR 0 0), some (vI e), none, none] [] σ := by
  have hs := hW.s
  have loop : (¬ (e < 0 ∨ B 6 0 ≤ e)) → ∀ i : Nat, i ≤ (B 1 0).toNat → V yX5_falls cX5_falls 4 (some .int) d (QI (fun v σ' => v = q_falls B e ∧ σ' = σ)) 15 [some (vR 0 0), some (vI (e)), some (vI (sumN (fun k => bI (SHD B (bt 0) (k + 1) e < SHD B (bt 0) k e)) i)), some (vI ((i : Int) + 1))] [] σ := by
    intro hR
    refine up_ind (P := fun i : Nat => V yX5_falls cX5_falls 4 (some .int) d (QI (fun v σ' => v = q_falls B e ∧ σ' = σ)) 15 [some (vR 0 0), some (vI (e)), some (vI (sumN (fun k => bI (SHD B (bt 0) (k + 1) e < SHD B (bt 0) k e)) i)), some (vI ((i : Int) + 1))] [] σ) ?_ ?_
    · 
      refine V_iload_3 (pc := 15) dX5_falls_15 ?_
      refine V_aload_0 (pc := 16) dX5_falls_16 ?_
      refine V_getc (pc := 17) dX5_falls_17 gf_X5_23 (by omega) ?_
      refine V_geti (pc := 20) dX5_falls_20 gf_X5_175 (by omega) hB.s1 ?_
      refine V_icmp_gt (pc := 23) 62 dX5_falls_23 (by decide) (by omega) (by omega) (fun c_23 => ?_) (fun c_23 => ?_)
      · refine V_iload_2 (pc := 62) dX5_falls_62 ?_
        refine V_iretI (pc := 63) dX5_falls_63 rfl ?_
        exact ⟨_, rfl, by unfold q_falls; (repeat' split) <;> first | rfl | omega, rfl⟩
      · exact absurd c_23 (by omega)
    · intro i hi ih
      have h1 := SHD_in (r := 0) (y := (i : Int) + 1) hW (e := e) (by omega)
      have h2 := SHD_in (r := 0) (y := (i : Int)) hW (e := e) (by omega)
      have hb := suI_in (fun k => SHD B (bt 0) (k + 1) e < SHD B (bt 0) k e) i
      have hS := sumN_S (fun k => bI (SHD B (bt 0) (k + 1) e < SHD B (bt 0) k e)) i
      refine V_iload_3 (pc := 15) dX5_falls_15 ?_
      refine V_aload_0 (pc := 16) dX5_falls_16 ?_
      refine V_getc (pc := 17) dX5_falls_17 gf_X5_23 (by omega) ?_
      refine V_geti (pc := 20) dX5_falls_20 gf_X5_175 (by omega) hB.s1 ?_
      refine V_icmp_gt (pc := 23) 62 dX5_falls_23 (by decide) (by omega) (by omega) (fun c_23 => ?_) (fun c_23 => ?_)
      · exact absurd c_23 (by omega)
      · refine V_aload_0 (pc := 26) dX5_falls_26 ?_
        refine V_getc (pc := 27) dX5_falls_27 gf_X5_32 (by omega) ?_
        refine V_gets (pc := 30) dX5_falls_30 gf_X5_169 (by omega) ?_
        refine V_iload_3 (pc := 33) dX5_falls_33 ?_
        refine V_aald_19 (pc := 34) dX5_falls_34 (by omega) (by omega) ?_
        refine V_iload_1 (pc := 35) dX5_falls_35 ?_
        refine V_iald (pc := 36) dX5_falls_36 sh_22 (by omega) (by omega) (hC.sh (by omega) (by omega)) ?_
        refine V_aload_0 (pc := 37) dX5_falls_37 ?_
        refine V_getc (pc := 38) dX5_falls_38 gf_X5_32 (by omega) ?_
        refine V_gets (pc := 41) dX5_falls_41 gf_X5_169 (by omega) ?_
        refine V_iload_3 (pc := 44) dX5_falls_44 ?_
        refine V_iconst (pc := 45) dX5_falls_45 ?_
        refine V_isub (pc := 46) dX5_falls_46 ?_
        refine V_aald_19 (pc := 47) dX5_falls_47 (by omega) (by omega) ?_
        refine V_iload_1 (pc := 48) dX5_falls_48 ?_
        refine V_iald (pc := 49) dX5_falls_49 sh_22 (by omega) (by omega) (v := SHD B (bt 0) (i : Int) e) (by rw [show (i : Int) + 1 - 1 = i by omega]; exact hC.sh (y := (i : Int)) (by omega) (by omega)) ?_
        refine V_icmp_ge (pc := 50) 56 dX5_falls_50 (by decide) (by omega) (by omega) (fun c_50 => ?_) (fun c_50 => ?_)
        · refine V_iinc_3 (pc := 56) dX5_falls_56 ?_
          refine V_goto (pc := 59) 15 dX5_falls_59 (by decide) ?_
          refine V.sub (by simp only [subL, Option.some.injEq, Sum.inl.injEq, Sum.inr.injEq, reduceCtorEq, true_or, or_true, false_or, true_and, and_true]; first | omega | (rw [hS, bI_t (by omega)]; omega) | (rw [hS, bI_f (by omega)]; omega)) ih
        · refine V_iinc_2 (pc := 53) dX5_falls_53 ?_
          refine V_iinc_3 (pc := 56) dX5_falls_56 ?_
          refine V_goto (pc := 59) 15 dX5_falls_59 (by decide) ?_
          refine V.sub (by simp only [subL, Option.some.injEq, Sum.inl.injEq, Sum.inr.injEq, reduceCtorEq, true_or, or_true, false_or, true_and, and_true]; first | omega | (rw [hS, bI_t (by omega)]; omega) | (rw [hS, bI_f (by omega)]; omega)) ih
  refine V_aload_0 (pc := 0) dX5_falls_0 ?_
  refine V_iload_1 (pc := 1) dX5_falls_1 ?_
  refine V_callV1p (pc := 2) dX5_falls_2 kv_X5_125 rc_0 (by omega) (d - 1) (by omega) rfl (c_X5_noEntry (by omega) hB hs (by omega)) ?_
  refine V_if_eq_b (pc := 5) 11 dX5_falls_5 (by decide) (fun c_5 => ?_) (fun c_5 => ?_)
  · refine V_iconst (pc := 11) dX5_falls_11 ?_
    refine V_istore_2 (pc := 12) dX5_falls_12 ?_
    refine V_iconst (pc := 13) dX5_falls_13 ?_
    refine V_istore_3 (pc := 14) dX5_falls_14 ?_
    exact loop (by omega) 0 (by omega)
  · refine V_bipush (pc := 8) dX5_falls_8 (by decide) ?_
    refine V_iretI (pc := 10) dX5_falls_10 rfl ?_
    exact ⟨_, rfl, by unfold q_falls; (repeat' split) <;> first | rfl | omega, rfl⟩

set_option maxRecDepth 20000 in
set_option maxHeartbeats 1000000 in
theorem c_X5_lasts {d : Nat} (hd : 1 ≤ d) {σ : MM} {B : BK} {e : Int} (hB : CB σ 1 B) (hW : WB B) (hC : CK σ 0 B (bt 0)) (he : IR e) : V yX5_lasts cX5_lasts 4 (some .int) d (QI (fun v σ' => v = q_lasts B e ∧ σ' = σ)) 0 [some (vR 0 0), some (vI e), none, none] [] σ := by
  have hs := hW.s
  have loop : (¬ (e < 0 ∨ B 6 0 ≤ e)) → ∀ i : Nat, i ≤ (B 1 0 + 1).toNat → V yX5_lasts cX5_lasts 4 (some .int) d (QI (fun v σ' => v = q_lasts B e ∧ σ' = σ)) 15 [some (vR 0 0), some (vI (e)), some (vI (sumN (fun y => bI (5 ≤ SHD B (bt 0) y e)) i)), some (vI (i : Int))] [] σ := by
    intro hR
    refine up_ind (P := fun i : Nat => V yX5_lasts cX5_lasts 4 (some .int) d (QI (fun v σ' => v = q_lasts B e ∧ σ' = σ)) 15 [some (vR 0 0), some (vI (e)), some (vI (sumN (fun y => bI (5 ≤ SHD B (bt 0) y e)) i)), some (vI (i : Int))] [] σ) ?_ ?_
    · 
      refine V_iload_3 (pc := 15) dX5_lasts_15 ?_
      refine V_aload_0 (pc := 16) dX5_lasts_16 ?_
      refine V_getc (pc := 17) dX5_lasts_17 gf_X5_23 (by omega) ?_
      refine V_geti (pc := 20) dX5_lasts_20 gf_X5_175 (by omega) hB.s1 ?_
      refine V_icmp_gt (pc := 23) 50 dX5_lasts_23 (by decide) (by omega) (by omega) (fun c_23 => ?_) (fun c_23 => ?_)
      · refine V_iload_2 (pc := 50) dX5_lasts_50 ?_
        refine V_iretI (pc := 51) dX5_lasts_51 rfl ?_
        exact ⟨_, rfl, by unfold q_lasts; (repeat' split) <;> first | rfl | omega, rfl⟩
      · exact absurd c_23 (by omega)
    · intro i hi ih
      have h1 := SHD_in (r := 0) (y := (i : Int)) hW (e := e) (by omega)
      have hb := suI_in (fun y => 5 ≤ SHD B (bt 0) y e) i
      have hS := sumN_S (fun y => bI (5 ≤ SHD B (bt 0) y e)) i
      refine V_iload_3 (pc := 15) dX5_lasts_15 ?_
      refine V_aload_0 (pc := 16) dX5_lasts_16 ?_
      refine V_getc (pc := 17) dX5_lasts_17 gf_X5_23 (by omega) ?_
      refine V_geti (pc := 20) dX5_lasts_20 gf_X5_175 (by omega) hB.s1 ?_
      refine V_icmp_gt (pc := 23) 50 dX5_lasts_23 (by decide) (by omega) (by omega) (fun c_23 => ?_) (fun c_23 => ?_)
      · exact absurd c_23 (by omega)
      · refine V_aload_0 (pc := 26) dX5_lasts_26 ?_
        refine V_getc (pc := 27) dX5_lasts_27 gf_X5_32 (by omega) ?_
        refine V_gets (pc := 30) dX5_lasts_30 gf_X5_169 (by omega) ?_
        refine V_iload_3 (pc := 33) dX5_lasts_33 ?_
        refine V_aald_19 (pc := 34) dX5_lasts_34 (by omega) (by omega) ?_
        refine V_iload_1 (pc := 35) dX5_lasts_35 ?_
        refine V_iald (pc := 36) dX5_lasts_36 sh_22 (by omega) (by omega) (hC.sh (by omega) (by omega)) ?_
        refine V_iconst (pc := 37) dX5_lasts_37 ?_
        refine V_icmp_lt (pc := 38) 44 dX5_lasts_38 (by decide) (by omega) (by omega) (fun c_38 => ?_) (fun c_38 => ?_)
        · refine V_iinc_3 (pc := 44) dX5_lasts_44 ?_
          refine V_goto (pc := 47) 15 dX5_lasts_47 (by decide) ?_
          refine V.sub (by simp only [subL, Option.some.injEq, Sum.inl.injEq, Sum.inr.injEq, reduceCtorEq, true_or, or_true, false_or, true_and, and_true]; first | omega | (rw [hS, bI_t (by omega)]; omega) | (rw [hS, bI_f (by omega)]; omega)) ih
        · refine V_iinc_2 (pc := 41) dX5_lasts_41 ?_
          refine V_iinc_3 (pc := 44) dX5_lasts_44 ?_
          refine V_goto (pc := 47) 15 dX5_lasts_47 (by decide) ?_
          refine V.sub (by simp only [subL, Option.some.injEq, Sum.inl.injEq, Sum.inr.injEq, reduceCtorEq, true_or, or_true, false_or, true_and, and_true]; first | omega | (rw [hS, bI_t (by omega)]; omega) | (rw [hS, bI_f (by omega)]; omega)) ih
  refine V_aload_0 (pc := 0) dX5_lasts_0 ?_
  refine V_iload_1 (pc := 1) dX5_lasts_1 ?_
  refine V_callV1p (pc := 2) dX5_lasts_2 kv_X5_125 rc_0 (by omega) (d - 1) (by omega) rfl (c_X5_noEntry (by omega) hB hs (by omega)) ?_
  refine V_if_eq_b (pc := 5) 11 dX5_lasts_5 (by decide) (fun c_5 => ?_) (fun c_5 => ?_)
  · refine V_iconst (pc := 11) dX5_lasts_11 ?_
    refine V_istore_2 (pc := 12) dX5_lasts_12 ?_
    refine V_iconst (pc := 13) dX5_lasts_13 ?_
    refine V_istore_3 (pc := 14) dX5_lasts_14 ?_
    exact loop (by omega) 0 (by omega)
  · refine V_bipush (pc := 8) dX5_lasts_8 (by decide) ?_
    refine V_iretI (pc := 10) dX5_lasts_10 rfl ?_
    exact ⟨_, rfl, by unfold q_lasts; (repeat' split) <;> first | rfl | omega, rfl⟩

set_option maxRecDepth 20000 in
set_option maxHeartbeats 1000000 in
theorem c_X5_match {d : Nat} (hd : 2 ≤ d) {σ : MM} {B : BK} {e k : Int} (hB : CB σ 1 B) (hW : WB B) (hC : CK σ 0 B (bt 0)) (he : IR e) (hk : IR k) : V yX5_match cX5_match 5 (some .int) d (QI (fun v σ' => v = q_match B e k ∧ σ' = σ)) 0 [some (vR 0 0), some (vI e), some (vI k), none, none] [] σ := by
  have hs := hW.s
  have loop : (¬ ((e < 0 ∨ B 6 0 ≤ e) ∨ (k < 0 ∨ B 6 0 ≤ k))) → ∀ i : Nat, i ≤ (B 1 0 + 1).toNat → V yX5_match cX5_match 5 (some .int) d (QI (fun v σ' => v = q_match B e k ∧ σ' = σ)) 24 [some (vR 0 0), some (vI (e)), some (vI (k)), some (vI (sumN (fun y => bI ((B 13 e ≤ y ∧ B 13 k ≤ y) ∧ SHD B (bt 0) y e = SHD B (bt 0) y k)) i)), some (vI (i : Int))] [] σ := by
    intro hR
    refine up_ind (P := fun i : Nat => V yX5_match cX5_match 5 (some .int) d (QI (fun v σ' => v = q_match B e k ∧ σ' = σ)) 24 [some (vR 0 0), some (vI (e)), some (vI (k)), some (vI (sumN (fun y => bI ((B 13 e ≤ y ∧ B 13 k ≤ y) ∧ SHD B (bt 0) y e = SHD B (bt 0) y k)) i)), some (vI (i : Int))] [] σ) ?_ ?_
    · 
      refine V_iload_4 (pc := 24) dX5_match_24 ?_
      refine V_aload_0 (pc := 26) dX5_match_26 ?_
      refine V_getc (pc := 27) dX5_match_27 gf_X5_23 (by omega) ?_
      refine V_geti (pc := 30) dX5_match_30 gf_X5_175 (by omega) hB.s1 ?_
      refine V_icmp_gt (pc := 33) 67 dX5_match_33 (by decide) (by omega) (by omega) (fun c_33 => ?_) (fun c_33 => ?_)
      · refine V_iload_3 (pc := 67) dX5_match_67 ?_
        refine V_iretI (pc := 68) dX5_match_68 rfl ?_
        exact ⟨_, rfl, by unfold q_match; (repeat' split) <;> first | rfl | omega, rfl⟩
      · exact absurd c_33 (by omega)
    · intro i hi ih
      have h1 := SHD_in (r := 0) (y := (i : Int)) hW (e := e) (by omega)
      have h2 := SHD_in (r := 0) (y := (i : Int)) hW (e := k) (by omega)
      have hc := cmpI_in (SHD B (bt 0) i e) (SHD B (bt 0) i k)
      have hb := suI_in (fun y => (B 13 e ≤ y ∧ B 13 k ≤ y) ∧ SHD B (bt 0) y e = SHD B (bt 0) y k) i
      have hS := sumN_S (fun y => bI ((B 13 e ≤ y ∧ B 13 k ≤ y) ∧ SHD B (bt 0) y e = SHD B (bt 0) y k)) i
      refine V_iload_4 (pc := 24) dX5_match_24 ?_
      refine V_aload_0 (pc := 26) dX5_match_26 ?_
      refine V_getc (pc := 27) dX5_match_27 gf_X5_23 (by omega) ?_
      refine V_geti (pc := 30) dX5_match_30 gf_X5_175 (by omega) hB.s1 ?_
      refine V_icmp_gt (pc := 33) 67 dX5_match_33 (by decide) (by omega) (by omega) (fun c_33 => ?_) (fun c_33 => ?_)
      · exact absurd c_33 (by omega)
      · refine V_aload_0 (pc := 36) dX5_match_36 ?_
        refine V_iload_1 (pc := 37) dX5_match_37 ?_
        refine V_iload_2 (pc := 38) dX5_match_38 ?_
        refine V_iload_4 (pc := 39) dX5_match_39 ?_
        refine V_callV3p (pc := 41) dX5_match_41 kv_X5_184 rc_0 (by omega) (d - 1) (by omega) rfl (c_X5_bothThere (by omega) hB hW (by omega) (by omega) (by omega)) ?_
        refine V_if_eq_b (pc := 44) 61 dX5_match_44 (by decide) (fun c_44 => ?_) (fun c_44 => ?_)
        · refine V_iinc_4 (pc := 61) dX5_match_61 ?_
          refine V_goto (pc := 64) 24 dX5_match_64 (by decide) ?_
          refine V.sub (by simp only [subL, Option.some.injEq, Sum.inl.injEq, Sum.inr.injEq, reduceCtorEq, true_or, or_true, false_or, true_and, and_true]; first | omega | (rw [hS, bI_t (by omega)]; omega) | (rw [hS, bI_f (by omega)]; omega)) ih
        · refine V_aload_0 (pc := 47) dX5_match_47 ?_
          refine V_iload_1 (pc := 48) dX5_match_48 ?_
          refine V_iload_2 (pc := 49) dX5_match_49 ?_
          refine V_iload_4 (pc := 50) dX5_match_50 ?_
          refine V_callV3p (pc := 52) dX5_match_52 kv_X5_188 rc_0 (by omega) (d - 1) (by omega) rfl (c_X5_compared (by omega) hB hW hC (by omega) (by omega) (by omega)) ?_
          refine V_if_ne (pc := 55) 61 dX5_match_55 (by decide) (by omega) (fun c_55 => ?_) (fun c_55 => ?_)
          · refine V_iinc_4 (pc := 61) dX5_match_61 ?_
            refine V_goto (pc := 64) 24 dX5_match_64 (by decide) ?_
            refine V.sub (by simp only [subL, Option.some.injEq, Sum.inl.injEq, Sum.inr.injEq, reduceCtorEq, true_or, or_true, false_or, true_and, and_true]; first | omega | (rw [hS, bI_t (by omega)]; omega) | (rw [hS, bI_f (by omega)]; omega)) ih
          · refine V_iinc_3 (pc := 58) dX5_match_58 ?_
            refine V_iinc_4 (pc := 61) dX5_match_61 ?_
            refine V_goto (pc := 64) 24 dX5_match_64 (by decide) ?_
            refine V.sub (by simp only [subL, Option.some.injEq, Sum.inl.injEq, Sum.inr.injEq, reduceCtorEq, true_or, or_true, false_or, true_and, and_true]; first | omega | (rw [hS, bI_t (by omega)]; omega) | (rw [hS, bI_f (by omega)]; omega)) ih
  refine V_aload_0 (pc := 0) dX5_match_0 ?_
  refine V_iload_1 (pc := 1) dX5_match_1 ?_
  refine V_callV1p (pc := 2) dX5_match_2 kv_X5_125 rc_0 (by omega) (d - 1) (by omega) rfl (c_X5_noEntry (by omega) hB hs (by omega)) ?_
  refine V_if_ne_b (pc := 5) 16 dX5_match_5 (by decide) (fun c_5 => ?_) (fun c_5 => ?_)
  · refine V_bipush (pc := 16) dX5_match_16 (by decide) ?_
    refine V_iretI (pc := 18) dX5_match_18 rfl ?_
    exact ⟨_, rfl, by unfold q_match; (repeat' split) <;> first | rfl | omega, rfl⟩
  · refine V_aload_0 (pc := 8) dX5_match_8 ?_
    refine V_iload_2 (pc := 9) dX5_match_9 ?_
    refine V_callV1p (pc := 10) dX5_match_10 kv_X5_125 rc_0 (by omega) (d - 1) (by omega) rfl (c_X5_noEntry (by omega) hB hs (by omega)) ?_
    refine V_if_eq_b (pc := 13) 19 dX5_match_13 (by decide) (fun c_13 => ?_) (fun c_13 => ?_)
    · refine V_iconst (pc := 19) dX5_match_19 ?_
      refine V_istore_3 (pc := 20) dX5_match_20 ?_
      refine V_iconst (pc := 21) dX5_match_21 ?_
      refine V_istore_4 (pc := 22) dX5_match_22 ?_
      exact loop (by omega) 0 (by omega)
    · refine V_bipush (pc := 16) dX5_match_16 (by decide) ?_
      refine V_iretI (pc := 18) dX5_match_18 rfl ?_
      exact ⟨_, rfl, by unfold q_match; (repeat' split) <;> first | rfl | omega, rfl⟩

set_option maxRecDepth 20000 in
set_option maxHeartbeats 1000000 in
theorem c_X5_suspects {d : Nat} (hd : 5 ≤ d) {σ : MM} {B : BK} {y : Int} (hB : CB σ 1 B) (hW : WB B) (hC : CK σ 0 B (bt 0)) (hy : IR y) : V yX5_suspects cX5_suspects 4 (some .int) d (QI (fun v σ' => v = q_suspects B y ∧ σ' = σ)) 0 [some (vR 0 0), some (vI y), none, none] [] σ := by
  have hs := hW.s
  have loop : (¬ (B 0 0 = 0 ∨ y < 0 ∨ B 1 0 < y)) → ∀ i : Nat, i ≤ (B 6 0).toNat → V yX5_suspects cX5_suspects 4 (some .int) d (QI (fun v σ' => v = q_suspects B y ∧ σ' = σ)) 15 [some (vR 0 0), some (vI (y)), some (vI (bsN (fun e => bI (B 13 e ≤ y ∧ PSI B e y = 0)) i)), some (vI (i : Int))] [] σ := by
    intro hR
    refine up_ind (P := fun i : Nat => V yX5_suspects cX5_suspects 4 (some .int) d (QI (fun v σ' => v = q_suspects B y ∧ σ' = σ)) 15 [some (vR 0 0), some (vI (y)), some (vI (bsN (fun e => bI (B 13 e ≤ y ∧ PSI B e y = 0)) i)), some (vI (i : Int))] [] σ) ?_ ?_
    · 
      refine V_iload_3 (pc := 15) dX5_suspects_15 ?_
      refine V_aload_0 (pc := 16) dX5_suspects_16 ?_
      refine V_getc (pc := 17) dX5_suspects_17 gf_X5_23 (by omega) ?_
      refine V_geti (pc := 20) dX5_suspects_20 gf_X5_159 (by omega) hB.s6 ?_
      refine V_icmp_ge (pc := 23) 59 dX5_suspects_23 (by decide) (by omega) (by omega) (fun c_23 => ?_) (fun c_23 => ?_)
      · refine V_iload_2 (pc := 59) dX5_suspects_59 ?_
        refine V_iretI (pc := 60) dX5_suspects_60 rfl ?_
        exact ⟨_, rfl, by unfold q_suspects; (repeat' split) <;> first | rfl | omega, rfl⟩
      · exact absurd c_23 (by omega)
    · intro i hi ih
      have h1 := hW.e (i := (i : Int)) (by omega)
      have h2 := PSI_in (y := y) hW (e := (i : Int)) (by omega)
      have hb := bsI_in (fun e => B 13 e ≤ y ∧ PSI B e y = 0) i
      have hS := bsN_S (fun e => bI (B 13 e ≤ y ∧ PSI B e y = 0)) i
      refine V_iload_3 (pc := 15) dX5_suspects_15 ?_
      refine V_aload_0 (pc := 16) dX5_suspects_16 ?_
      refine V_getc (pc := 17) dX5_suspects_17 gf_X5_23 (by omega) ?_
      refine V_geti (pc := 20) dX5_suspects_20 gf_X5_159 (by omega) hB.s6 ?_
      refine V_icmp_ge (pc := 23) 59 dX5_suspects_23 (by decide) (by omega) (by omega) (fun c_23 => ?_) (fun c_23 => ?_)
      · exact absurd c_23 (by omega)
      · refine V_aload_0 (pc := 26) dX5_suspects_26 ?_
        refine V_getc (pc := 27) dX5_suspects_27 gf_X5_23 (by omega) ?_
        refine V_iload_3 (pc := 30) dX5_suspects_30 ?_
        refine V_iload_1 (pc := 31) dX5_suspects_31 ?_
        refine V_callV2p (pc := 32) dX5_suspects_32 kv_X5_165 rc_3 (by omega) (d - 1) (by omega) rfl (c_X1_isThere (by omega) (by omega) hB hW (by omega) (by omega)) ?_
        refine V_if_eq_b (pc := 35) 53 dX5_suspects_35 (by decide) (fun c_35 => ?_) (fun c_35 => ?_)
        · refine V_iinc_3 (pc := 53) dX5_suspects_53 ?_
          refine V_goto (pc := 56) 15 dX5_suspects_56 (by decide) ?_
          refine V.sub (by simp only [subL, Option.some.injEq, Sum.inl.injEq, Sum.inr.injEq, reduceCtorEq, true_or, or_true, false_or, true_and, and_true]; first | omega | (rw [hS, bI_t (by omega)]; omega) | (rw [hS, bI_f (by omega)]; omega)) ih
        · refine V_aload_0 (pc := 38) dX5_suspects_38 ?_
          refine V_iload_3 (pc := 39) dX5_suspects_39 ?_
          refine V_iload_1 (pc := 40) dX5_suspects_40 ?_
          refine V_callV2p (pc := 41) dX5_suspects_41 kv_X5_212 rc_0 (by omega) (d - 1) (by omega) rfl (c_X5_passingInks (by omega) hB hW hC (by omega) (by omega)) ?_
          refine V_if_ne (pc := 44) 53 dX5_suspects_44 (by decide) (by omega) (fun c_44 => ?_) (fun c_44 => ?_)
          · refine V_iinc_3 (pc := 53) dX5_suspects_53 ?_
            refine V_goto (pc := 56) 15 dX5_suspects_56 (by decide) ?_
            refine V.sub (by simp only [subL, Option.some.injEq, Sum.inl.injEq, Sum.inr.injEq, reduceCtorEq, true_or, or_true, false_or, true_and, and_true]; first | omega | (rw [hS, bI_t (by omega)]; omega) | (rw [hS, bI_f (by omega)]; omega)) ih
          · refine V_iload_2 (pc := 47) dX5_suspects_47 ?_
            refine V_iconst (pc := 48) dX5_suspects_48 ?_
            refine V_iload_3 (pc := 49) dX5_suspects_49 ?_
            refine V_ishl_1 (pc := 50) dX5_suspects_50 (by omega) ?_
            refine V_ior_add (pc := 51) dX5_suspects_51 (by assumption) ?_
            refine V_istore_2 (pc := 52) dX5_suspects_52 ?_
            refine V_iinc_3 (pc := 53) dX5_suspects_53 ?_
            refine V_goto (pc := 56) 15 dX5_suspects_56 (by decide) ?_
            refine V.sub (by simp only [subL, Option.some.injEq, Sum.inl.injEq, Sum.inr.injEq, reduceCtorEq, true_or, or_true, false_or, true_and, and_true]; first | omega | (rw [hS, bI_t (by omega)]; omega) | (rw [hS, bI_f (by omega)]; omega)) ih
  refine V_aload_0 (pc := 0) dX5_suspects_0 ?_
  refine V_iload_1 (pc := 1) dX5_suspects_1 ?_
  refine V_callV1p (pc := 2) dX5_suspects_2 kv_X5_149 rc_0 (by omega) (d - 1) (by omega) rfl (c_X5_noYear (by omega) hB hs (by omega)) ?_
  refine V_if_eq_b (pc := 5) 11 dX5_suspects_5 (by decide) (fun c_5 => ?_) (fun c_5 => ?_)
  · refine V_iconst (pc := 11) dX5_suspects_11 ?_
    refine V_istore_2 (pc := 12) dX5_suspects_12 ?_
    refine V_iconst (pc := 13) dX5_suspects_13 ?_
    refine V_istore_3 (pc := 14) dX5_suspects_14 ?_
    exact loop (by omega) 0 (by omega)
  · refine V_bipush (pc := 8) dX5_suspects_8 (by decide) ?_
    refine V_iretI (pc := 10) dX5_suspects_10 rfl ?_
    exact ⟨_, rfl, by unfold q_suspects; (repeat' split) <;> first | rfl | omega, rfl⟩

set_option maxRecDepth 20000 in
set_option maxHeartbeats 1000000 in
theorem c_X5_honest {d : Nat} (hd : 4 ≤ d) {σ : MM} {B : BK} {y : Int} (hB : CB σ 1 B) (hW : WB B) (hC : CK σ 0 B (bt 0)) (hy : IR y) : V yX5_honest cX5_honest 4 (some .int) d (QI (fun v σ' => v = q_honest B y ∧ σ' = σ)) 0 [some (vR 0 0), some (vI y), none, none] [] σ := by
  have hs := hW.s
  have loop : (¬ (B 0 0 = 0 ∨ y < 0 ∨ B 1 0 < y)) → ∀ i : Nat, i ≤ (B 6 0).toNat → V yX5_honest cX5_honest 4 (some .int) d (QI (fun v σ' => v = q_honest B y ∧ σ' = σ)) 15 [some (vR 0 0), some (vI (y)), some (vI (bsN (fun e => bI (B 13 e ≤ y ∧ SHD B (bt 0) y e = LNE B (B 12 e) (B 11 e) (B 14 e) y)) i)), some (vI (i : Int))] [] σ := by
    intro hR
    refine up_ind (P := fun i : Nat => V yX5_honest cX5_honest 4 (some .int) d (QI (fun v σ' => v = q_honest B y ∧ σ' = σ)) 15 [some (vR 0 0), some (vI (y)), some (vI (bsN (fun e => bI (B 13 e ≤ y ∧ SHD B (bt 0) y e = LNE B (B 12 e) (B 11 e) (B 14 e) y)) i)), some (vI (i : Int))] [] σ) ?_ ?_
    · 
      refine V_iload_3 (pc := 15) dX5_honest_15 ?_
      refine V_aload_0 (pc := 16) dX5_honest_16 ?_
      refine V_getc (pc := 17) dX5_honest_17 gf_X5_23 (by omega) ?_
      refine V_geti (pc := 20) dX5_honest_20 gf_X5_159 (by omega) hB.s6 ?_
      refine V_icmp_ge (pc := 23) 68 dX5_honest_23 (by decide) (by omega) (by omega) (fun c_23 => ?_) (fun c_23 => ?_)
      · refine V_iload_2 (pc := 68) dX5_honest_68 ?_
        refine V_iretI (pc := 69) dX5_honest_69 rfl ?_
        exact ⟨_, rfl, by unfold q_honest; (repeat' split) <;> first | rfl | omega, rfl⟩
      · exact absurd c_23 (by omega)
    · intro i hi ih
      have h1 := hW.e (i := (i : Int)) (by omega)
      have hb := bsI_in (fun e => B 13 e ≤ y ∧ SHD B (bt 0) y e = LNE B (B 12 e) (B 11 e) (B 14 e) y) i
      have hS := bsN_S (fun e => bI (B 13 e ≤ y ∧ SHD B (bt 0) y e = LNE B (B 12 e) (B 11 e) (B 14 e) y)) i
      refine V_iload_3 (pc := 15) dX5_honest_15 ?_
      refine V_aload_0 (pc := 16) dX5_honest_16 ?_
      refine V_getc (pc := 17) dX5_honest_17 gf_X5_23 (by omega) ?_
      refine V_geti (pc := 20) dX5_honest_20 gf_X5_159 (by omega) hB.s6 ?_
      refine V_icmp_ge (pc := 23) 68 dX5_honest_23 (by decide) (by omega) (by omega) (fun c_23 => ?_) (fun c_23 => ?_)
      · exact absurd c_23 (by omega)
      · refine V_aload_0 (pc := 26) dX5_honest_26 ?_
        refine V_getc (pc := 27) dX5_honest_27 gf_X5_23 (by omega) ?_
        refine V_iload_3 (pc := 30) dX5_honest_30 ?_
        refine V_iload_1 (pc := 31) dX5_honest_31 ?_
        refine V_callV2p (pc := 32) dX5_honest_32 kv_X5_165 rc_3 (by omega) (d - 1) (by omega) rfl (c_X1_isThere (by omega) (by omega) hB hW (by omega) (by omega)) ?_
        refine V_if_eq_b (pc := 35) 62 dX5_honest_35 (by decide) (fun c_35 => ?_) (fun c_35 => ?_)
        · refine V_iinc_3 (pc := 62) dX5_honest_62 ?_
          refine V_goto (pc := 65) 15 dX5_honest_65 (by decide) ?_
          refine V.sub (by simp only [subL, Option.some.injEq, Sum.inl.injEq, Sum.inr.injEq, reduceCtorEq, true_or, or_true, false_or, true_and, and_true]; first | omega | (rw [hS, bI_t (by omega)]; omega) | (rw [hS, bI_f (by omega)]; omega)) ih
        · refine V_aload_0 (pc := 38) dX5_honest_38 ?_
          refine V_iload_3 (pc := 39) dX5_honest_39 ?_
          refine V_aload_0 (pc := 40) dX5_honest_40 ?_
          refine V_getc (pc := 41) dX5_honest_41 gf_X5_23 (by omega) ?_
          refine V_gets (pc := 44) dX5_honest_44 gf_X5_131 (by omega) ?_
          refine V_iload_3 (pc := 47) dX5_honest_47 ?_
          refine V_iald (pc := 48) dX5_honest_48 sh_9 (by omega) (by omega) (hB.a9 (by omega)) ?_
          refine V_iload_1 (pc := 49) dX5_honest_49 ?_
          refine V_callV3p (pc := 50) dX5_honest_50 kv_X5_215 rc_0 (by omega) (d - 1) (by omega) rfl (c_X5_passesBy (by omega) hB hW hC (by omega) (by omega) (by omega)) ?_
          refine V_if_eq_b (pc := 53) 62 dX5_honest_53 (by decide) (fun c_53 => ?_) (fun c_53 => ?_)
          · refine V_iinc_3 (pc := 62) dX5_honest_62 ?_
            refine V_goto (pc := 65) 15 dX5_honest_65 (by decide) ?_
            refine V.sub (by simp only [subL, Option.some.injEq, Sum.inl.injEq, Sum.inr.injEq, reduceCtorEq, true_or, or_true, false_or, true_and, and_true]; first | omega | (rw [hS, bI_t (by omega)]; omega) | (rw [hS, bI_f (by omega)]; omega)) ih
          · refine V_iload_2 (pc := 56) dX5_honest_56 ?_
            refine V_iconst (pc := 57) dX5_honest_57 ?_
            refine V_iload_3 (pc := 58) dX5_honest_58 ?_
            refine V_ishl_1 (pc := 59) dX5_honest_59 (by omega) ?_
            refine V_ior_add (pc := 60) dX5_honest_60 (by assumption) ?_
            refine V_istore_2 (pc := 61) dX5_honest_61 ?_
            refine V_iinc_3 (pc := 62) dX5_honest_62 ?_
            refine V_goto (pc := 65) 15 dX5_honest_65 (by decide) ?_
            refine V.sub (by simp only [subL, Option.some.injEq, Sum.inl.injEq, Sum.inr.injEq, reduceCtorEq, true_or, or_true, false_or, true_and, and_true]; first | omega | (rw [hS, bI_t (by omega)]; omega) | (rw [hS, bI_f (by omega)]; omega)) ih
  refine V_aload_0 (pc := 0) dX5_honest_0 ?_
  refine V_iload_1 (pc := 1) dX5_honest_1 ?_
  refine V_callV1p (pc := 2) dX5_honest_2 kv_X5_149 rc_0 (by omega) (d - 1) (by omega) rfl (c_X5_noYear (by omega) hB hs (by omega)) ?_
  refine V_if_eq_b (pc := 5) 11 dX5_honest_5 (by decide) (fun c_5 => ?_) (fun c_5 => ?_)
  · refine V_iconst (pc := 11) dX5_honest_11 ?_
    refine V_istore_2 (pc := 12) dX5_honest_12 ?_
    refine V_iconst (pc := 13) dX5_honest_13 ?_
    refine V_istore_3 (pc := 14) dX5_honest_14 ?_
    exact loop (by omega) 0 (by omega)
  · refine V_bipush (pc := 8) dX5_honest_8 (by decide) ?_
    refine V_iretI (pc := 10) dX5_honest_10 rfl ?_
    exact ⟨_, rfl, by unfold q_honest; (repeat' split) <;> first | rfl | omega, rfl⟩
