set_option maxRecDepth 20000 in
set_option maxHeartbeats 1000000 in
theorem c_X6_on {d : Nat} (hd : 2 ≤ d) {σ : MM} {B : BK} {p : Int} (hM : MB σ 0 B) (hG : GB B) (hp : IR p) : V yX6_on cX6_on 4 (some .int) d (QI (fun v σ' => v = q_on B p ∧ KM σ σ')) 0 [some (vR 34 0), some (vI p), none, none] [] σ := by
  have hW := hG.w
  have hs := hW.s
  have loop : (¬ (p < 0 ∨ B 5 0 ≤ p)) → ∀ i : Nat, i ≤ (B 6 0).toNat → ∀ σi : MM, (QT σ B σi) → V yX6_on cX6_on 4 (some .int) d (QI (fun v σ' => v = q_on B p ∧ KM σ σ')) 20 [some (vR 34 0), some (vI p), some (vI (bsN (fun e => bI (B 11 e = p)) i)), some (vI (i : Int))] [] σi := by
    intro hR
    refine up_ind (P := fun i : Nat => ∀ σi : MM, (QT σ B σi) → V yX6_on cX6_on 4 (some .int) d (QI (fun v σ' => v = q_on B p ∧ KM σ σ')) 20 [some (vR 34 0), some (vI p), some (vI (bsN (fun e => bI (B 11 e = p)) i)), some (vI (i : Int))] [] σi) ?_ ?_
    · intro σi hI
      have hI0 := hI
      obtain ⟨hM, hK⟩ := hI
      refine V_iload_3 (pc := 20) dX6_on_20 ?_
      refine V_aload_0 (pc := 21) dX6_on_21 ?_
      refine V_callV0p (pc := 22) dX6_on_22 kv_X6_236 rc_34 (by omega) (d - 1) (by omega) rfl (c_X6_entries (by omega) hM hW) ?_
      refine V_icmp_ge (pc := 25) 56 dX6_on_25 (by decide) (by omega) (by omega) (fun c_25 => ?_) (fun c_25 => ?_)
      · refine V_iload_2 (pc := 56) dX6_on_56 ?_
        refine V_iretI (pc := 57) dX6_on_57 rfl ?_
        exact ⟨_, rfl, by unfold q_on; rw [if_neg (by omega)], hK⟩
      · exact absurd c_25 (by omega)
    · intro i hi ih σi hI
      have hI0 := hI
      obtain ⟨hM, hK⟩ := hI
      have h1 := hW.e (i := (i : Int)) (by omega)
      have hb := bsI_in (fun e => B 11 e = p) i
      have hS_ := bsN_S (fun e => bI (B 11 e = p)) i
      refine V_iload_3 (pc := 20) dX6_on_20 ?_
      refine V_aload_0 (pc := 21) dX6_on_21 ?_
      refine V_callV0p (pc := 22) dX6_on_22 kv_X6_236 rc_34 (by omega) (d - 1) (by omega) rfl (c_X6_entries (by omega) hM hW) ?_
      refine V_icmp_ge (pc := 25) 56 dX6_on_25 (by decide) (by omega) (by omega) (fun c_25 => ?_) (fun c_25 => ?_)
      · exact absurd c_25 (by omega)
      · refine V_iload_2 (pc := 28) dX6_on_28 ?_
        refine V_aload_0 (pc := 29) dX6_on_29 ?_
        refine V_getc (pc := 30) dX6_on_30 gf_X6_43 (by omega) ?_
        refine V_iconst (pc := 33) dX6_on_33 ?_
        refine V_iload_3 (pc := 34) dX6_on_34 ?_
        refine V_imul (pc := 35) dX6_on_35 ?_
        refine V_iald (pc := 36) dX6_on_36 sh_44 (by omega) (by omega) (hM.t0 (by omega)) ?_
        refine V_iload_1 (pc := 37) dX6_on_37 ?_
        refine V_icmp_ne (pc := 38) 47 dX6_on_38 (by decide) (by omega) (by omega) (fun c_38 => ?_) (fun c_38 => ?_)
        · refine V_iconst (pc := 47) dX6_on_47 ?_
          first
            | refine V_ior_add (pc := 48) dX6_on_48 (by assumption) ?_
            | refine V_ior_0 (pc := 48) dX6_on_48 ?_
          refine V_istore_2 (pc := 49) dX6_on_49 ?_
          refine V_iinc_3 (pc := 50) dX6_on_50 ?_
          refine V_goto (pc := 53) 20 dX6_on_53 (by decide) ?_
          refine V.sub (by simp only [subL, Option.some.injEq, Sum.inl.injEq, Sum.inr.injEq, reduceCtorEq, true_or, or_true, false_or, true_and, and_true]; first | (rw [hS_, bI_t (by omega)]; omega) | (rw [hS_, bI_f (by omega)]; omega)) (ih _ hI0)
        · refine V_iconst (pc := 41) dX6_on_41 ?_
          refine V_iload_3 (pc := 42) dX6_on_42 ?_
          refine V_ishl_1 (pc := 43) dX6_on_43 (by omega) ?_
          refine V_goto (pc := 44) 48 dX6_on_44 (by decide) ?_
          first
            | refine V_ior_add (pc := 48) dX6_on_48 (by assumption) ?_
            | refine V_ior_0 (pc := 48) dX6_on_48 ?_
          refine V_istore_2 (pc := 49) dX6_on_49 ?_
          refine V_iinc_3 (pc := 50) dX6_on_50 ?_
          refine V_goto (pc := 53) 20 dX6_on_53 (by decide) ?_
          refine V.sub (by simp only [subL, Option.some.injEq, Sum.inl.injEq, Sum.inr.injEq, reduceCtorEq, true_or, or_true, false_or, true_and, and_true]; first | (rw [hS_, bI_t (by omega)]; omega) | (rw [hS_, bI_f (by omega)]; omega)) (ih _ hI0)
  refine V_aload_0 (pc := 0) dX6_on_0 ?_
  refine V_iconst (pc := 1) dX6_on_1 ?_
  refine V_puti (pc := 2) dX6_on_2 gf_X6_74 (by omega) ?_
  have hM := (KM.set (σ := σ) (t := 34) (k := 0) (z := 0) (v := 0) (by unfold SCM; omega)).mb hM
  refine V_aload_0 (pc := 5) dX6_on_5 ?_
  refine V_iload_1 (pc := 6) dX6_on_6 ?_
  refine V_callV1p (pc := 7) dX6_on_7 kv_X6_326 rc_34 (by omega) (d - 1) (by omega) rfl (c_X6_isPage (by omega) hM hW (by omega)) ?_
  refine V_if_ne_b (pc := 10) 16 dX6_on_10 (by decide) (fun c_10 => ?_) (fun c_10 => ?_)
  · refine V_iconst (pc := 16) dX6_on_16 ?_
    refine V_istore_2 (pc := 17) dX6_on_17 ?_
    refine V_iconst (pc := 18) dX6_on_18 ?_
    refine V_istore_3 (pc := 19) dX6_on_19 ?_
    exact loop (by omega) 0 (by omega) _ ⟨hM, (KM.set (σ := σ) (t := 34) (k := 0) (z := 0) (v := 0) (by unfold SCM; omega))⟩
  · refine V_bipush (pc := 13) dX6_on_13 (by decide) ?_
    refine V_iretI (pc := 15) dX6_on_15 rfl ?_
    exact ⟨_, rfl, by unfold q_on; rw [if_pos (by omega)], by first | exact (KM.set (σ := σ) (t := 34) (k := 0) (z := 0) (v := 0) (by unfold SCM; omega)).tr hK | exact (KM.set (σ := σ) (t := 34) (k := 0) (z := 0) (v := 0) (by unfold SCM; omega))⟩

set_option maxRecDepth 20000 in
set_option maxHeartbeats 1000000 in
theorem c_X6_lies {d : Nat} (hd : 1 ≤ d) {σ : MM} {B : BK} (hM : MB σ 0 B) (hG : GB B) : V yX6_lies cX6_lies 3 (some .int) d (QI (fun v σ' => v = q_lies B ∧ KM σ σ')) 0 [some (vR 34 0), none, none] [] σ := by
  have hW := hG.w
  have hs := hW.s
  have loop : (¬ B 0 0 = 0) → ∀ i : Nat, i ≤ (B 6 0).toNat → ∀ σi : MM, (QT σ B σi) → V yX6_lies cX6_lies 3 (some .int) d (QI (fun v σ' => v = q_lies B ∧ KM σ σ')) 19 [some (vR 34 0), some (vI (bsN (fun e => bI (B 14 e ≠ B 13 e)) i)), some (vI (i : Int))] [] σi := by
    intro hR
    refine up_ind (P := fun i : Nat => ∀ σi : MM, (QT σ B σi) → V yX6_lies cX6_lies 3 (some .int) d (QI (fun v σ' => v = q_lies B ∧ KM σ σ')) 19 [some (vR 34 0), some (vI (bsN (fun e => bI (B 14 e ≠ B 13 e)) i)), some (vI (i : Int))] [] σi) ?_ ?_
    · intro σi hI
      have hI0 := hI
      obtain ⟨hM, hK⟩ := hI
      refine V_iload_2 (pc := 19) dX6_lies_19 ?_
      refine V_aload_0 (pc := 20) dX6_lies_20 ?_
      refine V_callV0p (pc := 21) dX6_lies_21 kv_X6_236 rc_34 (by omega) (d - 1) (by omega) rfl (c_X6_entries (by omega) hM hW) ?_
      refine V_icmp_ge (pc := 24) 66 dX6_lies_24 (by decide) (by omega) (by omega) (fun c_24 => ?_) (fun c_24 => ?_)
      · refine V_iload_1 (pc := 66) dX6_lies_66 ?_
        refine V_iretI (pc := 67) dX6_lies_67 rfl ?_
        exact ⟨_, rfl, by unfold q_lies; rw [if_neg (by omega)], hK⟩
      · exact absurd c_24 (by omega)
    · intro i hi ih σi hI
      have hI0 := hI
      obtain ⟨hM, hK⟩ := hI
      have h1 := hW.e (i := (i : Int)) (by omega)
      have hb := bsI_in (fun e => B 14 e ≠ B 13 e) i
      have hS_ := bsN_S (fun e => bI (B 14 e ≠ B 13 e)) i
      refine V_iload_2 (pc := 19) dX6_lies_19 ?_
      refine V_aload_0 (pc := 20) dX6_lies_20 ?_
      refine V_callV0p (pc := 21) dX6_lies_21 kv_X6_236 rc_34 (by omega) (d - 1) (by omega) rfl (c_X6_entries (by omega) hM hW) ?_
      refine V_icmp_ge (pc := 24) 66 dX6_lies_24 (by decide) (by omega) (by omega) (fun c_24 => ?_) (fun c_24 => ?_)
      · exact absurd c_24 (by omega)
      · refine V_iload_1 (pc := 27) dX6_lies_27 ?_
        refine V_aload_0 (pc := 28) dX6_lies_28 ?_
        refine V_getc (pc := 29) dX6_lies_29 gf_X6_43 (by omega) ?_
        refine V_iconst (pc := 32) dX6_lies_32 ?_
        refine V_iload_2 (pc := 33) dX6_lies_33 ?_
        refine V_imul (pc := 34) dX6_lies_34 ?_
        refine V_iconst (pc := 35) dX6_lies_35 ?_
        refine V_iadd (pc := 36) dX6_lies_36 ?_
        refine V_iald (pc := 37) dX6_lies_37 sh_44 (by omega) (by omega) (hM.t2 (by omega)) ?_
        refine V_aload_0 (pc := 38) dX6_lies_38 ?_
        refine V_getc (pc := 39) dX6_lies_39 gf_X6_43 (by omega) ?_
        refine V_iconst (pc := 42) dX6_lies_42 ?_
        refine V_iload_2 (pc := 43) dX6_lies_43 ?_
        refine V_imul (pc := 44) dX6_lies_44 ?_
        refine V_iconst (pc := 45) dX6_lies_45 ?_
        refine V_iadd (pc := 46) dX6_lies_46 ?_
        refine V_iald (pc := 47) dX6_lies_47 sh_44 (by omega) (by omega) (hM.t3 (by omega)) ?_
        refine V_icmp_ne (pc := 48) 55 dX6_lies_48 (by decide) (by omega) (by omega) (fun c_48 => ?_) (fun c_48 => ?_)
        · refine V_iconst (pc := 55) dX6_lies_55 ?_
          refine V_iload_2 (pc := 56) dX6_lies_56 ?_
          refine V_ishl_1 (pc := 57) dX6_lies_57 (by omega) ?_
          first
            | refine V_ior_add (pc := 58) dX6_lies_58 (by assumption) ?_
            | refine V_ior_0 (pc := 58) dX6_lies_58 ?_
          refine V_istore_1 (pc := 59) dX6_lies_59 ?_
          refine V_iinc_2 (pc := 60) dX6_lies_60 ?_
          refine V_goto (pc := 63) 19 dX6_lies_63 (by decide) ?_
          refine V.sub (by simp only [subL, Option.some.injEq, Sum.inl.injEq, Sum.inr.injEq, reduceCtorEq, true_or, or_true, false_or, true_and, and_true]; first | (rw [hS_, bI_t (by omega)]; omega) | (rw [hS_, bI_f (by omega)]; omega)) (ih _ hI0)
        · refine V_iconst (pc := 51) dX6_lies_51 ?_
          refine V_goto (pc := 52) 58 dX6_lies_52 (by decide) ?_
          first
            | refine V_ior_add (pc := 58) dX6_lies_58 (by assumption) ?_
            | refine V_ior_0 (pc := 58) dX6_lies_58 ?_
          refine V_istore_1 (pc := 59) dX6_lies_59 ?_
          refine V_iinc_2 (pc := 60) dX6_lies_60 ?_
          refine V_goto (pc := 63) 19 dX6_lies_63 (by decide) ?_
          refine V.sub (by simp only [subL, Option.some.injEq, Sum.inl.injEq, Sum.inr.injEq, reduceCtorEq, true_or, or_true, false_or, true_and, and_true]; first | (rw [hS_, bI_t (by omega)]; omega) | (rw [hS_, bI_f (by omega)]; omega)) (ih _ hI0)
  refine V_aload_0 (pc := 0) dX6_lies_0 ?_
  refine V_iconst (pc := 1) dX6_lies_1 ?_
  refine V_puti (pc := 2) dX6_lies_2 gf_X6_74 (by omega) ?_
  have hM := (KM.set (σ := σ) (t := 34) (k := 0) (z := 0) (v := 0) (by unfold SCM; omega)).mb hM
  refine V_aload_0 (pc := 5) dX6_lies_5 ?_
  refine V_callV0p (pc := 6) dX6_lies_6 kv_X6_240 rc_34 (by omega) (d - 1) (by omega) rfl (c_X6_isBook (by omega) hM hW) ?_
  refine V_if_ne_b (pc := 9) 15 dX6_lies_9 (by decide) (fun c_9 => ?_) (fun c_9 => ?_)
  · refine V_iconst (pc := 15) dX6_lies_15 ?_
    refine V_istore_1 (pc := 16) dX6_lies_16 ?_
    refine V_iconst (pc := 17) dX6_lies_17 ?_
    refine V_istore_2 (pc := 18) dX6_lies_18 ?_
    exact loop (by omega) 0 (by omega) _ ⟨hM, (KM.set (σ := σ) (t := 34) (k := 0) (z := 0) (v := 0) (by unfold SCM; omega))⟩
  · refine V_bipush (pc := 12) dX6_lies_12 (by decide) ?_
    refine V_iretI (pc := 14) dX6_lies_14 rfl ?_
    exact ⟨_, rfl, by unfold q_lies; rw [if_pos (by omega)], by first | exact (KM.set (σ := σ) (t := 34) (k := 0) (z := 0) (v := 0) (by unfold SCM; omega)).tr hK | exact (KM.set (σ := σ) (t := 34) (k := 0) (z := 0) (v := 0) (by unfold SCM; omega))⟩

set_option maxRecDepth 20000 in
set_option maxHeartbeats 1000000 in
theorem c_X6_uses {d : Nat} (hd : 2 ≤ d) {σ : MM} {B : BK} {j : Int} (hM : MB σ 0 B) (hG : GB B) (hj : IR j) : V yX6_uses cX6_uses 4 (some .int) d (QI (fun v σ' => v = q_uses B j ∧ KM σ σ')) 0 [some (vR 34 0), some (vI j), none, none] [] σ := by
  have hW := hG.w
  have hs := hW.s
  have loop : (¬ (j < 0 ∨ B 4 0 ≤ j)) → ∀ i : Nat, i ≤ (B 6 0).toNat → ∀ σi : MM, (QT σ B σi) → V yX6_uses cX6_uses 4 (some .int) d (QI (fun v σ' => v = q_uses B j ∧ KM σ σ')) 20 [some (vR 34 0), some (vI j), some (vI (bsN (fun e => bI (B 12 e = j)) i)), some (vI (i : Int))] [] σi := by
    intro hR
    refine up_ind (P := fun i : Nat => ∀ σi : MM, (QT σ B σi) → V yX6_uses cX6_uses 4 (some .int) d (QI (fun v σ' => v = q_uses B j ∧ KM σ σ')) 20 [some (vR 34 0), some (vI j), some (vI (bsN (fun e => bI (B 12 e = j)) i)), some (vI (i : Int))] [] σi) ?_ ?_
    · intro σi hI
      have hI0 := hI
      obtain ⟨hM, hK⟩ := hI
      refine V_iload_3 (pc := 20) dX6_uses_20 ?_
      refine V_aload_0 (pc := 21) dX6_uses_21 ?_
      refine V_callV0p (pc := 22) dX6_uses_22 kv_X6_236 rc_34 (by omega) (d - 1) (by omega) rfl (c_X6_entries (by omega) hM hW) ?_
      refine V_icmp_ge (pc := 25) 58 dX6_uses_25 (by decide) (by omega) (by omega) (fun c_25 => ?_) (fun c_25 => ?_)
      · refine V_iload_2 (pc := 58) dX6_uses_58 ?_
        refine V_iretI (pc := 59) dX6_uses_59 rfl ?_
        exact ⟨_, rfl, by unfold q_uses; rw [if_neg (by omega)], hK⟩
      · exact absurd c_25 (by omega)
    · intro i hi ih σi hI
      have hI0 := hI
      obtain ⟨hM, hK⟩ := hI
      have h1 := hW.e (i := (i : Int)) (by omega)
      have hb := bsI_in (fun e => B 12 e = j) i
      have hS_ := bsN_S (fun e => bI (B 12 e = j)) i
      refine V_iload_3 (pc := 20) dX6_uses_20 ?_
      refine V_aload_0 (pc := 21) dX6_uses_21 ?_
      refine V_callV0p (pc := 22) dX6_uses_22 kv_X6_236 rc_34 (by omega) (d - 1) (by omega) rfl (c_X6_entries (by omega) hM hW) ?_
      refine V_icmp_ge (pc := 25) 58 dX6_uses_25 (by decide) (by omega) (by omega) (fun c_25 => ?_) (fun c_25 => ?_)
      · exact absurd c_25 (by omega)
      · refine V_iload_2 (pc := 28) dX6_uses_28 ?_
        refine V_aload_0 (pc := 29) dX6_uses_29 ?_
        refine V_getc (pc := 30) dX6_uses_30 gf_X6_43 (by omega) ?_
        refine V_iconst (pc := 33) dX6_uses_33 ?_
        refine V_iload_3 (pc := 34) dX6_uses_34 ?_
        refine V_imul (pc := 35) dX6_uses_35 ?_
        refine V_iconst (pc := 36) dX6_uses_36 ?_
        refine V_iadd (pc := 37) dX6_uses_37 ?_
        refine V_iald (pc := 38) dX6_uses_38 sh_44 (by omega) (by omega) (hM.t1 (by omega)) ?_
        refine V_iload_1 (pc := 39) dX6_uses_39 ?_
        refine V_icmp_ne (pc := 40) 49 dX6_uses_40 (by decide) (by omega) (by omega) (fun c_40 => ?_) (fun c_40 => ?_)
        · refine V_iconst (pc := 49) dX6_uses_49 ?_
          first
            | refine V_ior_add (pc := 50) dX6_uses_50 (by assumption) ?_
            | refine V_ior_0 (pc := 50) dX6_uses_50 ?_
          refine V_istore_2 (pc := 51) dX6_uses_51 ?_
          refine V_iinc_3 (pc := 52) dX6_uses_52 ?_
          refine V_goto (pc := 55) 20 dX6_uses_55 (by decide) ?_
          refine V.sub (by simp only [subL, Option.some.injEq, Sum.inl.injEq, Sum.inr.injEq, reduceCtorEq, true_or, or_true, false_or, true_and, and_true]; first | (rw [hS_, bI_t (by omega)]; omega) | (rw [hS_, bI_f (by omega)]; omega)) (ih _ hI0)
        · refine V_iconst (pc := 43) dX6_uses_43 ?_
          refine V_iload_3 (pc := 44) dX6_uses_44 ?_
          refine V_ishl_1 (pc := 45) dX6_uses_45 (by omega) ?_
          refine V_goto (pc := 46) 50 dX6_uses_46 (by decide) ?_
          first
            | refine V_ior_add (pc := 50) dX6_uses_50 (by assumption) ?_
            | refine V_ior_0 (pc := 50) dX6_uses_50 ?_
          refine V_istore_2 (pc := 51) dX6_uses_51 ?_
          refine V_iinc_3 (pc := 52) dX6_uses_52 ?_
          refine V_goto (pc := 55) 20 dX6_uses_55 (by decide) ?_
          refine V.sub (by simp only [subL, Option.some.injEq, Sum.inl.injEq, Sum.inr.injEq, reduceCtorEq, true_or, or_true, false_or, true_and, and_true]; first | (rw [hS_, bI_t (by omega)]; omega) | (rw [hS_, bI_f (by omega)]; omega)) (ih _ hI0)
  refine V_aload_0 (pc := 0) dX6_uses_0 ?_
  refine V_iconst (pc := 1) dX6_uses_1 ?_
  refine V_puti (pc := 2) dX6_uses_2 gf_X6_74 (by omega) ?_
  have hM := (KM.set (σ := σ) (t := 34) (k := 0) (z := 0) (v := 0) (by unfold SCM; omega)).mb hM
  refine V_aload_0 (pc := 5) dX6_uses_5 ?_
  refine V_iload_1 (pc := 6) dX6_uses_6 ?_
  refine V_callV1p (pc := 7) dX6_uses_7 kv_X6_321 rc_34 (by omega) (d - 1) (by omega) rfl (c_X6_isInk (by omega) hM hW (by omega)) ?_
  refine V_if_ne_b (pc := 10) 16 dX6_uses_10 (by decide) (fun c_10 => ?_) (fun c_10 => ?_)
  · refine V_iconst (pc := 16) dX6_uses_16 ?_
    refine V_istore_2 (pc := 17) dX6_uses_17 ?_
    refine V_iconst (pc := 18) dX6_uses_18 ?_
    refine V_istore_3 (pc := 19) dX6_uses_19 ?_
    exact loop (by omega) 0 (by omega) _ ⟨hM, (KM.set (σ := σ) (t := 34) (k := 0) (z := 0) (v := 0) (by unfold SCM; omega))⟩
  · refine V_bipush (pc := 13) dX6_uses_13 (by decide) ?_
    refine V_iretI (pc := 15) dX6_uses_15 rfl ?_
    exact ⟨_, rfl, by unfold q_uses; rw [if_pos (by omega)], by first | exact (KM.set (σ := σ) (t := 34) (k := 0) (z := 0) (v := 0) (by unfold SCM; omega)).tr hK | exact (KM.set (σ := σ) (t := 34) (k := 0) (z := 0) (v := 0) (by unfold SCM; omega))⟩

set_option maxRecDepth 20000 in
set_option maxHeartbeats 1000000 in
theorem c_X6_blank {d : Nat} (hd : 5 ≤ d) {σ : MM} {B : BK} {e : Int} (hM : MB σ 0 B) (hG : GB B) (he : IR e) : V yX6_blank cX6_blank 3 (some .int) d (QI (fun v σ' => v = q_blank B e ∧ KM σ σ')) 0 [some (vR 34 0), some (vI e), none] [] σ := by
  have hW := hG.w
  have hs := hW.s
  have loop : (¬ (e < 0 ∨ B 6 0 ≤ e)) → ∀ i : Nat, i ≤ (B 1 0 + 1).toNat → ∀ σi : MM, (QS σ B σi ∧ (∀ x : Int, 0 ≤ x ∧ x < (i : Int) → ¬ (B 13 e ≤ x ∧ SHD B (bt 0) x e = 0))) → V yX6_blank cX6_blank 3 (some .int) d (QI (fun v σ' => v = q_blank B e ∧ KM σ σ')) 23 [some (vR 34 0), some (vI e), some (vI (i : Int))] [] σi := by
    intro hR
    refine up_ind (P := fun i : Nat => ∀ σi : MM, (QS σ B σi ∧ (∀ x : Int, 0 ≤ x ∧ x < (i : Int) → ¬ (B 13 e ≤ x ∧ SHD B (bt 0) x e = 0))) → V yX6_blank cX6_blank 3 (some .int) d (QI (fun v σ' => v = q_blank B e ∧ KM σ σ')) 23 [some (vR 34 0), some (vI e), some (vI (i : Int))] [] σi) ?_ ?_
    · intro σi hI
      obtain ⟨⟨hM, hL, hS, hK⟩, hJ⟩ := hI
      refine V_iload_2 (pc := 23) dX6_blank_23 ?_
      refine V_aload_0 (pc := 24) dX6_blank_24 ?_
      refine V_callV0p (pc := 25) dX6_blank_25 kv_X6_243 rc_34 (by omega) (d - 1) (by omega) rfl (c_X6_years (by omega) hM hW) ?_
      refine V_icmp_gt (pc := 28) 57 dX6_blank_28 (by decide) (by omega) (by omega) (fun c_28 => ?_) (fun c_28 => ?_)
      · refine V_iconst (pc := 57) dX6_blank_57 ?_
        refine V_iretI (pc := 58) dX6_blank_58 rfl ?_
        exact ⟨_, rfl, by unfold q_blank; rw [if_neg (by omega)]; exact (fst_no (p := (fun x => B 13 e ≤ x ∧ SHD B (bt 0) x e = 0)) _ 0 (fun x hx => hJ x (by omega))).symm, hK⟩
      · exact absurd c_28 (by omega)
    · intro i hi ih σi hI
      obtain ⟨⟨hM, hL, hS, hK⟩, hJ⟩ := hI
      have h1 := SHD_in (r := 0) (y := (i : Int)) hW (e := e) (by omega)
      have h2 := hW.e (i := e) (by omega)
      refine V_iload_2 (pc := 23) dX6_blank_23 ?_
      refine V_aload_0 (pc := 24) dX6_blank_24 ?_
      refine V_callV0p (pc := 25) dX6_blank_25 kv_X6_243 rc_34 (by omega) (d - 1) (by omega) rfl (c_X6_years (by omega) hM hW) ?_
      refine V_icmp_gt (pc := 28) 57 dX6_blank_28 (by decide) (by omega) (by omega) (fun c_28 => ?_) (fun c_28 => ?_)
      · exact absurd c_28 (by omega)
      · refine V_aload_0 (pc := 31) dX6_blank_31 ?_
        refine V_iload_1 (pc := 32) dX6_blank_32 ?_
        refine V_iload_2 (pc := 33) dX6_blank_33 ?_
        refine V_callV2p (pc := 34) dX6_blank_34 kv_X6_293 rc_34 (by omega) (d - 1) (by omega) rfl (c_X6_isThere (by omega) hM hW hL (by omega) (by omega)) ?_
        refine V_if_eq_b (pc := 37) 51 dX6_blank_37 (by decide) (fun c_37 => ?_) (fun c_37 => ?_)
        · refine V_iinc_2 (pc := 51) dX6_blank_51 ?_
          refine V_goto (pc := 54) 23 dX6_blank_54 (by decide) ?_
          refine V.sub (by simp only [subL, Option.some.injEq, Sum.inl.injEq, reduceCtorEq, true_or, or_true, false_or, true_and, and_true]; omega) (ih _ ⟨⟨hM, hL, hS, hK⟩, nx_step hJ (by omega) (by omega)⟩)
        · refine V_aload_0 (pc := 40) dX6_blank_40 ?_
          refine V_iload_1 (pc := 41) dX6_blank_41 ?_
          refine V_iload_2 (pc := 42) dX6_blank_42 ?_
          refine V_callV2p (pc := 43) dX6_blank_43 kv_X6_283 rc_34 (by omega) (d - 1) (by omega) rfl (c_X6_shadeOf (by omega) (by omega) (by omega) (hS.s (by omega) (by omega))) ?_
          refine V_if_ne (pc := 46) 51 dX6_blank_46 (by decide) (by omega) (fun c_46 => ?_) (fun c_46 => ?_)
          · refine V_iinc_2 (pc := 51) dX6_blank_51 ?_
            refine V_goto (pc := 54) 23 dX6_blank_54 (by decide) ?_
            refine V.sub (by simp only [subL, Option.some.injEq, Sum.inl.injEq, reduceCtorEq, true_or, or_true, false_or, true_and, and_true]; omega) (ih _ ⟨⟨hM, hL, hS, hK⟩, nx_step hJ (by omega) (by omega)⟩)
          · refine V_iload_2 (pc := 49) dX6_blank_49 ?_
            refine V_iretI (pc := 50) dX6_blank_50 rfl ?_
            exact ⟨_, rfl, by unfold q_blank; rw [if_neg (by omega)]; exact (fst_is (p := (fun x => B 13 e ≤ x ∧ SHD B (bt 0) x e = 0)) (x := (i : Int)) (by omega) _ 0 (by omega) (fun x hx => hJ x (by omega))).symm, hK⟩
  refine V_aload_0 (pc := 0) dX6_blank_0 ?_
  refine V_iconst (pc := 1) dX6_blank_1 ?_
  refine V_puti (pc := 2) dX6_blank_2 gf_X6_74 (by omega) ?_
  have hM := (KM.set (σ := σ) (t := 34) (k := 0) (z := 0) (v := 0) (by unfold SCM; omega)).mb hM
  refine V_aload_0 (pc := 5) dX6_blank_5 ?_
  refine V_iload_1 (pc := 6) dX6_blank_6 ?_
  refine V_i2l (pc := 7) dX6_blank_7 (by omega) ?_
  refine V_callV1p (pc := 8) dX6_blank_8 kv_X6_246 rc_34 (by omega) (d - 1) (by omega) rfl (c_X6_isEntry (by omega) hM hW (by omega)) ?_
  refine V_if_ne_b (pc := 11) 17 dX6_blank_11 (by decide) (fun c_11 => ?_) (fun c_11 => ?_)
  · refine V_aload_0 (pc := 17) dX6_blank_17 ?_
    refine V_callV0z (pc := 18) dX6_blank_18 kv_X6_337 rc_34 (by omega) (d - 1) (by omega) rfl (c_X6_laysNow (by omega) hM hW) (fun σ_18 h_18 => ?_)
    obtain ⟨hL, hS, hK⟩ := h_18
    have hM := hK.mb hM
    refine V_iconst (pc := 21) dX6_blank_21 ?_
    refine V_istore_2 (pc := 22) dX6_blank_22 ?_
    exact loop (by omega) 0 (by omega) _ ⟨⟨hM, hL, hS, (KM.set (σ := σ) (t := 34) (k := 0) (z := 0) (v := 0) (by unfold SCM; omega)).tr hK⟩, fun x hx => by omega⟩
  · refine V_bipush (pc := 14) dX6_blank_14 (by decide) ?_
    refine V_iretI (pc := 16) dX6_blank_16 rfl ?_
    exact ⟨_, rfl, by unfold q_blank; rw [if_pos (by omega)], by first | exact (KM.set (σ := σ) (t := 34) (k := 0) (z := 0) (v := 0) (by unfold SCM; omega)).tr hK | exact (KM.set (σ := σ) (t := 34) (k := 0) (z := 0) (v := 0) (by unfold SCM; omega))⟩

set_option maxRecDepth 20000 in
set_option maxHeartbeats 1000000 in
theorem c_X6_betrayed {d : Nat} (hd : 5 ≤ d) {σ : MM} {B : BK} {e : Int} (hM : MB σ 0 B) (hG : GB B) (he : IR e) : V yX6_betrayed cX6_betrayed 3 (some .int) d (QI (fun v σ' => v = q_betrayed B e ∧ KM σ σ')) 0 [some (vR 34 0), some (vI e), none] [] σ := by
  have hW := hG.w
  have hs := hW.s
  have loop : (¬ (e < 0 ∨ B 6 0 ≤ e)) → ∀ i : Nat, i ≤ (B 1 0 + 1).toNat → ∀ σi : MM, (QS σ B σi ∧ (∀ x : Int, 0 ≤ x ∧ x < (i : Int) → ¬ (B 13 e ≤ x ∧ PSI B e x = 0))) → V yX6_betrayed cX6_betrayed 3 (some .int) d (QI (fun v σ' => v = q_betrayed B e ∧ KM σ σ')) 23 [some (vR 34 0), some (vI e), some (vI (i : Int))] [] σi := by
    intro hR
    refine up_ind (P := fun i : Nat => ∀ σi : MM, (QS σ B σi ∧ (∀ x : Int, 0 ≤ x ∧ x < (i : Int) → ¬ (B 13 e ≤ x ∧ PSI B e x = 0))) → V yX6_betrayed cX6_betrayed 3 (some .int) d (QI (fun v σ' => v = q_betrayed B e ∧ KM σ σ')) 23 [some (vR 34 0), some (vI e), some (vI (i : Int))] [] σi) ?_ ?_
    · intro σi hI
      obtain ⟨⟨hM, hL, hS, hK⟩, hJ⟩ := hI
      refine V_iload_2 (pc := 23) dX6_betrayed_23 ?_
      refine V_aload_0 (pc := 24) dX6_betrayed_24 ?_
      refine V_callV0p (pc := 25) dX6_betrayed_25 kv_X6_243 rc_34 (by omega) (d - 1) (by omega) rfl (c_X6_years (by omega) hM hW) ?_
      refine V_icmp_gt (pc := 28) 57 dX6_betrayed_28 (by decide) (by omega) (by omega) (fun c_28 => ?_) (fun c_28 => ?_)
      · refine V_iconst (pc := 57) dX6_betrayed_57 ?_
        refine V_iretI (pc := 58) dX6_betrayed_58 rfl ?_
        exact ⟨_, rfl, by unfold q_betrayed; rw [if_neg (by omega)]; exact (fst_no (p := (fun x => B 13 e ≤ x ∧ PSI B e x = 0)) _ 0 (fun x hx => hJ x (by omega))).symm, hK⟩
      · exact absurd c_28 (by omega)
    · intro i hi ih σi hI
      obtain ⟨⟨hM, hL, hS, hK⟩, hJ⟩ := hI
      have h3 := PSI_in (y := (i : Int)) hW (e := e) (by omega)
      have h2 := hW.e (i := e) (by omega)
      refine V_iload_2 (pc := 23) dX6_betrayed_23 ?_
      refine V_aload_0 (pc := 24) dX6_betrayed_24 ?_
      refine V_callV0p (pc := 25) dX6_betrayed_25 kv_X6_243 rc_34 (by omega) (d - 1) (by omega) rfl (c_X6_years (by omega) hM hW) ?_
      refine V_icmp_gt (pc := 28) 57 dX6_betrayed_28 (by decide) (by omega) (by omega) (fun c_28 => ?_) (fun c_28 => ?_)
      · exact absurd c_28 (by omega)
      · refine V_aload_0 (pc := 31) dX6_betrayed_31 ?_
        refine V_iload_1 (pc := 32) dX6_betrayed_32 ?_
        refine V_iload_2 (pc := 33) dX6_betrayed_33 ?_
        refine V_callV2p (pc := 34) dX6_betrayed_34 kv_X6_293 rc_34 (by omega) (d - 1) (by omega) rfl (c_X6_isThere (by omega) hM hW hL (by omega) (by omega)) ?_
        refine V_if_eq_b (pc := 37) 51 dX6_betrayed_37 (by decide) (fun c_37 => ?_) (fun c_37 => ?_)
        · refine V_iinc_2 (pc := 51) dX6_betrayed_51 ?_
          refine V_goto (pc := 54) 23 dX6_betrayed_54 (by decide) ?_
          refine V.sub (by simp only [subL, Option.some.injEq, Sum.inl.injEq, reduceCtorEq, true_or, or_true, false_or, true_and, and_true]; omega) (ih _ ⟨⟨hM, hL, hS, hK⟩, nx_step hJ (by omega) (by omega)⟩)
        · refine V_aload_0 (pc := 40) dX6_betrayed_40 ?_
          refine V_iload_1 (pc := 41) dX6_betrayed_41 ?_
          refine V_iload_2 (pc := 42) dX6_betrayed_42 ?_
          refine V_callV2p (pc := 43) dX6_betrayed_43 kv_X6_363 rc_34 (by omega) (d - 1) (by omega) rfl (c_X6_passesOf (by omega) hM hW hL hS (by omega) (by omega)) ?_
          refine V_if_ne (pc := 46) 51 dX6_betrayed_46 (by decide) (by omega) (fun c_46 => ?_) (fun c_46 => ?_)
          · refine V_iinc_2 (pc := 51) dX6_betrayed_51 ?_
            refine V_goto (pc := 54) 23 dX6_betrayed_54 (by decide) ?_
            refine V.sub (by simp only [subL, Option.some.injEq, Sum.inl.injEq, reduceCtorEq, true_or, or_true, false_or, true_and, and_true]; omega) (ih _ ⟨⟨hM, hL, hS, hK⟩, nx_step hJ (by omega) (by omega)⟩)
          · refine V_iload_2 (pc := 49) dX6_betrayed_49 ?_
            refine V_iretI (pc := 50) dX6_betrayed_50 rfl ?_
            exact ⟨_, rfl, by unfold q_betrayed; rw [if_neg (by omega)]; exact (fst_is (p := (fun x => B 13 e ≤ x ∧ PSI B e x = 0)) (x := (i : Int)) (by omega) _ 0 (by omega) (fun x hx => hJ x (by omega))).symm, hK⟩
  refine V_aload_0 (pc := 0) dX6_betrayed_0 ?_
  refine V_iconst (pc := 1) dX6_betrayed_1 ?_
  refine V_puti (pc := 2) dX6_betrayed_2 gf_X6_74 (by omega) ?_
  have hM := (KM.set (σ := σ) (t := 34) (k := 0) (z := 0) (v := 0) (by unfold SCM; omega)).mb hM
  refine V_aload_0 (pc := 5) dX6_betrayed_5 ?_
  refine V_iload_1 (pc := 6) dX6_betrayed_6 ?_
  refine V_i2l (pc := 7) dX6_betrayed_7 (by omega) ?_
  refine V_callV1p (pc := 8) dX6_betrayed_8 kv_X6_246 rc_34 (by omega) (d - 1) (by omega) rfl (c_X6_isEntry (by omega) hM hW (by omega)) ?_
  refine V_if_ne_b (pc := 11) 17 dX6_betrayed_11 (by decide) (fun c_11 => ?_) (fun c_11 => ?_)
  · refine V_aload_0 (pc := 17) dX6_betrayed_17 ?_
    refine V_callV0z (pc := 18) dX6_betrayed_18 kv_X6_337 rc_34 (by omega) (d - 1) (by omega) rfl (c_X6_laysNow (by omega) hM hW) (fun σ_18 h_18 => ?_)
    obtain ⟨hL, hS, hK⟩ := h_18
    have hM := hK.mb hM
    refine V_iconst (pc := 21) dX6_betrayed_21 ?_
    refine V_istore_2 (pc := 22) dX6_betrayed_22 ?_
    exact loop (by omega) 0 (by omega) _ ⟨⟨hM, hL, hS, (KM.set (σ := σ) (t := 34) (k := 0) (z := 0) (v := 0) (by unfold SCM; omega)).tr hK⟩, fun x hx => by omega⟩
  · refine V_bipush (pc := 14) dX6_betrayed_14 (by decide) ?_
    refine V_iretI (pc := 16) dX6_betrayed_16 rfl ?_
    exact ⟨_, rfl, by unfold q_betrayed; rw [if_pos (by omega)], by first | exact (KM.set (σ := σ) (t := 34) (k := 0) (z := 0) (v := 0) (by unfold SCM; omega)).tr hK | exact (KM.set (σ := σ) (t := 34) (k := 0) (z := 0) (v := 0) (by unfold SCM; omega))⟩

set_option maxRecDepth 20000 in
set_option maxHeartbeats 1000000 in
theorem c_X6_cross {d : Nat} (hd : 5 ≤ d) {σ : MM} {B : BK} {e o : Int} (hM : MB σ 0 B) (hG : GB B) (he : IR e) (ho : IR o) : V yX6_cross cX6_cross 4 (some .int) d (QI (fun v σ' => v = q_cross B e o ∧ KM σ σ')) 0 [some (vR 34 0), some (vI e), some (vI o), none] [] σ := by
  have hW := hG.w
  have hs := hW.s
  have loop : (¬ ((e < 0 ∨ B 6 0 ≤ e) ∨ (o < 0 ∨ B 6 0 ≤ o))) → ∀ i : Nat, i ≤ (B 1 0 + 1).toNat → ∀ σi : MM, (QS σ B σi ∧ (∀ x : Int, 0 ≤ x ∧ x < (i : Int) → ¬ ((B 13 e ≤ x ∧ B 13 o ≤ x) ∧ SHD B (bt 0) x o < SHD B (bt 0) x e))) → V yX6_cross cX6_cross 4 (some .int) d (QI (fun v σ' => v = q_cross B e o ∧ KM σ σ')) 32 [some (vR 34 0), some (vI e), some (vI o), some (vI (i : Int))] [] σi := by
    intro hR
    refine up_ind (P := fun i : Nat => ∀ σi : MM, (QS σ B σi ∧ (∀ x : Int, 0 ≤ x ∧ x < (i : Int) → ¬ ((B 13 e ≤ x ∧ B 13 o ≤ x) ∧ SHD B (bt 0) x o < SHD B (bt 0) x e))) → V yX6_cross cX6_cross 4 (some .int) d (QI (fun v σ' => v = q_cross B e o ∧ KM σ σ')) 32 [some (vR 34 0), some (vI e), some (vI o), some (vI (i : Int))] [] σi) ?_ ?_
    · intro σi hI
      obtain ⟨⟨hM, hL, hS, hK⟩, hJ⟩ := hI
      refine V_iload_3 (pc := 32) dX6_cross_32 ?_
      refine V_aload_0 (pc := 33) dX6_cross_33 ?_
      refine V_callV0p (pc := 34) dX6_cross_34 kv_X6_243 rc_34 (by omega) (d - 1) (by omega) rfl (c_X6_years (by omega) hM hW) ?_
      refine V_icmp_gt (pc := 37) 81 dX6_cross_37 (by decide) (by omega) (by omega) (fun c_37 => ?_) (fun c_37 => ?_)
      · refine V_iconst (pc := 81) dX6_cross_81 ?_
        refine V_iretI (pc := 82) dX6_cross_82 rfl ?_
        exact ⟨_, rfl, by unfold q_cross; rw [if_neg (by omega)]; exact (fst_no (p := (fun x => (B 13 e ≤ x ∧ B 13 o ≤ x) ∧ SHD B (bt 0) x o < SHD B (bt 0) x e)) _ 0 (fun x hx => hJ x (by omega))).symm, hK⟩
      · exact absurd c_37 (by omega)
    · intro i hi ih σi hI
      obtain ⟨⟨hM, hL, hS, hK⟩, hJ⟩ := hI
      have h1 := SHD_in (r := 0) (y := (i : Int)) hW (e := e) (by omega)
      have h2 := SHD_in (r := 0) (y := (i : Int)) hW (e := o) (by omega)
      refine V_iload_3 (pc := 32) dX6_cross_32 ?_
      refine V_aload_0 (pc := 33) dX6_cross_33 ?_
      refine V_callV0p (pc := 34) dX6_cross_34 kv_X6_243 rc_34 (by omega) (d - 1) (by omega) rfl (c_X6_years (by omega) hM hW) ?_
      refine V_icmp_gt (pc := 37) 81 dX6_cross_37 (by decide) (by omega) (by omega) (fun c_37 => ?_) (fun c_37 => ?_)
      · exact absurd c_37 (by omega)
      · refine V_aload_0 (pc := 40) dX6_cross_40 ?_
        refine V_iload_1 (pc := 41) dX6_cross_41 ?_
        refine V_iload_3 (pc := 42) dX6_cross_42 ?_
        refine V_callV2p (pc := 43) dX6_cross_43 kv_X6_293 rc_34 (by omega) (d - 1) (by omega) rfl (c_X6_isThere (by omega) hM hW hL (by omega) (by omega)) ?_
        refine V_if_eq_b (pc := 46) 75 dX6_cross_46 (by decide) (fun c_46 => ?_) (fun c_46 => ?_)
        · refine V_iinc_3 (pc := 75) dX6_cross_75 ?_
          refine V_goto (pc := 78) 32 dX6_cross_78 (by decide) ?_
          refine V.sub (by simp only [subL, Option.some.injEq, Sum.inl.injEq, reduceCtorEq, true_or, or_true, false_or, true_and, and_true]; omega) (ih _ ⟨⟨hM, hL, hS, hK⟩, nx_step hJ (by omega) (by omega)⟩)
        · refine V_aload_0 (pc := 49) dX6_cross_49 ?_
          refine V_iload_2 (pc := 50) dX6_cross_50 ?_
          refine V_iload_3 (pc := 51) dX6_cross_51 ?_
          refine V_callV2p (pc := 52) dX6_cross_52 kv_X6_293 rc_34 (by omega) (d - 1) (by omega) rfl (c_X6_isThere (by omega) hM hW hL (by omega) (by omega)) ?_
          refine V_if_eq_b (pc := 55) 75 dX6_cross_55 (by decide) (fun c_55 => ?_) (fun c_55 => ?_)
          · refine V_iinc_3 (pc := 75) dX6_cross_75 ?_
            refine V_goto (pc := 78) 32 dX6_cross_78 (by decide) ?_
            refine V.sub (by simp only [subL, Option.some.injEq, Sum.inl.injEq, reduceCtorEq, true_or, or_true, false_or, true_and, and_true]; omega) (ih _ ⟨⟨hM, hL, hS, hK⟩, nx_step hJ (by omega) (by omega)⟩)
          · refine V_aload_0 (pc := 58) dX6_cross_58 ?_
            refine V_iload_1 (pc := 59) dX6_cross_59 ?_
            refine V_iload_3 (pc := 60) dX6_cross_60 ?_
            refine V_callV2p (pc := 61) dX6_cross_61 kv_X6_283 rc_34 (by omega) (d - 1) (by omega) rfl (c_X6_shadeOf (by omega) (by omega) (by omega) (hS.s (by omega) (by omega))) ?_
            refine V_aload_0 (pc := 64) dX6_cross_64 ?_
            refine V_iload_2 (pc := 65) dX6_cross_65 ?_
            refine V_iload_3 (pc := 66) dX6_cross_66 ?_
            refine V_callV2p (pc := 67) dX6_cross_67 kv_X6_283 rc_34 (by omega) (d - 1) (by omega) rfl (c_X6_shadeOf (by omega) (by omega) (by omega) (hS.s (by omega) (by omega))) ?_
            refine V_icmp_le (pc := 70) 75 dX6_cross_70 (by decide) (by omega) (by omega) (fun c_70 => ?_) (fun c_70 => ?_)
            · refine V_iinc_3 (pc := 75) dX6_cross_75 ?_
              refine V_goto (pc := 78) 32 dX6_cross_78 (by decide) ?_
              refine V.sub (by simp only [subL, Option.some.injEq, Sum.inl.injEq, reduceCtorEq, true_or, or_true, false_or, true_and, and_true]; omega) (ih _ ⟨⟨hM, hL, hS, hK⟩, nx_step hJ (by omega) (by omega)⟩)
            · refine V_iload_3 (pc := 73) dX6_cross_73 ?_
              refine V_iretI (pc := 74) dX6_cross_74 rfl ?_
              exact ⟨_, rfl, by unfold q_cross; rw [if_neg (by omega)]; exact (fst_is (p := (fun x => (B 13 e ≤ x ∧ B 13 o ≤ x) ∧ SHD B (bt 0) x o < SHD B (bt 0) x e)) (x := (i : Int)) (by omega) _ 0 (by omega) (fun x hx => hJ x (by omega))).symm, hK⟩
  refine V_aload_0 (pc := 0) dX6_cross_0 ?_
  refine V_iconst (pc := 1) dX6_cross_1 ?_
  refine V_puti (pc := 2) dX6_cross_2 gf_X6_74 (by omega) ?_
  have hM := (KM.set (σ := σ) (t := 34) (k := 0) (z := 0) (v := 0) (by unfold SCM; omega)).mb hM
  refine V_aload_0 (pc := 5) dX6_cross_5 ?_
  refine V_iload_1 (pc := 6) dX6_cross_6 ?_
  refine V_i2l (pc := 7) dX6_cross_7 (by omega) ?_
  refine V_callV1p (pc := 8) dX6_cross_8 kv_X6_246 rc_34 (by omega) (d - 1) (by omega) rfl (c_X6_isEntry (by omega) hM hW (by omega)) ?_
  refine V_if_eq_b (pc := 11) 23 dX6_cross_11 (by decide) (fun c_11 => ?_) (fun c_11 => ?_)
  · refine V_bipush (pc := 23) dX6_cross_23 (by decide) ?_
    refine V_iretI (pc := 25) dX6_cross_25 rfl ?_
    exact ⟨_, rfl, by unfold q_cross; rw [if_pos (by omega)], by first | exact (KM.set (σ := σ) (t := 34) (k := 0) (z := 0) (v := 0) (by unfold SCM; omega)).tr hK | exact (KM.set (σ := σ) (t := 34) (k := 0) (z := 0) (v := 0) (by unfold SCM; omega))⟩
  · refine V_aload_0 (pc := 14) dX6_cross_14 ?_
    refine V_iload_2 (pc := 15) dX6_cross_15 ?_
    refine V_i2l (pc := 16) dX6_cross_16 (by omega) ?_
    refine V_callV1p (pc := 17) dX6_cross_17 kv_X6_246 rc_34 (by omega) (d - 1) (by omega) rfl (c_X6_isEntry (by omega) hM hW (by omega)) ?_
    refine V_if_ne_b (pc := 20) 26 dX6_cross_20 (by decide) (fun c_20 => ?_) (fun c_20 => ?_)
    · refine V_aload_0 (pc := 26) dX6_cross_26 ?_
      refine V_callV0z (pc := 27) dX6_cross_27 kv_X6_337 rc_34 (by omega) (d - 1) (by omega) rfl (c_X6_laysNow (by omega) hM hW) (fun σ_27 h_27 => ?_)
      obtain ⟨hL, hS, hK⟩ := h_27
      have hM := hK.mb hM
      refine V_iconst (pc := 30) dX6_cross_30 ?_
      refine V_istore_3 (pc := 31) dX6_cross_31 ?_
      exact loop (by omega) 0 (by omega) _ ⟨⟨hM, hL, hS, (KM.set (σ := σ) (t := 34) (k := 0) (z := 0) (v := 0) (by unfold SCM; omega)).tr hK⟩, fun x hx => by omega⟩
    · refine V_bipush (pc := 23) dX6_cross_23 (by decide) ?_
      refine V_iretI (pc := 25) dX6_cross_25 rfl ?_
      exact ⟨_, rfl, by unfold q_cross; rw [if_pos (by omega)], by first | exact (KM.set (σ := σ) (t := 34) (k := 0) (z := 0) (v := 0) (by unfold SCM; omega)).tr hK | exact (KM.set (σ := σ) (t := 34) (k := 0) (z := 0) (v := 0) (by unfold SCM; omega))⟩

set_option maxRecDepth 20000 in
set_option maxHeartbeats 1000000 in
theorem c_X6_falls {d : Nat} (hd : 5 ≤ d) {σ : MM} {B : BK} {e : Int} (hM : MB σ 0 B) (hG : GB B) (he : IR e) : V yX6_falls cX6_falls 4 (some .int) d (QI (fun v σ' => v = q_falls B e ∧ KM σ σ')) 0 [some (vR 34 0), some (vI e), none, none] [] σ := by
  have hW := hG.w
  have hs := hW.s
  have loop : (¬ (e < 0 ∨ B 6 0 ≤ e)) → ∀ i : Nat, i ≤ (B 1 0).toNat → ∀ σi : MM, (QS σ B σi) → V yX6_falls cX6_falls 4 (some .int) d (QI (fun v σ' => v = q_falls B e ∧ KM σ σ')) 25 [some (vR 34 0), some (vI e), some (vI (sumN (fun k => bI (SHD B (bt 0) (k + 1) e < SHD B (bt 0) k e)) i)), some (vI ((i : Int) + 1))] [] σi := by
    intro hR
    refine up_ind (P := fun i : Nat => ∀ σi : MM, (QS σ B σi) → V yX6_falls cX6_falls 4 (some .int) d (QI (fun v σ' => v = q_falls B e ∧ KM σ σ')) 25 [some (vR 34 0), some (vI e), some (vI (sumN (fun k => bI (SHD B (bt 0) (k + 1) e < SHD B (bt 0) k e)) i)), some (vI ((i : Int) + 1))] [] σi) ?_ ?_
    · intro σi hI
      have hI0 := hI
      obtain ⟨hM, hL, hS, hK⟩ := hI
      refine V_iload_3 (pc := 25) dX6_falls_25 ?_
      refine V_aload_0 (pc := 26) dX6_falls_26 ?_
      refine V_callV0p (pc := 27) dX6_falls_27 kv_X6_243 rc_34 (by omega) (d - 1) (by omega) rfl (c_X6_years (by omega) hM hW) ?_
      refine V_icmp_gt (pc := 30) 64 dX6_falls_30 (by decide) (by omega) (by omega) (fun c_30 => ?_) (fun c_30 => ?_)
      · refine V_iload_2 (pc := 64) dX6_falls_64 ?_
        refine V_iretI (pc := 65) dX6_falls_65 rfl ?_
        exact ⟨_, rfl, by unfold q_falls; rw [if_neg (by omega)], hK⟩
      · exact absurd c_30 (by omega)
    · intro i hi ih σi hI
      have hI0 := hI
      obtain ⟨hM, hL, hS, hK⟩ := hI
      have h1 := SHD_in (r := 0) (y := (i : Int) + 1) hW (e := e) (by omega)
      have h2 := SHD_in (r := 0) (y := (i : Int)) hW (e := e) (by omega)
      have hb := suI_in (fun k => SHD B (bt 0) (k + 1) e < SHD B (bt 0) k e) i
      have hS_ := sumN_S (fun k => bI (SHD B (bt 0) (k + 1) e < SHD B (bt 0) k e)) i
      refine V_iload_3 (pc := 25) dX6_falls_25 ?_
      refine V_aload_0 (pc := 26) dX6_falls_26 ?_
      refine V_callV0p (pc := 27) dX6_falls_27 kv_X6_243 rc_34 (by omega) (d - 1) (by omega) rfl (c_X6_years (by omega) hM hW) ?_
      refine V_icmp_gt (pc := 30) 64 dX6_falls_30 (by decide) (by omega) (by omega) (fun c_30 => ?_) (fun c_30 => ?_)
      · exact absurd c_30 (by omega)
      · refine V_iload_2 (pc := 33) dX6_falls_33 ?_
        refine V_aload_0 (pc := 34) dX6_falls_34 ?_
        refine V_iload_1 (pc := 35) dX6_falls_35 ?_
        refine V_iload_3 (pc := 36) dX6_falls_36 ?_
        refine V_callV2p (pc := 37) dX6_falls_37 kv_X6_283 rc_34 (by omega) (d - 1) (by omega) rfl (c_X6_shadeOf (by omega) (by omega) (by omega) (hS.s (by omega) (by omega))) ?_
        refine V_aload_0 (pc := 40) dX6_falls_40 ?_
        refine V_iload_1 (pc := 41) dX6_falls_41 ?_
        refine V_iload_3 (pc := 42) dX6_falls_42 ?_
        refine V_iconst (pc := 43) dX6_falls_43 ?_
        refine V_isub (pc := 44) dX6_falls_44 ?_
        refine V_callV2p (pc := 45) dX6_falls_45 kv_X6_283 rc_34 (by omega) (d - 1) (by omega) rfl (c_X6_shadeOf (by omega) (by omega) (by omega) (s := SHD B (bt 0) i e) (by rw [show (i : Int) + 1 - 1 = i by omega]; exact hS.s (by omega) (by omega))) ?_
        refine V_icmp_ge (pc := 48) 55 dX6_falls_48 (by decide) (by omega) (by omega) (fun c_48 => ?_) (fun c_48 => ?_)
        · refine V_iconst (pc := 55) dX6_falls_55 ?_
          refine V_iadd (pc := 56) dX6_falls_56 ?_
          refine V_istore_2 (pc := 57) dX6_falls_57 ?_
          refine V_iinc_3 (pc := 58) dX6_falls_58 ?_
          refine V_goto (pc := 61) 25 dX6_falls_61 (by decide) ?_
          refine V.sub (by simp only [subL, Option.some.injEq, Sum.inl.injEq, Sum.inr.injEq, reduceCtorEq, true_or, or_true, false_or, true_and, and_true]; first | (rw [hS_, bI_t (by omega)]; refine ⟨by omega, by omega⟩) | (rw [hS_, bI_f (by omega)]; refine ⟨by omega, by omega⟩)) (ih _ hI0)
        · refine V_iconst (pc := 51) dX6_falls_51 ?_
          refine V_goto (pc := 52) 56 dX6_falls_52 (by decide) ?_
          refine V_iadd (pc := 56) dX6_falls_56 ?_
          refine V_istore_2 (pc := 57) dX6_falls_57 ?_
          refine V_iinc_3 (pc := 58) dX6_falls_58 ?_
          refine V_goto (pc := 61) 25 dX6_falls_61 (by decide) ?_
          refine V.sub (by simp only [subL, Option.some.injEq, Sum.inl.injEq, Sum.inr.injEq, reduceCtorEq, true_or, or_true, false_or, true_and, and_true]; first | (rw [hS_, bI_t (by omega)]; refine ⟨by omega, by omega⟩) | (rw [hS_, bI_f (by omega)]; refine ⟨by omega, by omega⟩)) (ih _ hI0)
  refine V_aload_0 (pc := 0) dX6_falls_0 ?_
  refine V_iconst (pc := 1) dX6_falls_1 ?_
  refine V_puti (pc := 2) dX6_falls_2 gf_X6_74 (by omega) ?_
  have hM := (KM.set (σ := σ) (t := 34) (k := 0) (z := 0) (v := 0) (by unfold SCM; omega)).mb hM
  refine V_aload_0 (pc := 5) dX6_falls_5 ?_
  refine V_iload_1 (pc := 6) dX6_falls_6 ?_
  refine V_i2l (pc := 7) dX6_falls_7 (by omega) ?_
  refine V_callV1p (pc := 8) dX6_falls_8 kv_X6_246 rc_34 (by omega) (d - 1) (by omega) rfl (c_X6_isEntry (by omega) hM hW (by omega)) ?_
  refine V_if_ne_b (pc := 11) 17 dX6_falls_11 (by decide) (fun c_11 => ?_) (fun c_11 => ?_)
  · refine V_aload_0 (pc := 17) dX6_falls_17 ?_
    refine V_callV0z (pc := 18) dX6_falls_18 kv_X6_337 rc_34 (by omega) (d - 1) (by omega) rfl (c_X6_laysNow (by omega) hM hW) (fun σ_18 h_18 => ?_)
    obtain ⟨hL, hS, hK⟩ := h_18
    have hM := hK.mb hM
    refine V_iconst (pc := 21) dX6_falls_21 ?_
    refine V_istore_2 (pc := 22) dX6_falls_22 ?_
    refine V_iconst (pc := 23) dX6_falls_23 ?_
    refine V_istore_3 (pc := 24) dX6_falls_24 ?_
    exact loop (by omega) 0 (by omega) _ ⟨hM, hL, hS, (KM.set (σ := σ) (t := 34) (k := 0) (z := 0) (v := 0) (by unfold SCM; omega)).tr hK⟩
  · refine V_bipush (pc := 14) dX6_falls_14 (by decide) ?_
    refine V_iretI (pc := 16) dX6_falls_16 rfl ?_
    exact ⟨_, rfl, by unfold q_falls; rw [if_pos (by omega)], by first | exact (KM.set (σ := σ) (t := 34) (k := 0) (z := 0) (v := 0) (by unfold SCM; omega)).tr hK | exact (KM.set (σ := σ) (t := 34) (k := 0) (z := 0) (v := 0) (by unfold SCM; omega))⟩

set_option maxRecDepth 20000 in
set_option maxHeartbeats 1000000 in
theorem c_X6_swaps {d : Nat} (hd : 5 ≤ d) {σ : MM} {B : BK} {e o : Int} (hM : MB σ 0 B) (hG : GB B) (he : IR e) (ho : IR o) : V yX6_swaps cX6_swaps 5 (some .int) d (QI (fun v σ' => v = q_swaps B e o ∧ KM σ σ')) 0 [some (vR 34 0), some (vI e), some (vI o), none, none] [] σ := by
  have hW := hG.w
  have hs := hW.s
  have loop : (¬ ((e < 0 ∨ B 6 0 ≤ e) ∨ (o < 0 ∨ B 6 0 ≤ o))) → ∀ i : Nat, i ≤ (B 1 0).toNat → ∀ σi : MM, (QS σ B σi) → V yX6_swaps cX6_swaps 5 (some .int) d (QI (fun v σ' => v = q_swaps B e o ∧ KM σ σ')) 35 [some (vR 34 0), some (vI e), some (vI o), some (vI (sumN (fun k => bI ((B 13 e ≤ k ∧ B 13 o ≤ k) ∧ cmpI (SHD B (bt 0) (k + 1) e) (SHD B (bt 0) (k + 1) o) ≠ cmpI (SHD B (bt 0) k e) (SHD B (bt 0) k o))) i)), some (vI ((i : Int) + 1))] [] σi := by
    intro hR
    refine up_ind (P := fun i : Nat => ∀ σi : MM, (QS σ B σi) → V yX6_swaps cX6_swaps 5 (some .int) d (QI (fun v σ' => v = q_swaps B e o ∧ KM σ σ')) 35 [some (vR 34 0), some (vI e), some (vI o), some (vI (sumN (fun k => bI ((B 13 e ≤ k ∧ B 13 o ≤ k) ∧ cmpI (SHD B (bt 0) (k + 1) e) (SHD B (bt 0) (k + 1) o) ≠ cmpI (SHD B (bt 0) k e) (SHD B (bt 0) k o))) i)), some (vI ((i : Int) + 1))] [] σi) ?_ ?_
    · intro σi hI
      have hI0 := hI
      obtain ⟨hM, hL, hS, hK⟩ := hI
      refine V_iload_4 (pc := 35) dX6_swaps_35 ?_
      refine V_aload_0 (pc := 37) dX6_swaps_37 ?_
      refine V_callV0p (pc := 38) dX6_swaps_38 kv_X6_243 rc_34 (by omega) (d - 1) (by omega) rfl (c_X6_years (by omega) hM hW) ?_
      refine V_icmp_gt (pc := 41) 103 dX6_swaps_41 (by decide) (by omega) (by omega) (fun c_41 => ?_) (fun c_41 => ?_)
      · refine V_iload_3 (pc := 103) dX6_swaps_103 ?_
        refine V_iretI (pc := 104) dX6_swaps_104 rfl ?_
        exact ⟨_, rfl, by unfold q_swaps; rw [if_neg (by omega)], hK⟩
      · exact absurd c_41 (by omega)
    · intro i hi ih σi hI
      have hI0 := hI
      obtain ⟨hM, hL, hS, hK⟩ := hI
      have h1 := SHD_in (r := 0) (y := (i : Int) + 1) hW (e := e) (by omega)
      have h2 := SHD_in (r := 0) (y := (i : Int)) hW (e := e) (by omega)
      have k1 := cmpI_in (SHD B (bt 0) i e) (SHD B (bt 0) i o)
      have k2 := cmpI_in (SHD B (bt 0) ((i : Int) + 1) e) (SHD B (bt 0) ((i : Int) + 1) o)
      have hb := suI_in (fun k => (B 13 e ≤ k ∧ B 13 o ≤ k) ∧ cmpI (SHD B (bt 0) (k + 1) e) (SHD B (bt 0) (k + 1) o) ≠ cmpI (SHD B (bt 0) k e) (SHD B (bt 0) k o)) i
      have hS_ := sumN_S (fun k => bI ((B 13 e ≤ k ∧ B 13 o ≤ k) ∧ cmpI (SHD B (bt 0) (k + 1) e) (SHD B (bt 0) (k + 1) o) ≠ cmpI (SHD B (bt 0) k e) (SHD B (bt 0) k o))) i
      refine V_iload_4 (pc := 35) dX6_swaps_35 ?_
      refine V_aload_0 (pc := 37) dX6_swaps_37 ?_
      refine V_callV0p (pc := 38) dX6_swaps_38 kv_X6_243 rc_34 (by omega) (d - 1) (by omega) rfl (c_X6_years (by omega) hM hW) ?_
      refine V_icmp_gt (pc := 41) 103 dX6_swaps_41 (by decide) (by omega) (by omega) (fun c_41 => ?_) (fun c_41 => ?_)
      · exact absurd c_41 (by omega)
      · refine V_iload_3 (pc := 44) dX6_swaps_44 ?_
        refine V_aload_0 (pc := 45) dX6_swaps_45 ?_
        refine V_iload_1 (pc := 46) dX6_swaps_46 ?_
        refine V_iload_4 (pc := 47) dX6_swaps_47 ?_
        refine V_iconst (pc := 49) dX6_swaps_49 ?_
        refine V_isub (pc := 50) dX6_swaps_50 ?_
        refine V_callV2p (pc := 51) dX6_swaps_51 kv_X6_293 rc_34 (by omega) (d - 1) (by omega) rfl (by have := c_X6_isThere (d := d - 1) (by omega) hM hW hL (e := e) (y := (i : Int)) (by omega) (by omega); rw [show (i : Int) + 1 - 1 = i by omega]; exact this) ?_
        refine V_if_eq_b (pc := 54) 94 dX6_swaps_54 (by decide) (fun c_54 => ?_) (fun c_54 => ?_)
        · refine V_iconst (pc := 94) dX6_swaps_94 ?_
          refine V_iadd (pc := 95) dX6_swaps_95 ?_
          refine V_istore_3 (pc := 96) dX6_swaps_96 ?_
          refine V_iinc_4 (pc := 97) dX6_swaps_97 ?_
          refine V_goto (pc := 100) 35 dX6_swaps_100 (by decide) ?_
          refine V.sub (by simp only [subL, Option.some.injEq, Sum.inl.injEq, Sum.inr.injEq, reduceCtorEq, true_or, or_true, false_or, true_and, and_true]; first | (rw [hS_, bI_t (by omega)]; refine ⟨by omega, by omega⟩) | (rw [hS_, bI_f (by omega)]; refine ⟨by omega, by omega⟩)) (ih _ hI0)
        · refine V_aload_0 (pc := 57) dX6_swaps_57 ?_
          refine V_iload_2 (pc := 58) dX6_swaps_58 ?_
          refine V_iload_4 (pc := 59) dX6_swaps_59 ?_
          refine V_iconst (pc := 61) dX6_swaps_61 ?_
          refine V_isub (pc := 62) dX6_swaps_62 ?_
          refine V_callV2p (pc := 63) dX6_swaps_63 kv_X6_293 rc_34 (by omega) (d - 1) (by omega) rfl (by have := c_X6_isThere (d := d - 1) (by omega) hM hW hL (e := o) (y := (i : Int)) (by omega) (by omega); rw [show (i : Int) + 1 - 1 = i by omega]; exact this) ?_
          refine V_if_eq_b (pc := 66) 94 dX6_swaps_66 (by decide) (fun c_66 => ?_) (fun c_66 => ?_)
          · refine V_iconst (pc := 94) dX6_swaps_94 ?_
            refine V_iadd (pc := 95) dX6_swaps_95 ?_
            refine V_istore_3 (pc := 96) dX6_swaps_96 ?_
            refine V_iinc_4 (pc := 97) dX6_swaps_97 ?_
            refine V_goto (pc := 100) 35 dX6_swaps_100 (by decide) ?_
            refine V.sub (by simp only [subL, Option.some.injEq, Sum.inl.injEq, Sum.inr.injEq, reduceCtorEq, true_or, or_true, false_or, true_and, and_true]; first | (rw [hS_, bI_t (by omega)]; refine ⟨by omega, by omega⟩) | (rw [hS_, bI_f (by omega)]; refine ⟨by omega, by omega⟩)) (ih _ hI0)
          · refine V_aload_0 (pc := 69) dX6_swaps_69 ?_
            refine V_iload_1 (pc := 70) dX6_swaps_70 ?_
            refine V_iload_2 (pc := 71) dX6_swaps_71 ?_
            refine V_iload_4 (pc := 72) dX6_swaps_72 ?_
            refine V_callV3p (pc := 74) dX6_swaps_74 kv_X6_355 rc_34 (by omega) (d - 1) (by omega) rfl (c_X6_orderOf (by omega) hM hW hL hS (by omega) (by omega) (by omega)) ?_
            refine V_aload_0 (pc := 77) dX6_swaps_77 ?_
            refine V_iload_1 (pc := 78) dX6_swaps_78 ?_
            refine V_iload_2 (pc := 79) dX6_swaps_79 ?_
            refine V_iload_4 (pc := 80) dX6_swaps_80 ?_
            refine V_iconst (pc := 82) dX6_swaps_82 ?_
            refine V_isub (pc := 83) dX6_swaps_83 ?_
            refine V_callV3p (pc := 84) dX6_swaps_84 kv_X6_355 rc_34 (by omega) (d - 1) (by omega) rfl (by have := c_X6_orderOf (d := d - 1) (by omega) hM hW hL hS (e := e) (o := o) (y := (i : Int)) (by omega) (by omega) (by omega); rw [show (i : Int) + 1 - 1 = i by omega]; exact this) ?_
            refine V_icmp_eq (pc := 87) 94 dX6_swaps_87 (by decide) (by omega) (by omega) (fun c_87 => ?_) (fun c_87 => ?_)
            · refine V_iconst (pc := 94) dX6_swaps_94 ?_
              refine V_iadd (pc := 95) dX6_swaps_95 ?_
              refine V_istore_3 (pc := 96) dX6_swaps_96 ?_
              refine V_iinc_4 (pc := 97) dX6_swaps_97 ?_
              refine V_goto (pc := 100) 35 dX6_swaps_100 (by decide) ?_
              refine V.sub (by simp only [subL, Option.some.injEq, Sum.inl.injEq, Sum.inr.injEq, reduceCtorEq, true_or, or_true, false_or, true_and, and_true]; first | (rw [hS_, bI_t (by omega)]; refine ⟨by omega, by omega⟩) | (rw [hS_, bI_f (by omega)]; refine ⟨by omega, by omega⟩)) (ih _ hI0)
            · refine V_iconst (pc := 90) dX6_swaps_90 ?_
              refine V_goto (pc := 91) 95 dX6_swaps_91 (by decide) ?_
              refine V_iadd (pc := 95) dX6_swaps_95 ?_
              refine V_istore_3 (pc := 96) dX6_swaps_96 ?_
              refine V_iinc_4 (pc := 97) dX6_swaps_97 ?_
              refine V_goto (pc := 100) 35 dX6_swaps_100 (by decide) ?_
              refine V.sub (by simp only [subL, Option.some.injEq, Sum.inl.injEq, Sum.inr.injEq, reduceCtorEq, true_or, or_true, false_or, true_and, and_true]; first | (rw [hS_, bI_t (by omega)]; refine ⟨by omega, by omega⟩) | (rw [hS_, bI_f (by omega)]; refine ⟨by omega, by omega⟩)) (ih _ hI0)
  refine V_aload_0 (pc := 0) dX6_swaps_0 ?_
  refine V_iconst (pc := 1) dX6_swaps_1 ?_
  refine V_puti (pc := 2) dX6_swaps_2 gf_X6_74 (by omega) ?_
  have hM := (KM.set (σ := σ) (t := 34) (k := 0) (z := 0) (v := 0) (by unfold SCM; omega)).mb hM
  refine V_aload_0 (pc := 5) dX6_swaps_5 ?_
  refine V_iload_1 (pc := 6) dX6_swaps_6 ?_
  refine V_i2l (pc := 7) dX6_swaps_7 (by omega) ?_
  refine V_callV1p (pc := 8) dX6_swaps_8 kv_X6_246 rc_34 (by omega) (d - 1) (by omega) rfl (c_X6_isEntry (by omega) hM hW (by omega)) ?_
  refine V_if_eq_b (pc := 11) 23 dX6_swaps_11 (by decide) (fun c_11 => ?_) (fun c_11 => ?_)
  · refine V_bipush (pc := 23) dX6_swaps_23 (by decide) ?_
    refine V_iretI (pc := 25) dX6_swaps_25 rfl ?_
    exact ⟨_, rfl, by unfold q_swaps; rw [if_pos (by omega)], by first | exact (KM.set (σ := σ) (t := 34) (k := 0) (z := 0) (v := 0) (by unfold SCM; omega)).tr hK | exact (KM.set (σ := σ) (t := 34) (k := 0) (z := 0) (v := 0) (by unfold SCM; omega))⟩
  · refine V_aload_0 (pc := 14) dX6_swaps_14 ?_
    refine V_iload_2 (pc := 15) dX6_swaps_15 ?_
    refine V_i2l (pc := 16) dX6_swaps_16 (by omega) ?_
    refine V_callV1p (pc := 17) dX6_swaps_17 kv_X6_246 rc_34 (by omega) (d - 1) (by omega) rfl (c_X6_isEntry (by omega) hM hW (by omega)) ?_
    refine V_if_ne_b (pc := 20) 26 dX6_swaps_20 (by decide) (fun c_20 => ?_) (fun c_20 => ?_)
    · refine V_aload_0 (pc := 26) dX6_swaps_26 ?_
      refine V_callV0z (pc := 27) dX6_swaps_27 kv_X6_337 rc_34 (by omega) (d - 1) (by omega) rfl (c_X6_laysNow (by omega) hM hW) (fun σ_27 h_27 => ?_)
      obtain ⟨hL, hS, hK⟩ := h_27
      have hM := hK.mb hM
      refine V_iconst (pc := 30) dX6_swaps_30 ?_
      refine V_istore_3 (pc := 31) dX6_swaps_31 ?_
      refine V_iconst (pc := 32) dX6_swaps_32 ?_
      refine V_istore_4 (pc := 33) dX6_swaps_33 ?_
      exact loop (by omega) 0 (by omega) _ ⟨hM, hL, hS, (KM.set (σ := σ) (t := 34) (k := 0) (z := 0) (v := 0) (by unfold SCM; omega)).tr hK⟩
    · refine V_bipush (pc := 23) dX6_swaps_23 (by decide) ?_
      refine V_iretI (pc := 25) dX6_swaps_25 rfl ?_
      exact ⟨_, rfl, by unfold q_swaps; rw [if_pos (by omega)], by first | exact (KM.set (σ := σ) (t := 34) (k := 0) (z := 0) (v := 0) (by unfold SCM; omega)).tr hK | exact (KM.set (σ := σ) (t := 34) (k := 0) (z := 0) (v := 0) (by unfold SCM; omega))⟩

set_option maxRecDepth 20000 in
set_option maxHeartbeats 1000000 in
theorem c_X6_lasts {d : Nat} (hd : 5 ≤ d) {σ : MM} {B : BK} {e : Int} (hM : MB σ 0 B) (hG : GB B) (he : IR e) : V yX6_lasts cX6_lasts 4 (some .int) d (QI (fun v σ' => v = q_lasts B e ∧ KM σ σ')) 0 [some (vR 34 0), some (vI e), none, none] [] σ := by
  have hW := hG.w
  have hs := hW.s
  have loop : (¬ (e < 0 ∨ B 6 0 ≤ e)) → ∀ i : Nat, i ≤ (B 1 0 + 1).toNat → ∀ σi : MM, (QS σ B σi) → V yX6_lasts cX6_lasts 4 (some .int) d (QI (fun v σ' => v = q_lasts B e ∧ KM σ σ')) 25 [some (vR 34 0), some (vI e), some (vI (sumN (fun y => bI (5 ≤ SHD B (bt 0) y e)) i)), some (vI (i : Int))] [] σi := by
    intro hR
    refine up_ind (P := fun i : Nat => ∀ σi : MM, (QS σ B σi) → V yX6_lasts cX6_lasts 4 (some .int) d (QI (fun v σ' => v = q_lasts B e ∧ KM σ σ')) 25 [some (vR 34 0), some (vI e), some (vI (sumN (fun y => bI (5 ≤ SHD B (bt 0) y e)) i)), some (vI (i : Int))] [] σi) ?_ ?_
    · intro σi hI
      have hI0 := hI
      obtain ⟨hM, hL, hS, hK⟩ := hI
      refine V_iload_3 (pc := 25) dX6_lasts_25 ?_
      refine V_aload_0 (pc := 26) dX6_lasts_26 ?_
      refine V_callV0p (pc := 27) dX6_lasts_27 kv_X6_243 rc_34 (by omega) (d - 1) (by omega) rfl (c_X6_years (by omega) hM hW) ?_
      refine V_icmp_gt (pc := 30) 59 dX6_lasts_30 (by decide) (by omega) (by omega) (fun c_30 => ?_) (fun c_30 => ?_)
      · refine V_iload_2 (pc := 59) dX6_lasts_59 ?_
        refine V_iretI (pc := 60) dX6_lasts_60 rfl ?_
        exact ⟨_, rfl, by unfold q_lasts; rw [if_neg (by omega)], hK⟩
      · exact absurd c_30 (by omega)
    · intro i hi ih σi hI
      have hI0 := hI
      obtain ⟨hM, hL, hS, hK⟩ := hI
      have h1 := SHD_in (r := 0) (y := (i : Int)) hW (e := e) (by omega)
      have hc := bsI_in (fun e => 5 ≤ SHD B (bt 0) i e) (B 6 0).toNat
      have hc2 := p2_32 (z := (((B 6 0).toNat : Nat) : Int)) (by omega)
      have hc3 := bt_I (p := fun e => 5 ≤ SHD B (bt 0) i e) (n := (B 6 0).toNat) (i := e) (by omega)
      have hb := suI_in (fun y => 5 ≤ SHD B (bt 0) y e) i
      have hS_ := sumN_S (fun y => bI (5 ≤ SHD B (bt 0) y e)) i
      refine V_iload_3 (pc := 25) dX6_lasts_25 ?_
      refine V_aload_0 (pc := 26) dX6_lasts_26 ?_
      refine V_callV0p (pc := 27) dX6_lasts_27 kv_X6_243 rc_34 (by omega) (d - 1) (by omega) rfl (c_X6_years (by omega) hM hW) ?_
      refine V_icmp_gt (pc := 30) 59 dX6_lasts_30 (by decide) (by omega) (by omega) (fun c_30 => ?_) (fun c_30 => ?_)
      · exact absurd c_30 (by omega)
      · refine V_iload_2 (pc := 33) dX6_lasts_33 ?_
        refine V_aload_0 (pc := 34) dX6_lasts_34 ?_
        refine V_iload_3 (pc := 35) dX6_lasts_35 ?_
        refine V_callV1p (pc := 36) dX6_lasts_36 kv_X6_343 rc_34 (by omega) (d - 1) (by omega) rfl (c_X6_clearAt (by omega) hM hW hL hS (by omega)) ?_
        refine V_iload_1 (pc := 39) dX6_lasts_39 ?_
        refine V_callS2p (pc := 40) dX6_lasts_40 kv_X6_273 (d - 1) (by omega) rfl (c_X6_isBit (by omega) (by omega) (by omega)) ?_
        refine V_if_eq_b (pc := 43) 50 dX6_lasts_43 (by decide) (fun c_43 => ?_) (fun c_43 => ?_)
        · refine V_iconst (pc := 50) dX6_lasts_50 ?_
          refine V_iadd (pc := 51) dX6_lasts_51 ?_
          refine V_istore_2 (pc := 52) dX6_lasts_52 ?_
          refine V_iinc_3 (pc := 53) dX6_lasts_53 ?_
          refine V_goto (pc := 56) 25 dX6_lasts_56 (by decide) ?_
          refine V.sub (by simp only [subL, Option.some.injEq, Sum.inl.injEq, Sum.inr.injEq, reduceCtorEq, true_or, or_true, false_or, true_and, and_true]; first | (rw [hS_, bI_t (by omega)]; refine ⟨by omega, by omega⟩) | (rw [hS_, bI_f (by omega)]; refine ⟨by omega, by omega⟩)) (ih _ hI0)
        · refine V_iconst (pc := 46) dX6_lasts_46 ?_
          refine V_goto (pc := 47) 51 dX6_lasts_47 (by decide) ?_
          refine V_iadd (pc := 51) dX6_lasts_51 ?_
          refine V_istore_2 (pc := 52) dX6_lasts_52 ?_
          refine V_iinc_3 (pc := 53) dX6_lasts_53 ?_
          refine V_goto (pc := 56) 25 dX6_lasts_56 (by decide) ?_
          refine V.sub (by simp only [subL, Option.some.injEq, Sum.inl.injEq, Sum.inr.injEq, reduceCtorEq, true_or, or_true, false_or, true_and, and_true]; first | (rw [hS_, bI_t (by omega)]; refine ⟨by omega, by omega⟩) | (rw [hS_, bI_f (by omega)]; refine ⟨by omega, by omega⟩)) (ih _ hI0)
  refine V_aload_0 (pc := 0) dX6_lasts_0 ?_
  refine V_iconst (pc := 1) dX6_lasts_1 ?_
  refine V_puti (pc := 2) dX6_lasts_2 gf_X6_74 (by omega) ?_
  have hM := (KM.set (σ := σ) (t := 34) (k := 0) (z := 0) (v := 0) (by unfold SCM; omega)).mb hM
  refine V_aload_0 (pc := 5) dX6_lasts_5 ?_
  refine V_iload_1 (pc := 6) dX6_lasts_6 ?_
  refine V_i2l (pc := 7) dX6_lasts_7 (by omega) ?_
  refine V_callV1p (pc := 8) dX6_lasts_8 kv_X6_246 rc_34 (by omega) (d - 1) (by omega) rfl (c_X6_isEntry (by omega) hM hW (by omega)) ?_
  refine V_if_ne_b (pc := 11) 17 dX6_lasts_11 (by decide) (fun c_11 => ?_) (fun c_11 => ?_)
  · refine V_aload_0 (pc := 17) dX6_lasts_17 ?_
    refine V_callV0z (pc := 18) dX6_lasts_18 kv_X6_337 rc_34 (by omega) (d - 1) (by omega) rfl (c_X6_laysNow (by omega) hM hW) (fun σ_18 h_18 => ?_)
    obtain ⟨hL, hS, hK⟩ := h_18
    have hM := hK.mb hM
    refine V_iconst (pc := 21) dX6_lasts_21 ?_
    refine V_istore_2 (pc := 22) dX6_lasts_22 ?_
    refine V_iconst (pc := 23) dX6_lasts_23 ?_
    refine V_istore_3 (pc := 24) dX6_lasts_24 ?_
    exact loop (by omega) 0 (by omega) _ ⟨hM, hL, hS, (KM.set (σ := σ) (t := 34) (k := 0) (z := 0) (v := 0) (by unfold SCM; omega)).tr hK⟩
  · refine V_bipush (pc := 14) dX6_lasts_14 (by decide) ?_
    refine V_iretI (pc := 16) dX6_lasts_16 rfl ?_
    exact ⟨_, rfl, by unfold q_lasts; rw [if_pos (by omega)], by first | exact (KM.set (σ := σ) (t := 34) (k := 0) (z := 0) (v := 0) (by unfold SCM; omega)).tr hK | exact (KM.set (σ := σ) (t := 34) (k := 0) (z := 0) (v := 0) (by unfold SCM; omega))⟩

set_option maxRecDepth 20000 in
set_option maxHeartbeats 1000000 in
theorem c_X6_match {d : Nat} (hd : 5 ≤ d) {σ : MM} {B : BK} {e o : Int} (hM : MB σ 0 B) (hG : GB B) (he : IR e) (ho : IR o) : V yX6_match cX6_match 5 (some .int) d (QI (fun v σ' => v = q_match B e o ∧ KM σ σ')) 0 [some (vR 34 0), some (vI e), some (vI o), none, none] [] σ := by
  have hW := hG.w
  have hs := hW.s
  have loop : (¬ ((e < 0 ∨ B 6 0 ≤ e) ∨ (o < 0 ∨ B 6 0 ≤ o))) → ∀ i : Nat, i ≤ (B 1 0 + 1).toNat → ∀ σi : MM, (QS σ B σi) → V yX6_match cX6_match 5 (some .int) d (QI (fun v σ' => v = q_match B e o ∧ KM σ σ')) 35 [some (vR 34 0), some (vI e), some (vI o), some (vI (sumN (fun y => bI ((B 13 e ≤ y ∧ B 13 o ≤ y) ∧ SHD B (bt 0) y e = SHD B (bt 0) y o)) i)), some (vI (i : Int))] [] σi := by
    intro hR
    refine up_ind (P := fun i : Nat => ∀ σi : MM, (QS σ B σi) → V yX6_match cX6_match 5 (some .int) d (QI (fun v σ' => v = q_match B e o ∧ KM σ σ')) 35 [some (vR 34 0), some (vI e), some (vI o), some (vI (sumN (fun y => bI ((B 13 e ≤ y ∧ B 13 o ≤ y) ∧ SHD B (bt 0) y e = SHD B (bt 0) y o)) i)), some (vI (i : Int))] [] σi) ?_ ?_
    · intro σi hI
      have hI0 := hI
      obtain ⟨hM, hL, hS, hK⟩ := hI
      refine V_iload_4 (pc := 35) dX6_match_35 ?_
      refine V_aload_0 (pc := 37) dX6_match_37 ?_
      refine V_callV0p (pc := 38) dX6_match_38 kv_X6_243 rc_34 (by omega) (d - 1) (by omega) rfl (c_X6_years (by omega) hM hW) ?_
      refine V_icmp_gt (pc := 41) 89 dX6_match_41 (by decide) (by omega) (by omega) (fun c_41 => ?_) (fun c_41 => ?_)
      · refine V_iload_3 (pc := 89) dX6_match_89 ?_
        refine V_iretI (pc := 90) dX6_match_90 rfl ?_
        exact ⟨_, rfl, by unfold q_match; rw [if_neg (by omega)], hK⟩
      · exact absurd c_41 (by omega)
    · intro i hi ih σi hI
      have hI0 := hI
      obtain ⟨hM, hL, hS, hK⟩ := hI
      have h1 := SHD_in (r := 0) (y := (i : Int)) hW (e := e) (by omega)
      have h2 := SHD_in (r := 0) (y := (i : Int)) hW (e := o) (by omega)
      have k1 := cmpI_in (SHD B (bt 0) i e) (SHD B (bt 0) i o)
      have hb := suI_in (fun y => (B 13 e ≤ y ∧ B 13 o ≤ y) ∧ SHD B (bt 0) y e = SHD B (bt 0) y o) i
      have hS_ := sumN_S (fun y => bI ((B 13 e ≤ y ∧ B 13 o ≤ y) ∧ SHD B (bt 0) y e = SHD B (bt 0) y o)) i
      refine V_iload_4 (pc := 35) dX6_match_35 ?_
      refine V_aload_0 (pc := 37) dX6_match_37 ?_
      refine V_callV0p (pc := 38) dX6_match_38 kv_X6_243 rc_34 (by omega) (d - 1) (by omega) rfl (c_X6_years (by omega) hM hW) ?_
      refine V_icmp_gt (pc := 41) 89 dX6_match_41 (by decide) (by omega) (by omega) (fun c_41 => ?_) (fun c_41 => ?_)
      · exact absurd c_41 (by omega)
      · refine V_iload_3 (pc := 44) dX6_match_44 ?_
        refine V_aload_0 (pc := 45) dX6_match_45 ?_
        refine V_iload_1 (pc := 46) dX6_match_46 ?_
        refine V_iload_4 (pc := 47) dX6_match_47 ?_
        refine V_callV2p (pc := 49) dX6_match_49 kv_X6_293 rc_34 (by omega) (d - 1) (by omega) rfl (c_X6_isThere (by omega) hM hW hL (by omega) (by omega)) ?_
        refine V_if_eq_b (pc := 52) 80 dX6_match_52 (by decide) (fun c_52 => ?_) (fun c_52 => ?_)
        · refine V_iconst (pc := 80) dX6_match_80 ?_
          refine V_iadd (pc := 81) dX6_match_81 ?_
          refine V_istore_3 (pc := 82) dX6_match_82 ?_
          refine V_iinc_4 (pc := 83) dX6_match_83 ?_
          refine V_goto (pc := 86) 35 dX6_match_86 (by decide) ?_
          refine V.sub (by simp only [subL, Option.some.injEq, Sum.inl.injEq, Sum.inr.injEq, reduceCtorEq, true_or, or_true, false_or, true_and, and_true]; first | (rw [hS_, bI_t (by omega)]; refine ⟨by omega, by omega⟩) | (rw [hS_, bI_f (by omega)]; refine ⟨by omega, by omega⟩)) (ih _ hI0)
        · refine V_aload_0 (pc := 55) dX6_match_55 ?_
          refine V_iload_2 (pc := 56) dX6_match_56 ?_
          refine V_iload_4 (pc := 57) dX6_match_57 ?_
          refine V_callV2p (pc := 59) dX6_match_59 kv_X6_293 rc_34 (by omega) (d - 1) (by omega) rfl (c_X6_isThere (by omega) hM hW hL (by omega) (by omega)) ?_
          refine V_if_eq_b (pc := 62) 80 dX6_match_62 (by decide) (fun c_62 => ?_) (fun c_62 => ?_)
          · refine V_iconst (pc := 80) dX6_match_80 ?_
            refine V_iadd (pc := 81) dX6_match_81 ?_
            refine V_istore_3 (pc := 82) dX6_match_82 ?_
            refine V_iinc_4 (pc := 83) dX6_match_83 ?_
            refine V_goto (pc := 86) 35 dX6_match_86 (by decide) ?_
            refine V.sub (by simp only [subL, Option.some.injEq, Sum.inl.injEq, Sum.inr.injEq, reduceCtorEq, true_or, or_true, false_or, true_and, and_true]; first | (rw [hS_, bI_t (by omega)]; refine ⟨by omega, by omega⟩) | (rw [hS_, bI_f (by omega)]; refine ⟨by omega, by omega⟩)) (ih _ hI0)
          · refine V_aload_0 (pc := 65) dX6_match_65 ?_
            refine V_iload_1 (pc := 66) dX6_match_66 ?_
            refine V_iload_2 (pc := 67) dX6_match_67 ?_
            refine V_iload_4 (pc := 68) dX6_match_68 ?_
            refine V_callV3p (pc := 70) dX6_match_70 kv_X6_355 rc_34 (by omega) (d - 1) (by omega) rfl (c_X6_orderOf (by omega) hM hW hL hS (by omega) (by omega) (by omega)) ?_
            refine V_if_ne (pc := 73) 80 dX6_match_73 (by decide) (by omega) (fun c_73 => ?_) (fun c_73 => ?_)
            · refine V_iconst (pc := 80) dX6_match_80 ?_
              refine V_iadd (pc := 81) dX6_match_81 ?_
              refine V_istore_3 (pc := 82) dX6_match_82 ?_
              refine V_iinc_4 (pc := 83) dX6_match_83 ?_
              refine V_goto (pc := 86) 35 dX6_match_86 (by decide) ?_
              refine V.sub (by simp only [subL, Option.some.injEq, Sum.inl.injEq, Sum.inr.injEq, reduceCtorEq, true_or, or_true, false_or, true_and, and_true]; first | (rw [hS_, bI_t (by omega)]; refine ⟨by omega, by omega⟩) | (rw [hS_, bI_f (by omega)]; refine ⟨by omega, by omega⟩)) (ih _ hI0)
            · refine V_iconst (pc := 76) dX6_match_76 ?_
              refine V_goto (pc := 77) 81 dX6_match_77 (by decide) ?_
              refine V_iadd (pc := 81) dX6_match_81 ?_
              refine V_istore_3 (pc := 82) dX6_match_82 ?_
              refine V_iinc_4 (pc := 83) dX6_match_83 ?_
              refine V_goto (pc := 86) 35 dX6_match_86 (by decide) ?_
              refine V.sub (by simp only [subL, Option.some.injEq, Sum.inl.injEq, Sum.inr.injEq, reduceCtorEq, true_or, or_true, false_or, true_and, and_true]; first | (rw [hS_, bI_t (by omega)]; refine ⟨by omega, by omega⟩) | (rw [hS_, bI_f (by omega)]; refine ⟨by omega, by omega⟩)) (ih _ hI0)
  refine V_aload_0 (pc := 0) dX6_match_0 ?_
  refine V_iconst (pc := 1) dX6_match_1 ?_
  refine V_puti (pc := 2) dX6_match_2 gf_X6_74 (by omega) ?_
  have hM := (KM.set (σ := σ) (t := 34) (k := 0) (z := 0) (v := 0) (by unfold SCM; omega)).mb hM
  refine V_aload_0 (pc := 5) dX6_match_5 ?_
  refine V_iload_1 (pc := 6) dX6_match_6 ?_
  refine V_i2l (pc := 7) dX6_match_7 (by omega) ?_
  refine V_callV1p (pc := 8) dX6_match_8 kv_X6_246 rc_34 (by omega) (d - 1) (by omega) rfl (c_X6_isEntry (by omega) hM hW (by omega)) ?_
  refine V_if_eq_b (pc := 11) 23 dX6_match_11 (by decide) (fun c_11 => ?_) (fun c_11 => ?_)
  · refine V_bipush (pc := 23) dX6_match_23 (by decide) ?_
    refine V_iretI (pc := 25) dX6_match_25 rfl ?_
    exact ⟨_, rfl, by unfold q_match; rw [if_pos (by omega)], by first | exact (KM.set (σ := σ) (t := 34) (k := 0) (z := 0) (v := 0) (by unfold SCM; omega)).tr hK | exact (KM.set (σ := σ) (t := 34) (k := 0) (z := 0) (v := 0) (by unfold SCM; omega))⟩
  · refine V_aload_0 (pc := 14) dX6_match_14 ?_
    refine V_iload_2 (pc := 15) dX6_match_15 ?_
    refine V_i2l (pc := 16) dX6_match_16 (by omega) ?_
    refine V_callV1p (pc := 17) dX6_match_17 kv_X6_246 rc_34 (by omega) (d - 1) (by omega) rfl (c_X6_isEntry (by omega) hM hW (by omega)) ?_
    refine V_if_ne_b (pc := 20) 26 dX6_match_20 (by decide) (fun c_20 => ?_) (fun c_20 => ?_)
    · refine V_aload_0 (pc := 26) dX6_match_26 ?_
      refine V_callV0z (pc := 27) dX6_match_27 kv_X6_337 rc_34 (by omega) (d - 1) (by omega) rfl (c_X6_laysNow (by omega) hM hW) (fun σ_27 h_27 => ?_)
      obtain ⟨hL, hS, hK⟩ := h_27
      have hM := hK.mb hM
      refine V_iconst (pc := 30) dX6_match_30 ?_
      refine V_istore_3 (pc := 31) dX6_match_31 ?_
      refine V_iconst (pc := 32) dX6_match_32 ?_
      refine V_istore_4 (pc := 33) dX6_match_33 ?_
      exact loop (by omega) 0 (by omega) _ ⟨hM, hL, hS, (KM.set (σ := σ) (t := 34) (k := 0) (z := 0) (v := 0) (by unfold SCM; omega)).tr hK⟩
    · refine V_bipush (pc := 23) dX6_match_23 (by decide) ?_
      refine V_iretI (pc := 25) dX6_match_25 rfl ?_
      exact ⟨_, rfl, by unfold q_match; rw [if_pos (by omega)], by first | exact (KM.set (σ := σ) (t := 34) (k := 0) (z := 0) (v := 0) (by unfold SCM; omega)).tr hK | exact (KM.set (σ := σ) (t := 34) (k := 0) (z := 0) (v := 0) (by unfold SCM; omega))⟩

set_option maxRecDepth 20000 in
set_option maxHeartbeats 1000000 in
theorem c_X6_paling {d : Nat} (hd : 5 ≤ d) {σ : MM} {B : BK} {y : Int} (hM : MB σ 0 B) (hG : GB B) (hy : IR y) : V yX6_paling cX6_paling 4 (some .int) d (QI (fun v σ' => v = q_paling B y ∧ KM σ σ')) 0 [some (vR 34 0), some (vI y), none, none] [] σ := by
  have hW := hG.w
  have hs := hW.s
  have loop : (¬ (B 0 0 = 0 ∨ y < 0 ∨ B 1 0 < y)) → ∀ i : Nat, i ≤ (B 6 0).toNat → ∀ σi : MM, (QS σ B σi) → V yX6_paling cX6_paling 4 (some .int) d (QI (fun v σ' => v = q_paling B y ∧ KM σ σ')) 25 [some (vR 34 0), some (vI y), some (vI (bsN (fun e => bI (0 < y ∧ SHD B (bt 0) y e < SHD B (bt 0) (y - 1) e)) i)), some (vI (i : Int))] [] σi := by
    intro hR
    refine up_ind (P := fun i : Nat => ∀ σi : MM, (QS σ B σi) → V yX6_paling cX6_paling 4 (some .int) d (QI (fun v σ' => v = q_paling B y ∧ KM σ σ')) 25 [some (vR 34 0), some (vI y), some (vI (bsN (fun e => bI (0 < y ∧ SHD B (bt 0) y e < SHD B (bt 0) (y - 1) e)) i)), some (vI (i : Int))] [] σi) ?_ ?_
    · intro σi hI
      have hI0 := hI
      obtain ⟨hM, hL, hS, hK⟩ := hI
      refine V_iload_3 (pc := 25) dX6_paling_25 ?_
      refine V_aload_0 (pc := 26) dX6_paling_26 ?_
      refine V_callV0p (pc := 27) dX6_paling_27 kv_X6_236 rc_34 (by omega) (d - 1) (by omega) rfl (c_X6_entries (by omega) hM hW) ?_
      refine V_icmp_ge (pc := 30) 70 dX6_paling_30 (by decide) (by omega) (by omega) (fun c_30 => ?_) (fun c_30 => ?_)
      · refine V_iload_2 (pc := 70) dX6_paling_70 ?_
        refine V_iretI (pc := 71) dX6_paling_71 rfl ?_
        exact ⟨_, rfl, by unfold q_paling; rw [if_neg (by omega)], hK⟩
      · exact absurd c_30 (by omega)
    · intro i hi ih σi hI
      have hI0 := hI
      obtain ⟨hM, hL, hS, hK⟩ := hI
      have h1 := SHD_in (r := 0) (y := y) hW (e := (i : Int)) (by omega)
      have h2 := SHD_in (r := 0) (y := y - 1) hW (e := (i : Int)) (by omega)
      have hb := bsI_in (fun e => 0 < y ∧ SHD B (bt 0) y e < SHD B (bt 0) (y - 1) e) i
      have hS_ := bsN_S (fun e => bI (0 < y ∧ SHD B (bt 0) y e < SHD B (bt 0) (y - 1) e)) i
      refine V_iload_3 (pc := 25) dX6_paling_25 ?_
      refine V_aload_0 (pc := 26) dX6_paling_26 ?_
      refine V_callV0p (pc := 27) dX6_paling_27 kv_X6_236 rc_34 (by omega) (d - 1) (by omega) rfl (c_X6_entries (by omega) hM hW) ?_
      refine V_icmp_ge (pc := 30) 70 dX6_paling_30 (by decide) (by omega) (by omega) (fun c_30 => ?_) (fun c_30 => ?_)
      · exact absurd c_30 (by omega)
      · refine V_iload_2 (pc := 33) dX6_paling_33 ?_
        refine V_iload_1 (pc := 34) dX6_paling_34 ?_
        refine V_if_le (pc := 35) 61 dX6_paling_35 (by decide) (by omega) (fun c_35 => ?_) (fun c_35 => ?_)
        · refine V_iconst (pc := 61) dX6_paling_61 ?_
          first
            | refine V_ior_add (pc := 62) dX6_paling_62 (by assumption) ?_
            | refine V_ior_0 (pc := 62) dX6_paling_62 ?_
          refine V_istore_2 (pc := 63) dX6_paling_63 ?_
          refine V_iinc_3 (pc := 64) dX6_paling_64 ?_
          refine V_goto (pc := 67) 25 dX6_paling_67 (by decide) ?_
          refine V.sub (by simp only [subL, Option.some.injEq, Sum.inl.injEq, Sum.inr.injEq, reduceCtorEq, true_or, or_true, false_or, true_and, and_true]; first | (rw [hS_, bI_t (by omega)]; omega) | (rw [hS_, bI_f (by omega)]; omega)) (ih _ hI0)
        · refine V_aload_0 (pc := 38) dX6_paling_38 ?_
          refine V_iload_3 (pc := 39) dX6_paling_39 ?_
          refine V_iload_1 (pc := 40) dX6_paling_40 ?_
          refine V_callV2p (pc := 41) dX6_paling_41 kv_X6_283 rc_34 (by omega) (d - 1) (by omega) rfl (c_X6_shadeOf (by omega) (by omega) (by omega) (hS.s (by omega) (by omega))) ?_
          refine V_aload_0 (pc := 44) dX6_paling_44 ?_
          refine V_iload_3 (pc := 45) dX6_paling_45 ?_
          refine V_iload_1 (pc := 46) dX6_paling_46 ?_
          refine V_iconst (pc := 47) dX6_paling_47 ?_
          refine V_isub (pc := 48) dX6_paling_48 ?_
          refine V_callV2p (pc := 49) dX6_paling_49 kv_X6_283 rc_34 (by omega) (d - 1) (by omega) rfl (c_X6_shadeOf (by omega) (by omega) (by omega) (hS.s (by omega) (by omega))) ?_
          refine V_icmp_ge (pc := 52) 61 dX6_paling_52 (by decide) (by omega) (by omega) (fun c_52 => ?_) (fun c_52 => ?_)
          · refine V_iconst (pc := 61) dX6_paling_61 ?_
            first
              | refine V_ior_add (pc := 62) dX6_paling_62 (by assumption) ?_
              | refine V_ior_0 (pc := 62) dX6_paling_62 ?_
            refine V_istore_2 (pc := 63) dX6_paling_63 ?_
            refine V_iinc_3 (pc := 64) dX6_paling_64 ?_
            refine V_goto (pc := 67) 25 dX6_paling_67 (by decide) ?_
            refine V.sub (by simp only [subL, Option.some.injEq, Sum.inl.injEq, Sum.inr.injEq, reduceCtorEq, true_or, or_true, false_or, true_and, and_true]; first | (rw [hS_, bI_t (by omega)]; omega) | (rw [hS_, bI_f (by omega)]; omega)) (ih _ hI0)
          · refine V_iconst (pc := 55) dX6_paling_55 ?_
            refine V_iload_3 (pc := 56) dX6_paling_56 ?_
            refine V_ishl_1 (pc := 57) dX6_paling_57 (by omega) ?_
            refine V_goto (pc := 58) 62 dX6_paling_58 (by decide) ?_
            first
              | refine V_ior_add (pc := 62) dX6_paling_62 (by assumption) ?_
              | refine V_ior_0 (pc := 62) dX6_paling_62 ?_
            refine V_istore_2 (pc := 63) dX6_paling_63 ?_
            refine V_iinc_3 (pc := 64) dX6_paling_64 ?_
            refine V_goto (pc := 67) 25 dX6_paling_67 (by decide) ?_
            refine V.sub (by simp only [subL, Option.some.injEq, Sum.inl.injEq, Sum.inr.injEq, reduceCtorEq, true_or, or_true, false_or, true_and, and_true]; first | (rw [hS_, bI_t (by omega)]; omega) | (rw [hS_, bI_f (by omega)]; omega)) (ih _ hI0)
  refine V_aload_0 (pc := 0) dX6_paling_0 ?_
  refine V_iconst (pc := 1) dX6_paling_1 ?_
  refine V_puti (pc := 2) dX6_paling_2 gf_X6_74 (by omega) ?_
  have hM := (KM.set (σ := σ) (t := 34) (k := 0) (z := 0) (v := 0) (by unfold SCM; omega)).mb hM
  refine V_aload_0 (pc := 5) dX6_paling_5 ?_
  refine V_iload_1 (pc := 6) dX6_paling_6 ?_
  refine V_i2l (pc := 7) dX6_paling_7 (by omega) ?_
  refine V_callV1p (pc := 8) dX6_paling_8 kv_X6_249 rc_34 (by omega) (d - 1) (by omega) rfl (c_X6_isYear (by omega) hM hW (by omega)) ?_
  refine V_if_ne_b (pc := 11) 17 dX6_paling_11 (by decide) (fun c_11 => ?_) (fun c_11 => ?_)
  · refine V_aload_0 (pc := 17) dX6_paling_17 ?_
    refine V_callV0z (pc := 18) dX6_paling_18 kv_X6_337 rc_34 (by omega) (d - 1) (by omega) rfl (c_X6_laysNow (by omega) hM hW) (fun σ_18 h_18 => ?_)
    obtain ⟨hL, hS, hK⟩ := h_18
    have hM := hK.mb hM
    refine V_iconst (pc := 21) dX6_paling_21 ?_
    refine V_istore_2 (pc := 22) dX6_paling_22 ?_
    refine V_iconst (pc := 23) dX6_paling_23 ?_
    refine V_istore_3 (pc := 24) dX6_paling_24 ?_
    exact loop (by omega) 0 (by omega) _ ⟨hM, hL, hS, (KM.set (σ := σ) (t := 34) (k := 0) (z := 0) (v := 0) (by unfold SCM; omega)).tr hK⟩
  · refine V_bipush (pc := 14) dX6_paling_14 (by decide) ?_
    refine V_iretI (pc := 16) dX6_paling_16 rfl ?_
    exact ⟨_, rfl, by unfold q_paling; rw [if_pos (by omega)], by first | exact (KM.set (σ := σ) (t := 34) (k := 0) (z := 0) (v := 0) (by unfold SCM; omega)).tr hK | exact (KM.set (σ := σ) (t := 34) (k := 0) (z := 0) (v := 0) (by unfold SCM; omega))⟩

set_option maxRecDepth 20000 in
set_option maxHeartbeats 1000000 in
theorem c_X6_suspects {d : Nat} (hd : 5 ≤ d) {σ : MM} {B : BK} {y : Int} (hM : MB σ 0 B) (hG : GB B) (hy : IR y) : V yX6_suspects cX6_suspects 4 (some .int) d (QI (fun v σ' => v = q_suspects B y ∧ KM σ σ')) 0 [some (vR 34 0), some (vI y), none, none] [] σ := by
  have hW := hG.w
  have hs := hW.s
  have loop : (¬ (B 0 0 = 0 ∨ y < 0 ∨ B 1 0 < y)) → ∀ i : Nat, i ≤ (B 6 0).toNat → ∀ σi : MM, (QS σ B σi) → V yX6_suspects cX6_suspects 4 (some .int) d (QI (fun v σ' => v = q_suspects B y ∧ KM σ σ')) 25 [some (vR 34 0), some (vI y), some (vI (bsN (fun e => bI (B 13 e ≤ y ∧ PSI B e y = 0)) i)), some (vI (i : Int))] [] σi := by
    intro hR
    refine up_ind (P := fun i : Nat => ∀ σi : MM, (QS σ B σi) → V yX6_suspects cX6_suspects 4 (some .int) d (QI (fun v σ' => v = q_suspects B y ∧ KM σ σ')) 25 [some (vR 34 0), some (vI y), some (vI (bsN (fun e => bI (B 13 e ≤ y ∧ PSI B e y = 0)) i)), some (vI (i : Int))] [] σi) ?_ ?_
    · intro σi hI
      have hI0 := hI
      obtain ⟨hM, hL, hS, hK⟩ := hI
      refine V_iload_3 (pc := 25) dX6_suspects_25 ?_
      refine V_aload_0 (pc := 26) dX6_suspects_26 ?_
      refine V_callV0p (pc := 27) dX6_suspects_27 kv_X6_236 rc_34 (by omega) (d - 1) (by omega) rfl (c_X6_entries (by omega) hM hW) ?_
      refine V_icmp_ge (pc := 30) 67 dX6_suspects_30 (by decide) (by omega) (by omega) (fun c_30 => ?_) (fun c_30 => ?_)
      · refine V_iload_2 (pc := 67) dX6_suspects_67 ?_
        refine V_iretI (pc := 68) dX6_suspects_68 rfl ?_
        exact ⟨_, rfl, by unfold q_suspects; rw [if_neg (by omega)], hK⟩
      · exact absurd c_30 (by omega)
    · intro i hi ih σi hI
      have hI0 := hI
      obtain ⟨hM, hL, hS, hK⟩ := hI
      have h1 := hW.e (i := (i : Int)) (by omega)
      have h3 := PSI_in (y := y) hW (e := (i : Int)) (by omega)
      have hb := bsI_in (fun e => B 13 e ≤ y ∧ PSI B e y = 0) i
      have hS_ := bsN_S (fun e => bI (B 13 e ≤ y ∧ PSI B e y = 0)) i
      refine V_iload_3 (pc := 25) dX6_suspects_25 ?_
      refine V_aload_0 (pc := 26) dX6_suspects_26 ?_
      refine V_callV0p (pc := 27) dX6_suspects_27 kv_X6_236 rc_34 (by omega) (d - 1) (by omega) rfl (c_X6_entries (by omega) hM hW) ?_
      refine V_icmp_ge (pc := 30) 67 dX6_suspects_30 (by decide) (by omega) (by omega) (fun c_30 => ?_) (fun c_30 => ?_)
      · exact absurd c_30 (by omega)
      · refine V_iload_2 (pc := 33) dX6_suspects_33 ?_
        refine V_aload_0 (pc := 34) dX6_suspects_34 ?_
        refine V_iload_3 (pc := 35) dX6_suspects_35 ?_
        refine V_iload_1 (pc := 36) dX6_suspects_36 ?_
        refine V_callV2p (pc := 37) dX6_suspects_37 kv_X6_293 rc_34 (by omega) (d - 1) (by omega) rfl (c_X6_isThere (by omega) hM hW hL (by omega) (by omega)) ?_
        refine V_if_eq_b (pc := 40) 58 dX6_suspects_40 (by decide) (fun c_40 => ?_) (fun c_40 => ?_)
        · refine V_iconst (pc := 58) dX6_suspects_58 ?_
          first
            | refine V_ior_add (pc := 59) dX6_suspects_59 (by assumption) ?_
            | refine V_ior_0 (pc := 59) dX6_suspects_59 ?_
          refine V_istore_2 (pc := 60) dX6_suspects_60 ?_
          refine V_iinc_3 (pc := 61) dX6_suspects_61 ?_
          refine V_goto (pc := 64) 25 dX6_suspects_64 (by decide) ?_
          refine V.sub (by simp only [subL, Option.some.injEq, Sum.inl.injEq, Sum.inr.injEq, reduceCtorEq, true_or, or_true, false_or, true_and, and_true]; first | (rw [hS_, bI_t (by omega)]; omega) | (rw [hS_, bI_f (by omega)]; omega)) (ih _ hI0)
        · refine V_aload_0 (pc := 43) dX6_suspects_43 ?_
          refine V_iload_3 (pc := 44) dX6_suspects_44 ?_
          refine V_iload_1 (pc := 45) dX6_suspects_45 ?_
          refine V_callV2p (pc := 46) dX6_suspects_46 kv_X6_363 rc_34 (by omega) (d - 1) (by omega) rfl (c_X6_passesOf (by omega) hM hW hL hS (by omega) (by omega)) ?_
          refine V_if_ne (pc := 49) 58 dX6_suspects_49 (by decide) (by omega) (fun c_49 => ?_) (fun c_49 => ?_)
          · refine V_iconst (pc := 58) dX6_suspects_58 ?_
            first
              | refine V_ior_add (pc := 59) dX6_suspects_59 (by assumption) ?_
              | refine V_ior_0 (pc := 59) dX6_suspects_59 ?_
            refine V_istore_2 (pc := 60) dX6_suspects_60 ?_
            refine V_iinc_3 (pc := 61) dX6_suspects_61 ?_
            refine V_goto (pc := 64) 25 dX6_suspects_64 (by decide) ?_
            refine V.sub (by simp only [subL, Option.some.injEq, Sum.inl.injEq, Sum.inr.injEq, reduceCtorEq, true_or, or_true, false_or, true_and, and_true]; first | (rw [hS_, bI_t (by omega)]; omega) | (rw [hS_, bI_f (by omega)]; omega)) (ih _ hI0)
          · refine V_iconst (pc := 52) dX6_suspects_52 ?_
            refine V_iload_3 (pc := 53) dX6_suspects_53 ?_
            refine V_ishl_1 (pc := 54) dX6_suspects_54 (by omega) ?_
            refine V_goto (pc := 55) 59 dX6_suspects_55 (by decide) ?_
            first
              | refine V_ior_add (pc := 59) dX6_suspects_59 (by assumption) ?_
              | refine V_ior_0 (pc := 59) dX6_suspects_59 ?_
            refine V_istore_2 (pc := 60) dX6_suspects_60 ?_
            refine V_iinc_3 (pc := 61) dX6_suspects_61 ?_
            refine V_goto (pc := 64) 25 dX6_suspects_64 (by decide) ?_
            refine V.sub (by simp only [subL, Option.some.injEq, Sum.inl.injEq, Sum.inr.injEq, reduceCtorEq, true_or, or_true, false_or, true_and, and_true]; first | (rw [hS_, bI_t (by omega)]; omega) | (rw [hS_, bI_f (by omega)]; omega)) (ih _ hI0)
  refine V_aload_0 (pc := 0) dX6_suspects_0 ?_
  refine V_iconst (pc := 1) dX6_suspects_1 ?_
  refine V_puti (pc := 2) dX6_suspects_2 gf_X6_74 (by omega) ?_
  have hM := (KM.set (σ := σ) (t := 34) (k := 0) (z := 0) (v := 0) (by unfold SCM; omega)).mb hM
  refine V_aload_0 (pc := 5) dX6_suspects_5 ?_
  refine V_iload_1 (pc := 6) dX6_suspects_6 ?_
  refine V_i2l (pc := 7) dX6_suspects_7 (by omega) ?_
  refine V_callV1p (pc := 8) dX6_suspects_8 kv_X6_249 rc_34 (by omega) (d - 1) (by omega) rfl (c_X6_isYear (by omega) hM hW (by omega)) ?_
  refine V_if_ne_b (pc := 11) 17 dX6_suspects_11 (by decide) (fun c_11 => ?_) (fun c_11 => ?_)
  · refine V_aload_0 (pc := 17) dX6_suspects_17 ?_
    refine V_callV0z (pc := 18) dX6_suspects_18 kv_X6_337 rc_34 (by omega) (d - 1) (by omega) rfl (c_X6_laysNow (by omega) hM hW) (fun σ_18 h_18 => ?_)
    obtain ⟨hL, hS, hK⟩ := h_18
    have hM := hK.mb hM
    refine V_iconst (pc := 21) dX6_suspects_21 ?_
    refine V_istore_2 (pc := 22) dX6_suspects_22 ?_
    refine V_iconst (pc := 23) dX6_suspects_23 ?_
    refine V_istore_3 (pc := 24) dX6_suspects_24 ?_
    exact loop (by omega) 0 (by omega) _ ⟨hM, hL, hS, (KM.set (σ := σ) (t := 34) (k := 0) (z := 0) (v := 0) (by unfold SCM; omega)).tr hK⟩
  · refine V_bipush (pc := 14) dX6_suspects_14 (by decide) ?_
    refine V_iretI (pc := 16) dX6_suspects_16 rfl ?_
    exact ⟨_, rfl, by unfold q_suspects; rw [if_pos (by omega)], by first | exact (KM.set (σ := σ) (t := 34) (k := 0) (z := 0) (v := 0) (by unfold SCM; omega)).tr hK | exact (KM.set (σ := σ) (t := 34) (k := 0) (z := 0) (v := 0) (by unfold SCM; omega))⟩

set_option maxRecDepth 20000 in
set_option maxHeartbeats 1000000 in
theorem c_X6_honest {d : Nat} (hd : 5 ≤ d) {σ : MM} {B : BK} {y : Int} (hM : MB σ 0 B) (hG : GB B) (hy : IR y) : V yX6_honest cX6_honest 4 (some .int) d (QI (fun v σ' => v = q_honest B y ∧ KM σ σ')) 0 [some (vR 34 0), some (vI y), none, none] [] σ := by
  have hW := hG.w
  have hs := hW.s
  have loop : (¬ (B 0 0 = 0 ∨ y < 0 ∨ B 1 0 < y)) → ∀ i : Nat, i ≤ (B 6 0).toNat → ∀ σi : MM, (QS σ B σi) → V yX6_honest cX6_honest 4 (some .int) d (QI (fun v σ' => v = q_honest B y ∧ KM σ σ')) 25 [some (vR 34 0), some (vI y), some (vI (bsN (fun e => bI (B 13 e ≤ y ∧ SHD B (bt 0) y e = LNE B (B 12 e) (B 11 e) (B 14 e) y)) i)), some (vI (i : Int))] [] σi := by
    intro hR
    refine up_ind (P := fun i : Nat => ∀ σi : MM, (QS σ B σi) → V yX6_honest cX6_honest 4 (some .int) d (QI (fun v σ' => v = q_honest B y ∧ KM σ σ')) 25 [some (vR 34 0), some (vI y), some (vI (bsN (fun e => bI (B 13 e ≤ y ∧ SHD B (bt 0) y e = LNE B (B 12 e) (B 11 e) (B 14 e) y)) i)), some (vI (i : Int))] [] σi) ?_ ?_
    · intro σi hI
      have hI0 := hI
      obtain ⟨hM, hL, hS, hK⟩ := hI
      refine V_iload_3 (pc := 25) dX6_honest_25 ?_
      refine V_aload_0 (pc := 26) dX6_honest_26 ?_
      refine V_callV0p (pc := 27) dX6_honest_27 kv_X6_236 rc_34 (by omega) (d - 1) (by omega) rfl (c_X6_entries (by omega) hM hW) ?_
      refine V_icmp_ge (pc := 30) 80 dX6_honest_30 (by decide) (by omega) (by omega) (fun c_30 => ?_) (fun c_30 => ?_)
      · refine V_iload_2 (pc := 80) dX6_honest_80 ?_
        refine V_iretI (pc := 81) dX6_honest_81 rfl ?_
        exact ⟨_, rfl, by unfold q_honest; rw [if_neg (by omega)], hK⟩
      · exact absurd c_30 (by omega)
    · intro i hi ih σi hI
      have hI0 := hI
      obtain ⟨hM, hL, hS, hK⟩ := hI
      have h1 := hW.e (i := (i : Int)) (by omega)
      have h3 := PSI_in (y := y) hW (e := (i : Int)) (by omega)
      have h4 := PSI_bt (B := B) (e := (i : Int)) (i := B 12 i) (y := y) (by omega)
      have hb := bsI_in (fun e => B 13 e ≤ y ∧ SHD B (bt 0) y e = LNE B (B 12 e) (B 11 e) (B 14 e) y) i
      have hS_ := bsN_S (fun e => bI (B 13 e ≤ y ∧ SHD B (bt 0) y e = LNE B (B 12 e) (B 11 e) (B 14 e) y)) i
      refine V_iload_3 (pc := 25) dX6_honest_25 ?_
      refine V_aload_0 (pc := 26) dX6_honest_26 ?_
      refine V_callV0p (pc := 27) dX6_honest_27 kv_X6_236 rc_34 (by omega) (d - 1) (by omega) rfl (c_X6_entries (by omega) hM hW) ?_
      refine V_icmp_ge (pc := 30) 80 dX6_honest_30 (by decide) (by omega) (by omega) (fun c_30 => ?_) (fun c_30 => ?_)
      · exact absurd c_30 (by omega)
      · refine V_iload_2 (pc := 33) dX6_honest_33 ?_
        refine V_aload_0 (pc := 34) dX6_honest_34 ?_
        refine V_iload_3 (pc := 35) dX6_honest_35 ?_
        refine V_iload_1 (pc := 36) dX6_honest_36 ?_
        refine V_callV2p (pc := 37) dX6_honest_37 kv_X6_293 rc_34 (by omega) (d - 1) (by omega) rfl (c_X6_isThere (by omega) hM hW hL (by omega) (by omega)) ?_
        refine V_if_eq_b (pc := 40) 71 dX6_honest_40 (by decide) (fun c_40 => ?_) (fun c_40 => ?_)
        · refine V_iconst (pc := 71) dX6_honest_71 ?_
          first
            | refine V_ior_add (pc := 72) dX6_honest_72 (by assumption) ?_
            | refine V_ior_0 (pc := 72) dX6_honest_72 ?_
          refine V_istore_2 (pc := 73) dX6_honest_73 ?_
          refine V_iinc_3 (pc := 74) dX6_honest_74 ?_
          refine V_goto (pc := 77) 25 dX6_honest_77 (by decide) ?_
          refine V.sub (by simp only [subL, Option.some.injEq, Sum.inl.injEq, Sum.inr.injEq, reduceCtorEq, true_or, or_true, false_or, true_and, and_true]; first | (rw [hS_, bI_t (by omega)]; omega) | (rw [hS_, bI_f (by omega)]; omega)) (ih _ hI0)
        · refine V_aload_0 (pc := 43) dX6_honest_43 ?_
          refine V_iload_3 (pc := 44) dX6_honest_44 ?_
          refine V_iload_1 (pc := 45) dX6_honest_45 ?_
          refine V_callV2p (pc := 46) dX6_honest_46 kv_X6_363 rc_34 (by omega) (d - 1) (by omega) rfl (c_X6_passesOf (by omega) hM hW hL hS (by omega) (by omega)) ?_
          refine V_aload_0 (pc := 49) dX6_honest_49 ?_
          refine V_getc (pc := 50) dX6_honest_50 gf_X6_43 (by omega) ?_
          refine V_iconst (pc := 53) dX6_honest_53 ?_
          refine V_iload_3 (pc := 54) dX6_honest_54 ?_
          refine V_imul (pc := 55) dX6_honest_55 ?_
          refine V_iconst (pc := 56) dX6_honest_56 ?_
          refine V_iadd (pc := 57) dX6_honest_57 ?_
          refine V_iald (pc := 58) dX6_honest_58 sh_44 (by omega) (by omega) (hM.t1 (by omega)) ?_
          refine V_callS2p (pc := 59) dX6_honest_59 kv_X6_273 (d - 1) (by omega) rfl (c_X6_isBit (by omega) (by omega) (by omega)) ?_
          refine V_if_eq_b (pc := 62) 71 dX6_honest_62 (by decide) (fun c_62 => ?_) (fun c_62 => ?_)
          · refine V_iconst (pc := 71) dX6_honest_71 ?_
            first
              | refine V_ior_add (pc := 72) dX6_honest_72 (by assumption) ?_
              | refine V_ior_0 (pc := 72) dX6_honest_72 ?_
            refine V_istore_2 (pc := 73) dX6_honest_73 ?_
            refine V_iinc_3 (pc := 74) dX6_honest_74 ?_
            refine V_goto (pc := 77) 25 dX6_honest_77 (by decide) ?_
            refine V.sub (by simp only [subL, Option.some.injEq, Sum.inl.injEq, Sum.inr.injEq, reduceCtorEq, true_or, or_true, false_or, true_and, and_true]; first | (rw [hS_, bI_t (by omega)]; omega) | (rw [hS_, bI_f (by omega)]; omega)) (ih _ hI0)
          · refine V_iconst (pc := 65) dX6_honest_65 ?_
            refine V_iload_3 (pc := 66) dX6_honest_66 ?_
            refine V_ishl_1 (pc := 67) dX6_honest_67 (by omega) ?_
            refine V_goto (pc := 68) 72 dX6_honest_68 (by decide) ?_
            first
              | refine V_ior_add (pc := 72) dX6_honest_72 (by assumption) ?_
              | refine V_ior_0 (pc := 72) dX6_honest_72 ?_
            refine V_istore_2 (pc := 73) dX6_honest_73 ?_
            refine V_iinc_3 (pc := 74) dX6_honest_74 ?_
            refine V_goto (pc := 77) 25 dX6_honest_77 (by decide) ?_
            refine V.sub (by simp only [subL, Option.some.injEq, Sum.inl.injEq, Sum.inr.injEq, reduceCtorEq, true_or, or_true, false_or, true_and, and_true]; first | (rw [hS_, bI_t (by omega)]; omega) | (rw [hS_, bI_f (by omega)]; omega)) (ih _ hI0)
  refine V_aload_0 (pc := 0) dX6_honest_0 ?_
  refine V_iconst (pc := 1) dX6_honest_1 ?_
  refine V_puti (pc := 2) dX6_honest_2 gf_X6_74 (by omega) ?_
  have hM := (KM.set (σ := σ) (t := 34) (k := 0) (z := 0) (v := 0) (by unfold SCM; omega)).mb hM
  refine V_aload_0 (pc := 5) dX6_honest_5 ?_
  refine V_iload_1 (pc := 6) dX6_honest_6 ?_
  refine V_i2l (pc := 7) dX6_honest_7 (by omega) ?_
  refine V_callV1p (pc := 8) dX6_honest_8 kv_X6_249 rc_34 (by omega) (d - 1) (by omega) rfl (c_X6_isYear (by omega) hM hW (by omega)) ?_
  refine V_if_ne_b (pc := 11) 17 dX6_honest_11 (by decide) (fun c_11 => ?_) (fun c_11 => ?_)
  · refine V_aload_0 (pc := 17) dX6_honest_17 ?_
    refine V_callV0z (pc := 18) dX6_honest_18 kv_X6_337 rc_34 (by omega) (d - 1) (by omega) rfl (c_X6_laysNow (by omega) hM hW) (fun σ_18 h_18 => ?_)
    obtain ⟨hL, hS, hK⟩ := h_18
    have hM := hK.mb hM
    refine V_iconst (pc := 21) dX6_honest_21 ?_
    refine V_istore_2 (pc := 22) dX6_honest_22 ?_
    refine V_iconst (pc := 23) dX6_honest_23 ?_
    refine V_istore_3 (pc := 24) dX6_honest_24 ?_
    exact loop (by omega) 0 (by omega) _ ⟨hM, hL, hS, (KM.set (σ := σ) (t := 34) (k := 0) (z := 0) (v := 0) (by unfold SCM; omega)).tr hK⟩
  · refine V_bipush (pc := 14) dX6_honest_14 (by decide) ?_
    refine V_iretI (pc := 16) dX6_honest_16 rfl ?_
    exact ⟨_, rfl, by unfold q_honest; rw [if_pos (by omega)], by first | exact (KM.set (σ := σ) (t := 34) (k := 0) (z := 0) (v := 0) (by unfold SCM; omega)).tr hK | exact (KM.set (σ := σ) (t := 34) (k := 0) (z := 0) (v := 0) (by unfold SCM; omega))⟩

set_option maxRecDepth 20000 in
set_option maxHeartbeats 1000000 in
theorem c_X6_rising {d : Nat} (hd : 5 ≤ d) {σ : MM} {B : BK} {y : Int} (hM : MB σ 0 B) (hG : GB B) (hy : IR y) : V yX6_rising cX6_rising 4 (some .int) d (QI (fun v σ' => v = q_rising B y ∧ KM σ σ')) 0 [some (vR 34 0), some (vI y), none, none] [] σ := by
  have hW := hG.w
  have hs := hW.s
  have loop : (¬ (B 0 0 = 0 ∨ y < 0 ∨ B 1 0 < y)) → ∀ i : Nat, i ≤ (B 6 0).toNat → ∀ σi : MM, (QS σ B σi) → V yX6_rising cX6_rising 4 (some .int) d (QI (fun v σ' => v = q_rising B y ∧ KM σ σ')) 25 [some (vR 34 0), some (vI y), some (vI (bsN (fun e => RSD B (bt 0) y e) i)), some (vI (i : Int))] [] σi := by
    intro hR
    refine up_ind (P := fun i : Nat => ∀ σi : MM, (QS σ B σi) → V yX6_rising cX6_rising 4 (some .int) d (QI (fun v σ' => v = q_rising B y ∧ KM σ σ')) 25 [some (vR 34 0), some (vI y), some (vI (bsN (fun e => RSD B (bt 0) y e) i)), some (vI (i : Int))] [] σi) ?_ ?_
    · intro σi hI
      have hI0 := hI
      obtain ⟨hM, hL, hS, hK⟩ := hI
      refine V_iload_3 (pc := 25) dX6_rising_25 ?_
      refine V_aload_0 (pc := 26) dX6_rising_26 ?_
      refine V_callV0p (pc := 27) dX6_rising_27 kv_X6_236 rc_34 (by omega) (d - 1) (by omega) rfl (c_X6_entries (by omega) hM hW) ?_
      refine V_icmp_ge (pc := 30) 63 dX6_rising_30 (by decide) (by omega) (by omega) (fun c_30 => ?_) (fun c_30 => ?_)
      · refine V_iload_2 (pc := 63) dX6_rising_63 ?_
        refine V_iretI (pc := 64) dX6_rising_64 rfl ?_
        exact ⟨_, rfl, by unfold q_rising; rw [if_neg (by omega)], hK⟩
      · exact absurd c_30 (by omega)
    · intro i hi ih σi hI
      have hI0 := hI
      obtain ⟨hM, hL, hS, hK⟩ := hI
      have h1 := RSD_01 (r := 0) (y := y) hW (e := (i : Int)) (by omega)
      have hb := bsN_in (f := fun e => RSD B (bt 0) y e) (n := i) (fun k h0 h1 => RSD_01 (r := 0) hW (by omega))
      have hS_ := bsN_S (fun e => RSD B (bt 0) y e) i
      refine V_iload_3 (pc := 25) dX6_rising_25 ?_
      refine V_aload_0 (pc := 26) dX6_rising_26 ?_
      refine V_callV0p (pc := 27) dX6_rising_27 kv_X6_236 rc_34 (by omega) (d - 1) (by omega) rfl (c_X6_entries (by omega) hM hW) ?_
      refine V_icmp_ge (pc := 30) 63 dX6_rising_30 (by decide) (by omega) (by omega) (fun c_30 => ?_) (fun c_30 => ?_)
      · exact absurd c_30 (by omega)
      · refine V_iload_2 (pc := 33) dX6_rising_33 ?_
        refine V_aload_0 (pc := 34) dX6_rising_34 ?_
        refine V_getc (pc := 35) dX6_rising_35 gf_X6_65 (by omega) ?_
        refine V_bipush (pc := 38) dX6_rising_38 (by decide) ?_
        refine V_iload_1 (pc := 40) dX6_rising_40 ?_
        refine V_imul (pc := 41) dX6_rising_41 ?_
        refine V_iload_3 (pc := 42) dX6_rising_42 ?_
        refine V_iadd (pc := 43) dX6_rising_43 ?_
        refine V_zald (pc := 44) dX6_rising_44 sh_51 (by omega) (by omega) (hS.r (by omega) (by omega)) ?_
        refine V_if_eq (pc := 45) 54 dX6_rising_45 (by decide) (by omega) (fun c_45 => ?_) (fun c_45 => ?_)
        · refine V_iconst (pc := 54) dX6_rising_54 ?_
          first
            | refine V_ior_add (pc := 55) dX6_rising_55 (by assumption) ?_
            | refine V_ior_0 (pc := 55) dX6_rising_55 ?_
          refine V_istore_2 (pc := 56) dX6_rising_56 ?_
          refine V_iinc_3 (pc := 57) dX6_rising_57 ?_
          refine V_goto (pc := 60) 25 dX6_rising_60 (by decide) ?_
          refine V.sub (by simp only [subL, Option.some.injEq, Sum.inl.injEq, Sum.inr.injEq, reduceCtorEq, true_or, or_true, false_or, true_and, and_true]; rw [hS_]; first | (rw [show RSD B (bt 0) y i = 1 by omega]; refine ⟨by omega, by omega⟩) | (rw [show RSD B (bt 0) y i = 0 by omega]; refine ⟨by omega, by omega⟩)) (ih _ hI0)
        · refine V_iconst (pc := 48) dX6_rising_48 ?_
          refine V_iload_3 (pc := 49) dX6_rising_49 ?_
          refine V_ishl_1 (pc := 50) dX6_rising_50 (by omega) ?_
          refine V_goto (pc := 51) 55 dX6_rising_51 (by decide) ?_
          first
            | refine V_ior_add (pc := 55) dX6_rising_55 (by assumption) ?_
            | refine V_ior_0 (pc := 55) dX6_rising_55 ?_
          refine V_istore_2 (pc := 56) dX6_rising_56 ?_
          refine V_iinc_3 (pc := 57) dX6_rising_57 ?_
          refine V_goto (pc := 60) 25 dX6_rising_60 (by decide) ?_
          refine V.sub (by simp only [subL, Option.some.injEq, Sum.inl.injEq, Sum.inr.injEq, reduceCtorEq, true_or, or_true, false_or, true_and, and_true]; rw [hS_]; first | (rw [show RSD B (bt 0) y i = 1 by omega]; refine ⟨by omega, by omega⟩) | (rw [show RSD B (bt 0) y i = 0 by omega]; refine ⟨by omega, by omega⟩)) (ih _ hI0)
  refine V_aload_0 (pc := 0) dX6_rising_0 ?_
  refine V_iconst (pc := 1) dX6_rising_1 ?_
  refine V_puti (pc := 2) dX6_rising_2 gf_X6_74 (by omega) ?_
  have hM := (KM.set (σ := σ) (t := 34) (k := 0) (z := 0) (v := 0) (by unfold SCM; omega)).mb hM
  refine V_aload_0 (pc := 5) dX6_rising_5 ?_
  refine V_iload_1 (pc := 6) dX6_rising_6 ?_
  refine V_i2l (pc := 7) dX6_rising_7 (by omega) ?_
  refine V_callV1p (pc := 8) dX6_rising_8 kv_X6_249 rc_34 (by omega) (d - 1) (by omega) rfl (c_X6_isYear (by omega) hM hW (by omega)) ?_
  refine V_if_ne_b (pc := 11) 17 dX6_rising_11 (by decide) (fun c_11 => ?_) (fun c_11 => ?_)
  · refine V_aload_0 (pc := 17) dX6_rising_17 ?_
    refine V_callV0z (pc := 18) dX6_rising_18 kv_X6_337 rc_34 (by omega) (d - 1) (by omega) rfl (c_X6_laysNow (by omega) hM hW) (fun σ_18 h_18 => ?_)
    obtain ⟨hL, hS, hK⟩ := h_18
    have hM := hK.mb hM
    refine V_iconst (pc := 21) dX6_rising_21 ?_
    refine V_istore_2 (pc := 22) dX6_rising_22 ?_
    refine V_iconst (pc := 23) dX6_rising_23 ?_
    refine V_istore_3 (pc := 24) dX6_rising_24 ?_
    exact loop (by omega) 0 (by omega) _ ⟨hM, hL, hS, (KM.set (σ := σ) (t := 34) (k := 0) (z := 0) (v := 0) (by unfold SCM; omega)).tr hK⟩
  · refine V_bipush (pc := 14) dX6_rising_14 (by decide) ?_
    refine V_iretI (pc := 16) dX6_rising_16 rfl ?_
    exact ⟨_, rfl, by unfold q_rising; rw [if_pos (by omega)], by first | exact (KM.set (σ := σ) (t := 34) (k := 0) (z := 0) (v := 0) (by unfold SCM; omega)).tr hK | exact (KM.set (σ := σ) (t := 34) (k := 0) (z := 0) (v := 0) (by unfold SCM; omega))⟩

set_option maxRecDepth 20000 in
set_option maxHeartbeats 1000000 in
theorem c_X6_bold {d : Nat} (hd : 5 ≤ d) {σ : MM} {B : BK} {p y : Int} (hM : MB σ 0 B) (hG : GB B) (hp : IR p) (hy : IR y) : V yX6_bold cX6_bold 5 (some .int) d (QI (fun v σ' => v = q_bold B p y ∧ KM σ σ')) 0 [some (vR 34 0), some (vI p), some (vI y), none, none] [] σ := by
  have hW := hG.w
  have hs := hW.s
  have loop : (¬ ((p < 0 ∨ B 5 0 ≤ p) ∨ (B 0 0 = 0 ∨ y < 0 ∨ B 1 0 < y))) → ∀ i : Nat, i ≤ (B 6 0).toNat → ∀ σi : MM, (QS σ B σi) → V yX6_bold cX6_bold 5 (some .int) d (QI (fun v σ' => v = q_bold B p y ∧ KM σ σ')) 34 [some (vR 34 0), some (vI p), some (vI y), some (vI (bst (fun e => B 13 e ≤ y ∧ B 11 e = p) (SHD B (bt 0) y) i)), some (vI (i : Int))] [] σi := by
    intro hR
    refine up_ind (P := fun i : Nat => ∀ σi : MM, (QS σ B σi) → V yX6_bold cX6_bold 5 (some .int) d (QI (fun v σ' => v = q_bold B p y ∧ KM σ σ')) 34 [some (vR 34 0), some (vI p), some (vI y), some (vI (bst (fun e => B 13 e ≤ y ∧ B 11 e = p) (SHD B (bt 0) y) i)), some (vI (i : Int))] [] σi) ?_ ?_
    · intro σi hI
      have hI0 := hI
      obtain ⟨hM, hL, hS, hK⟩ := hI
      refine V_iload_4 (pc := 34) dX6_bold_34 ?_
      refine V_aload_0 (pc := 36) dX6_bold_36 ?_
      refine V_callV0p (pc := 37) dX6_bold_37 kv_X6_236 rc_34 (by omega) (d - 1) (by omega) rfl (c_X6_entries (by omega) hM hW) ?_
      refine V_icmp_ge (pc := 40) 96 dX6_bold_40 (by decide) (by omega) (by omega) (fun c_40 => ?_) (fun c_40 => ?_)
      · refine V_iload_3 (pc := 96) dX6_bold_96 ?_
        refine V_iretI (pc := 97) dX6_bold_97 rfl ?_
        exact ⟨_, rfl, by unfold q_bold; rw [if_neg (by omega)], hK⟩
      · exact absurd c_40 (by omega)
    · intro i hi ih σi hI
      have hI0 := hI
      obtain ⟨hM, hL, hS, hK⟩ := hI
      have h1 := hW.e (i := (i : Int)) (by omega)
      have hb := bst_in (p := fun e => B 13 e ≤ y ∧ B 11 e = p) (g := SHD B (bt 0) y) i
      have h2 := SHD_in (r := 0) (y := y) hW (e := (i : Int)) (by omega)
      have h3 : bst (fun e => B 13 e ≤ y ∧ B 11 e = p) (SHD B (bt 0) y) i ≠ -1 → _ := fun q => SHD_in (r := 0) (y := y) hW (e := bst (fun e => B 13 e ≤ y ∧ B 11 e = p) (SHD B (bt 0) y) i) (by omega)
      have hS_ : bst (fun e => B 13 e ≤ y ∧ B 11 e = p) (SHD B (bt 0) y) (i + 1) = if (B 13 i ≤ y ∧ B 11 i = p) ∧ (bst (fun e => B 13 e ≤ y ∧ B 11 e = p) (SHD B (bt 0) y) i = -1 ∨ SHD B (bt 0) y (bst (fun e => B 13 e ≤ y ∧ B 11 e = p) (SHD B (bt 0) y) i) < SHD B (bt 0) y i) then (i : Int) else bst (fun e => B 13 e ≤ y ∧ B 11 e = p) (SHD B (bt 0) y) i := rfl
      refine V_iload_4 (pc := 34) dX6_bold_34 ?_
      refine V_aload_0 (pc := 36) dX6_bold_36 ?_
      refine V_callV0p (pc := 37) dX6_bold_37 kv_X6_236 rc_34 (by omega) (d - 1) (by omega) rfl (c_X6_entries (by omega) hM hW) ?_
      refine V_icmp_ge (pc := 40) 96 dX6_bold_40 (by decide) (by omega) (by omega) (fun c_40 => ?_) (fun c_40 => ?_)
      · exact absurd c_40 (by omega)
      · refine V_aload_0 (pc := 43) dX6_bold_43 ?_
        refine V_getc (pc := 44) dX6_bold_44 gf_X6_43 (by omega) ?_
        refine V_iconst (pc := 47) dX6_bold_47 ?_
        refine V_iload_4 (pc := 48) dX6_bold_48 ?_
        refine V_imul (pc := 50) dX6_bold_50 ?_
        refine V_iald (pc := 51) dX6_bold_51 sh_44 (by omega) (by omega) (hM.t0 (by omega)) ?_
        refine V_iload_1 (pc := 52) dX6_bold_52 ?_
        refine V_icmp_ne (pc := 53) 90 dX6_bold_53 (by decide) (by omega) (by omega) (fun c_53 => ?_) (fun c_53 => ?_)
        · refine V_iinc_4 (pc := 90) dX6_bold_90 ?_
          refine V_goto (pc := 93) 34 dX6_bold_93 (by decide) ?_
          refine V.sub (by simp only [subL, Option.some.injEq, Sum.inl.injEq, Sum.inr.injEq, reduceCtorEq, true_or, or_true, false_or, true_and, and_true]; first | (rw [hS_, if_pos (by omega)]; refine ⟨?_, by omega⟩; rfl) | (rw [hS_, if_neg (by omega)]; refine ⟨?_, by omega⟩; rfl)) (ih _ hI0)
        · refine V_aload_0 (pc := 56) dX6_bold_56 ?_
          refine V_iload_4 (pc := 57) dX6_bold_57 ?_
          refine V_iload_2 (pc := 59) dX6_bold_59 ?_
          refine V_callV2p (pc := 60) dX6_bold_60 kv_X6_293 rc_34 (by omega) (d - 1) (by omega) rfl (c_X6_isThere (by omega) hM hW hL (by omega) (by omega)) ?_
          refine V_if_eq_b (pc := 63) 90 dX6_bold_63 (by decide) (fun c_63 => ?_) (fun c_63 => ?_)
          · refine V_iinc_4 (pc := 90) dX6_bold_90 ?_
            refine V_goto (pc := 93) 34 dX6_bold_93 (by decide) ?_
            refine V.sub (by simp only [subL, Option.some.injEq, Sum.inl.injEq, Sum.inr.injEq, reduceCtorEq, true_or, or_true, false_or, true_and, and_true]; first | (rw [hS_, if_pos (by omega)]; refine ⟨?_, by omega⟩; rfl) | (rw [hS_, if_neg (by omega)]; refine ⟨?_, by omega⟩; rfl)) (ih _ hI0)
          · refine V_iload_3 (pc := 66) dX6_bold_66 ?_
            refine V_iconst (pc := 67) dX6_bold_67 ?_
            refine V_icmp_eq (pc := 68) 87 dX6_bold_68 (by decide) (by omega) (by omega) (fun c_68 => ?_) (fun c_68 => ?_)
            · refine V_iload_4 (pc := 87) dX6_bold_87 ?_
              refine V_istore_3 (pc := 89) dX6_bold_89 ?_
              refine V_iinc_4 (pc := 90) dX6_bold_90 ?_
              refine V_goto (pc := 93) 34 dX6_bold_93 (by decide) ?_
              refine V.sub (by simp only [subL, Option.some.injEq, Sum.inl.injEq, Sum.inr.injEq, reduceCtorEq, true_or, or_true, false_or, true_and, and_true]; first | (rw [hS_, if_pos (by omega)]; refine ⟨?_, by omega⟩; rfl) | (rw [hS_, if_neg (by omega)]; refine ⟨?_, by omega⟩; rfl)) (ih _ hI0)
            · refine V_aload_0 (pc := 71) dX6_bold_71 ?_
              refine V_iload_4 (pc := 72) dX6_bold_72 ?_
              refine V_iload_2 (pc := 74) dX6_bold_74 ?_
              refine V_callV2p (pc := 75) dX6_bold_75 kv_X6_283 rc_34 (by omega) (d - 1) (by omega) rfl (c_X6_shadeOf (by omega) (by omega) (by omega) (hS.s (by omega) (by omega))) ?_
              refine V_aload_0 (pc := 78) dX6_bold_78 ?_
              refine V_iload_3 (pc := 79) dX6_bold_79 ?_
              refine V_iload_2 (pc := 80) dX6_bold_80 ?_
              refine V_callV2p (pc := 81) dX6_bold_81 kv_X6_283 rc_34 (by omega) (d - 1) (by omega) rfl (c_X6_shadeOf (by omega) (by omega) (by omega) (hS.s (by omega) (by omega))) ?_
              refine V_icmp_le (pc := 84) 90 dX6_bold_84 (by decide) (by omega) (by omega) (fun c_84 => ?_) (fun c_84 => ?_)
              · refine V_iinc_4 (pc := 90) dX6_bold_90 ?_
                refine V_goto (pc := 93) 34 dX6_bold_93 (by decide) ?_
                refine V.sub (by simp only [subL, Option.some.injEq, Sum.inl.injEq, Sum.inr.injEq, reduceCtorEq, true_or, or_true, false_or, true_and, and_true]; first | (rw [hS_, if_pos (by omega)]; refine ⟨?_, by omega⟩; rfl) | (rw [hS_, if_neg (by omega)]; refine ⟨?_, by omega⟩; rfl)) (ih _ hI0)
              · refine V_iload_4 (pc := 87) dX6_bold_87 ?_
                refine V_istore_3 (pc := 89) dX6_bold_89 ?_
                refine V_iinc_4 (pc := 90) dX6_bold_90 ?_
                refine V_goto (pc := 93) 34 dX6_bold_93 (by decide) ?_
                refine V.sub (by simp only [subL, Option.some.injEq, Sum.inl.injEq, Sum.inr.injEq, reduceCtorEq, true_or, or_true, false_or, true_and, and_true]; first | (rw [hS_, if_pos (by omega)]; refine ⟨?_, by omega⟩; rfl) | (rw [hS_, if_neg (by omega)]; refine ⟨?_, by omega⟩; rfl)) (ih _ hI0)
  refine V_aload_0 (pc := 0) dX6_bold_0 ?_
  refine V_iconst (pc := 1) dX6_bold_1 ?_
  refine V_puti (pc := 2) dX6_bold_2 gf_X6_74 (by omega) ?_
  have hM := (KM.set (σ := σ) (t := 34) (k := 0) (z := 0) (v := 0) (by unfold SCM; omega)).mb hM
  refine V_aload_0 (pc := 5) dX6_bold_5 ?_
  refine V_iload_1 (pc := 6) dX6_bold_6 ?_
  refine V_callV1p (pc := 7) dX6_bold_7 kv_X6_326 rc_34 (by omega) (d - 1) (by omega) rfl (c_X6_isPage (by omega) hM hW (by omega)) ?_
  refine V_if_eq_b (pc := 10) 22 dX6_bold_10 (by decide) (fun c_10 => ?_) (fun c_10 => ?_)
  · refine V_bipush (pc := 22) dX6_bold_22 (by decide) ?_
    refine V_iretI (pc := 24) dX6_bold_24 rfl ?_
    exact ⟨_, rfl, by unfold q_bold; rw [if_pos (by omega)], by first | exact (KM.set (σ := σ) (t := 34) (k := 0) (z := 0) (v := 0) (by unfold SCM; omega)).tr hK | exact (KM.set (σ := σ) (t := 34) (k := 0) (z := 0) (v := 0) (by unfold SCM; omega))⟩
  · refine V_aload_0 (pc := 13) dX6_bold_13 ?_
    refine V_iload_2 (pc := 14) dX6_bold_14 ?_
    refine V_i2l (pc := 15) dX6_bold_15 (by omega) ?_
    refine V_callV1p (pc := 16) dX6_bold_16 kv_X6_249 rc_34 (by omega) (d - 1) (by omega) rfl (c_X6_isYear (by omega) hM hW (by omega)) ?_
    refine V_if_ne_b (pc := 19) 25 dX6_bold_19 (by decide) (fun c_19 => ?_) (fun c_19 => ?_)
    · refine V_aload_0 (pc := 25) dX6_bold_25 ?_
      refine V_callV0z (pc := 26) dX6_bold_26 kv_X6_337 rc_34 (by omega) (d - 1) (by omega) rfl (c_X6_laysNow (by omega) hM hW) (fun σ_26 h_26 => ?_)
      obtain ⟨hL, hS, hK⟩ := h_26
      have hM := hK.mb hM
      refine V_iconst (pc := 29) dX6_bold_29 ?_
      refine V_istore_3 (pc := 30) dX6_bold_30 ?_
      refine V_iconst (pc := 31) dX6_bold_31 ?_
      refine V_istore_4 (pc := 32) dX6_bold_32 ?_
      exact loop (by omega) 0 (by omega) _ ⟨hM, hL, hS, (KM.set (σ := σ) (t := 34) (k := 0) (z := 0) (v := 0) (by unfold SCM; omega)).tr hK⟩
    · refine V_bipush (pc := 22) dX6_bold_22 (by decide) ?_
      refine V_iretI (pc := 24) dX6_bold_24 rfl ?_
      exact ⟨_, rfl, by unfold q_bold; rw [if_pos (by omega)], by first | exact (KM.set (σ := σ) (t := 34) (k := 0) (z := 0) (v := 0) (by unfold SCM; omega)).tr hK | exact (KM.set (σ := σ) (t := 34) (k := 0) (z := 0) (v := 0) (by unfold SCM; omega))⟩

set_option maxRecDepth 20000 in
set_option maxHeartbeats 1000000 in
theorem c_X6_sum {d : Nat} (hd : 5 ≤ d) {σ : MM} {B : BK} {p y : Int} (hM : MB σ 0 B) (hG : GB B) (hp : IR p) (hy : IR y) : V yX6_sum cX6_sum 5 (some .int) d (QI (fun v σ' => v = q_sum B p y ∧ KM σ σ')) 0 [some (vR 34 0), some (vI p), some (vI y), none, none] [] σ := by
  have hW := hG.w
  have hs := hW.s
  have loop : (¬ ((p < 0 ∨ B 5 0 ≤ p) ∨ (B 0 0 = 0 ∨ y < 0 ∨ B 1 0 < y))) → ∀ i : Nat, i ≤ (B 6 0).toNat → ∀ σi : MM, (QS σ B σi) → V yX6_sum cX6_sum 5 (some .int) d (QI (fun v σ' => v = q_sum B p y ∧ KM σ σ')) 34 [some (vR 34 0), some (vI p), some (vI y), some (vI (sumN (fun e => if B 11 e = p then SHD B (bt 0) y e else 0) i)), some (vI (i : Int))] [] σi := by
    intro hR
    refine up_ind (P := fun i : Nat => ∀ σi : MM, (QS σ B σi) → V yX6_sum cX6_sum 5 (some .int) d (QI (fun v σ' => v = q_sum B p y ∧ KM σ σ')) 34 [some (vR 34 0), some (vI p), some (vI y), some (vI (sumN (fun e => if B 11 e = p then SHD B (bt 0) y e else 0) i)), some (vI (i : Int))] [] σi) ?_ ?_
    · intro σi hI
      have hI0 := hI
      obtain ⟨hM, hL, hS, hK⟩ := hI
      refine V_iload_4 (pc := 34) dX6_sum_34 ?_
      refine V_aload_0 (pc := 36) dX6_sum_36 ?_
      refine V_callV0p (pc := 37) dX6_sum_37 kv_X6_236 rc_34 (by omega) (d - 1) (by omega) rfl (c_X6_entries (by omega) hM hW) ?_
      refine V_icmp_ge (pc := 40) 76 dX6_sum_40 (by decide) (by omega) (by omega) (fun c_40 => ?_) (fun c_40 => ?_)
      · refine V_iload_3 (pc := 76) dX6_sum_76 ?_
        refine V_iretI (pc := 77) dX6_sum_77 rfl ?_
        exact ⟨_, rfl, by unfold q_sum; rw [if_neg (by omega)], hK⟩
      · exact absurd c_40 (by omega)
    · intro i hi ih σi hI
      have hI0 := hI
      obtain ⟨hM, hL, hS, hK⟩ := hI
      have h1 := hW.e (i := (i : Int)) (by omega)
      have hS_ : sumN (fun e => if B 11 e = p then SHD B (bt 0) y e else 0) (i + 1) = sumN (fun e => if B 11 e = p then SHD B (bt 0) y e else 0) i + (if B 11 i = p then SHD B (bt 0) y i else 0) := rfl
      refine V_iload_4 (pc := 34) dX6_sum_34 ?_
      refine V_aload_0 (pc := 36) dX6_sum_36 ?_
      refine V_callV0p (pc := 37) dX6_sum_37 kv_X6_236 rc_34 (by omega) (d - 1) (by omega) rfl (c_X6_entries (by omega) hM hW) ?_
      refine V_icmp_ge (pc := 40) 76 dX6_sum_40 (by decide) (by omega) (by omega) (fun c_40 => ?_) (fun c_40 => ?_)
      · exact absurd c_40 (by omega)
      · refine V_iload_3 (pc := 43) dX6_sum_43 ?_
        refine V_aload_0 (pc := 44) dX6_sum_44 ?_
        refine V_getc (pc := 45) dX6_sum_45 gf_X6_43 (by omega) ?_
        refine V_iconst (pc := 48) dX6_sum_48 ?_
        refine V_iload_4 (pc := 49) dX6_sum_49 ?_
        refine V_imul (pc := 51) dX6_sum_51 ?_
        refine V_iald (pc := 52) dX6_sum_52 sh_44 (by omega) (by omega) (hM.t0 (by omega)) ?_
        refine V_iload_1 (pc := 53) dX6_sum_53 ?_
        refine V_icmp_ne (pc := 54) 67 dX6_sum_54 (by decide) (by omega) (by omega) (fun c_54 => ?_) (fun c_54 => ?_)
        · refine V_iconst (pc := 67) dX6_sum_67 ?_
          refine V_iadd (pc := 68) dX6_sum_68 ?_
          refine V_istore_3 (pc := 69) dX6_sum_69 ?_
          refine V_iinc_4 (pc := 70) dX6_sum_70 ?_
          refine V_goto (pc := 73) 34 dX6_sum_73 (by decide) ?_
          refine V.sub (by simp only [subL, Option.some.injEq, Sum.inl.injEq, Sum.inr.injEq, reduceCtorEq, true_or, or_true, false_or, true_and, and_true]; first | (rw [hS_, if_pos (by omega)]; refine ⟨by omega, by omega⟩) | (rw [hS_, if_neg (by omega)]; refine ⟨by omega, by omega⟩)) (ih _ hI0)
        · refine V_aload_0 (pc := 57) dX6_sum_57 ?_
          refine V_iload_4 (pc := 58) dX6_sum_58 ?_
          refine V_iload_2 (pc := 60) dX6_sum_60 ?_
          refine V_callV2p (pc := 61) dX6_sum_61 kv_X6_283 rc_34 (by omega) (d - 1) (by omega) rfl (c_X6_shadeOf (by omega) (by omega) (by omega) (hS.s (by omega) (by omega))) ?_
          refine V_goto (pc := 64) 68 dX6_sum_64 (by decide) ?_
          refine V_iadd (pc := 68) dX6_sum_68 ?_
          refine V_istore_3 (pc := 69) dX6_sum_69 ?_
          refine V_iinc_4 (pc := 70) dX6_sum_70 ?_
          refine V_goto (pc := 73) 34 dX6_sum_73 (by decide) ?_
          refine V.sub (by simp only [subL, Option.some.injEq, Sum.inl.injEq, Sum.inr.injEq, reduceCtorEq, true_or, or_true, false_or, true_and, and_true]; first | (rw [hS_, if_pos (by omega)]; refine ⟨by omega, by omega⟩) | (rw [hS_, if_neg (by omega)]; refine ⟨by omega, by omega⟩)) (ih _ hI0)
  refine V_aload_0 (pc := 0) dX6_sum_0 ?_
  refine V_iconst (pc := 1) dX6_sum_1 ?_
  refine V_puti (pc := 2) dX6_sum_2 gf_X6_74 (by omega) ?_
  have hM := (KM.set (σ := σ) (t := 34) (k := 0) (z := 0) (v := 0) (by unfold SCM; omega)).mb hM
  refine V_aload_0 (pc := 5) dX6_sum_5 ?_
  refine V_iload_1 (pc := 6) dX6_sum_6 ?_
  refine V_callV1p (pc := 7) dX6_sum_7 kv_X6_326 rc_34 (by omega) (d - 1) (by omega) rfl (c_X6_isPage (by omega) hM hW (by omega)) ?_
  refine V_if_eq_b (pc := 10) 22 dX6_sum_10 (by decide) (fun c_10 => ?_) (fun c_10 => ?_)
  · refine V_bipush (pc := 22) dX6_sum_22 (by decide) ?_
    refine V_iretI (pc := 24) dX6_sum_24 rfl ?_
    exact ⟨_, rfl, by unfold q_sum; rw [if_pos (by omega)], by first | exact (KM.set (σ := σ) (t := 34) (k := 0) (z := 0) (v := 0) (by unfold SCM; omega)).tr hK | exact (KM.set (σ := σ) (t := 34) (k := 0) (z := 0) (v := 0) (by unfold SCM; omega))⟩
  · refine V_aload_0 (pc := 13) dX6_sum_13 ?_
    refine V_iload_2 (pc := 14) dX6_sum_14 ?_
    refine V_i2l (pc := 15) dX6_sum_15 (by omega) ?_
    refine V_callV1p (pc := 16) dX6_sum_16 kv_X6_249 rc_34 (by omega) (d - 1) (by omega) rfl (c_X6_isYear (by omega) hM hW (by omega)) ?_
    refine V_if_ne_b (pc := 19) 25 dX6_sum_19 (by decide) (fun c_19 => ?_) (fun c_19 => ?_)
    · refine V_aload_0 (pc := 25) dX6_sum_25 ?_
      refine V_callV0z (pc := 26) dX6_sum_26 kv_X6_337 rc_34 (by omega) (d - 1) (by omega) rfl (c_X6_laysNow (by omega) hM hW) (fun σ_26 h_26 => ?_)
      obtain ⟨hL, hS, hK⟩ := h_26
      have hM := hK.mb hM
      refine V_iconst (pc := 29) dX6_sum_29 ?_
      refine V_istore_3 (pc := 30) dX6_sum_30 ?_
      refine V_iconst (pc := 31) dX6_sum_31 ?_
      refine V_istore_4 (pc := 32) dX6_sum_32 ?_
      exact loop (by omega) 0 (by omega) _ ⟨hM, hL, hS, (KM.set (σ := σ) (t := 34) (k := 0) (z := 0) (v := 0) (by unfold SCM; omega)).tr hK⟩
    · refine V_bipush (pc := 22) dX6_sum_22 (by decide) ?_
      refine V_iretI (pc := 24) dX6_sum_24 rfl ?_
      exact ⟨_, rfl, by unfold q_sum; rw [if_pos (by omega)], by first | exact (KM.set (σ := σ) (t := 34) (k := 0) (z := 0) (v := 0) (by unfold SCM; omega)).tr hK | exact (KM.set (σ := σ) (t := 34) (k := 0) (z := 0) (v := 0) (by unfold SCM; omega))⟩

set_option maxRecDepth 20000 in
set_option maxHeartbeats 1000000 in
theorem c_X6_peaks {d : Nat} (hd : 5 ≤ d) {σ : MM} {B : BK} (hM : MB σ 0 B) (hG : GB B) : V yX6_peaks cX6_peaks 3 (some .int) d (QI (fun v σ' => v = q_peaks B ∧ KM σ σ')) 0 [some (vR 34 0), none, none] [] σ := by
  have hW := hG.w
  have hs := hW.s
  have loop : (¬ B 0 0 = 0) → ∀ i : Nat, i ≤ (B 1 0).toNat → ∀ σi : MM, (QS σ B σi) → V yX6_peaks cX6_peaks 3 (some .int) d (QI (fun v σ' => v = q_peaks B ∧ KM σ σ')) 23 [some (vR 34 0), some (vI (mxN (fun y => sumN (fun e => SHD B (bt 0) y e) (B 6 0).toNat) i)), some (vI ((i : Int) + 1))] [] σi := by
    intro hR
    refine up_ind (P := fun i : Nat => ∀ σi : MM, (QS σ B σi) → V yX6_peaks cX6_peaks 3 (some .int) d (QI (fun v σ' => v = q_peaks B ∧ KM σ σ')) 23 [some (vR 34 0), some (vI (mxN (fun y => sumN (fun e => SHD B (bt 0) y e) (B 6 0).toNat) i)), some (vI ((i : Int) + 1))] [] σi) ?_ ?_
    · intro σi hI
      have hI0 := hI
      obtain ⟨hM, hL, hS, hK⟩ := hI
      refine V_iload_2 (pc := 23) dX6_peaks_23 ?_
      refine V_aload_0 (pc := 24) dX6_peaks_24 ?_
      refine V_callV0p (pc := 25) dX6_peaks_25 kv_X6_243 rc_34 (by omega) (d - 1) (by omega) rfl (c_X6_years (by omega) hM hW) ?_
      refine V_icmp_gt (pc := 28) 52 dX6_peaks_28 (by decide) (by omega) (by omega) (fun c_28 => ?_) (fun c_28 => ?_)
      · refine V_iload_1 (pc := 52) dX6_peaks_52 ?_
        refine V_iretI (pc := 53) dX6_peaks_53 rfl ?_
        exact ⟨_, rfl, by unfold q_peaks; rw [if_neg (by omega)]; rfl, hK⟩
      · exact absurd c_28 (by omega)
    · intro i hi ih σi hI
      have hI0 := hI
      obtain ⟨hM, hL, hS, hK⟩ := hI
      have h0 := mxN_in (fun y => sumN (fun e => SHD B (bt 0) y e) (B 6 0).toNat) i
      have h1 := ALL_in hW (mxN (fun y => sumN (fun e => SHD B (bt 0) y e) (B 6 0).toNat) i)
      have h2 := ALL_in hW ((i : Int) + 1)
      have h3 : sumN (fun e => SHD B (bt 0) (mxN (fun y => sumN (fun e => SHD B (bt 0) y e) (B 6 0).toNat) i) e) (B 6 0).toNat = ALL B (mxN (fun y => sumN (fun e => SHD B (bt 0) y e) (B 6 0).toNat) i) := rfl
      have h4 : sumN (fun e => SHD B (bt 0) ((i : Int) + 1) e) (B 6 0).toNat = ALL B ((i : Int) + 1) := rfl
      have hS_ : mxN (fun y => sumN (fun e => SHD B (bt 0) y e) (B 6 0).toNat) (i + 1) = if sumN (fun e => SHD B (bt 0) (mxN (fun y => sumN (fun e => SHD B (bt 0) y e) (B 6 0).toNat) i) e) (B 6 0).toNat < sumN (fun e => SHD B (bt 0) ((i : Int) + 1) e) (B 6 0).toNat then (i : Int) + 1 else mxN (fun y => sumN (fun e => SHD B (bt 0) y e) (B 6 0).toNat) i := rfl
      refine V_iload_2 (pc := 23) dX6_peaks_23 ?_
      refine V_aload_0 (pc := 24) dX6_peaks_24 ?_
      refine V_callV0p (pc := 25) dX6_peaks_25 kv_X6_243 rc_34 (by omega) (d - 1) (by omega) rfl (c_X6_years (by omega) hM hW) ?_
      refine V_icmp_gt (pc := 28) 52 dX6_peaks_28 (by decide) (by omega) (by omega) (fun c_28 => ?_) (fun c_28 => ?_)
      · exact absurd c_28 (by omega)
      · refine V_aload_0 (pc := 31) dX6_peaks_31 ?_
        refine V_iload_2 (pc := 32) dX6_peaks_32 ?_
        refine V_callV1p (pc := 33) dX6_peaks_33 kv_X6_346 rc_34 (by omega) (d - 1) (by omega) rfl (c_X6_allAt (by omega) hM hW hL hS (by omega)) ?_
        refine V_aload_0 (pc := 36) dX6_peaks_36 ?_
        refine V_iload_1 (pc := 37) dX6_peaks_37 ?_
        refine V_callV1p (pc := 38) dX6_peaks_38 kv_X6_346 rc_34 (by omega) (d - 1) (by omega) rfl (c_X6_allAt (by omega) hM hW hL hS (by omega)) ?_
        refine V_icmp_le (pc := 41) 46 dX6_peaks_41 (by decide) (by omega) (by omega) (fun c_41 => ?_) (fun c_41 => ?_)
        · refine V_iinc_2 (pc := 46) dX6_peaks_46 ?_
          refine V_goto (pc := 49) 23 dX6_peaks_49 (by decide) ?_
          refine V.sub (by simp only [subL, Option.some.injEq, Sum.inl.injEq, Sum.inr.injEq, reduceCtorEq, true_or, or_true, false_or, true_and, and_true]; first | (rw [hS_, if_pos (by omega)]; refine ⟨?_, by omega⟩; rfl) | (rw [hS_, if_neg (by omega)]; refine ⟨?_, by omega⟩; rfl)) (ih _ hI0)
        · refine V_iload_2 (pc := 44) dX6_peaks_44 ?_
          refine V_istore_1 (pc := 45) dX6_peaks_45 ?_
          refine V_iinc_2 (pc := 46) dX6_peaks_46 ?_
          refine V_goto (pc := 49) 23 dX6_peaks_49 (by decide) ?_
          refine V.sub (by simp only [subL, Option.some.injEq, Sum.inl.injEq, Sum.inr.injEq, reduceCtorEq, true_or, or_true, false_or, true_and, and_true]; first | (rw [hS_, if_pos (by omega)]; refine ⟨?_, by omega⟩; rfl) | (rw [hS_, if_neg (by omega)]; refine ⟨?_, by omega⟩; rfl)) (ih _ hI0)
  refine V_aload_0 (pc := 0) dX6_peaks_0 ?_
  refine V_iconst (pc := 1) dX6_peaks_1 ?_
  refine V_puti (pc := 2) dX6_peaks_2 gf_X6_74 (by omega) ?_
  have hM := (KM.set (σ := σ) (t := 34) (k := 0) (z := 0) (v := 0) (by unfold SCM; omega)).mb hM
  refine V_aload_0 (pc := 5) dX6_peaks_5 ?_
  refine V_callV0p (pc := 6) dX6_peaks_6 kv_X6_240 rc_34 (by omega) (d - 1) (by omega) rfl (c_X6_isBook (by omega) hM hW) ?_
  refine V_if_ne_b (pc := 9) 15 dX6_peaks_9 (by decide) (fun c_9 => ?_) (fun c_9 => ?_)
  · refine V_aload_0 (pc := 15) dX6_peaks_15 ?_
    refine V_callV0z (pc := 16) dX6_peaks_16 kv_X6_337 rc_34 (by omega) (d - 1) (by omega) rfl (c_X6_laysNow (by omega) hM hW) (fun σ_16 h_16 => ?_)
    obtain ⟨hL, hS, hK⟩ := h_16
    have hM := hK.mb hM
    refine V_iconst (pc := 19) dX6_peaks_19 ?_
    refine V_istore_1 (pc := 20) dX6_peaks_20 ?_
    refine V_iconst (pc := 21) dX6_peaks_21 ?_
    refine V_istore_2 (pc := 22) dX6_peaks_22 ?_
    exact loop (by omega) 0 (by omega) _ ⟨hM, hL, hS, (KM.set (σ := σ) (t := 34) (k := 0) (z := 0) (v := 0) (by unfold SCM; omega)).tr hK⟩
  · refine V_bipush (pc := 12) dX6_peaks_12 (by decide) ?_
    refine V_iretI (pc := 14) dX6_peaks_14 rfl ?_
    exact ⟨_, rfl, by unfold q_peaks; rw [if_pos (by omega)], by first | exact (KM.set (σ := σ) (t := 34) (k := 0) (z := 0) (v := 0) (by unfold SCM; omega)).tr hK | exact (KM.set (σ := σ) (t := 34) (k := 0) (z := 0) (v := 0) (by unfold SCM; omega))⟩

set_option maxRecDepth 20000 in
set_option maxHeartbeats 1000000 in
theorem c_X6_ages {d : Nat} (hd : 2 ≤ d) {σ : MM} {B : BK} {i0 p n y : Int} (hM : MB σ 0 B) (hG : GB B) (hi0 : IR i0) (hp : IR p) (hn : IR n) (hy : IR y) : V yX6_ages cX6_ages 7 (some .int) d (QI (fun v σ' => v = q_ages B i0 p n y ∧ KM σ σ')) 0 [some (vR 34 0), some (vI i0), some (vI p), some (vI n), some (vI y), none, none] [] σ := by
  have hW := hG.w
  have hs := hW.s
  have loop : (¬ ((i0 < 0 ∨ B 4 0 ≤ i0) ∨ (p < 0 ∨ B 5 0 ≤ p) ∨ (n < 1 ∨ 60 < n) ∨ (B 0 0 = 0 ∨ y < 0 ∨ B 1 0 < y))) → ∀ i : Nat, i ≤ (B 1 0 + 1).toNat → ∀ σi : MM, (QT σ B σi) → V yX6_ages cX6_ages 7 (some .int) d (QI (fun v σ' => v = q_ages B i0 p n y ∧ KM σ σ')) 52 [some (vR 34 0), some (vI i0), some (vI p), some (vI n), some (vI y), some (vI (bsN (fun w => bI (LNE B i0 p w y = n)) i)), some (vI (i : Int))] [] σi := by
    intro hR
    refine up_ind (P := fun i : Nat => ∀ σi : MM, (QT σ B σi) → V yX6_ages cX6_ages 7 (some .int) d (QI (fun v σ' => v = q_ages B i0 p n y ∧ KM σ σ')) 52 [some (vR 34 0), some (vI i0), some (vI p), some (vI n), some (vI y), some (vI (bsN (fun w => bI (LNE B i0 p w y = n)) i)), some (vI (i : Int))] [] σi) ?_ ?_
    · intro σi hI
      have hI0 := hI
      obtain ⟨hM, hK⟩ := hI
      refine V_iload_6 (pc := 52) dX6_ages_52 ?_
      refine V_aload_0 (pc := 54) dX6_ages_54 ?_
      refine V_callV0p (pc := 55) dX6_ages_55 kv_X6_243 rc_34 (by omega) (d - 1) (by omega) rfl (c_X6_years (by omega) hM hW) ?_
      refine V_icmp_gt (pc := 58) 94 dX6_ages_58 (by decide) (by omega) (by omega) (fun c_58 => ?_) (fun c_58 => ?_)
      · refine V_iload_5 (pc := 94) dX6_ages_94 ?_
        refine V_iretI (pc := 96) dX6_ages_96 rfl ?_
        exact ⟨_, rfl, by unfold q_ages; rw [if_neg (by omega)], hK⟩
      · exact absurd c_58 (by omega)
    · intro i hi ih σi hI
      have hI0 := hI
      obtain ⟨hM, hK⟩ := hI
      have hn9 := LNE_in hW (i := i0) (p := p) (wr := (i : Int)) (y := y) (by omega)
      have hb := bsI_in (fun w => LNE B i0 p w y = n) i
      have hS_ := bsN_S (fun w => bI (LNE B i0 p w y = n)) i
      refine V_iload_6 (pc := 52) dX6_ages_52 ?_
      refine V_aload_0 (pc := 54) dX6_ages_54 ?_
      refine V_callV0p (pc := 55) dX6_ages_55 kv_X6_243 rc_34 (by omega) (d - 1) (by omega) rfl (c_X6_years (by omega) hM hW) ?_
      refine V_icmp_gt (pc := 58) 94 dX6_ages_58 (by decide) (by omega) (by omega) (fun c_58 => ?_) (fun c_58 => ?_)
      · exact absurd c_58 (by omega)
      · refine V_iload_5 (pc := 61) dX6_ages_61 ?_
        refine V_aload_0 (pc := 63) dX6_ages_63 ?_
        refine V_iload_1 (pc := 64) dX6_ages_64 ?_
        refine V_iload_2 (pc := 65) dX6_ages_65 ?_
        refine V_iload_6 (pc := 66) dX6_ages_66 ?_
        refine V_iload_4 (pc := 68) dX6_ages_68 ?_
        refine V_callV4p (pc := 70) dX6_ages_70 kv_X6_359 rc_34 (by omega) (d - 1) (by omega) rfl (c_X6_alone (by omega) hM hW (by omega) (by omega) (by omega) (by omega)) ?_
        refine V_iload_3 (pc := 73) dX6_ages_73 ?_
        refine V_icmp_ne (pc := 74) 84 dX6_ages_74 (by decide) (by omega) (by omega) (fun c_74 => ?_) (fun c_74 => ?_)
        · refine V_iconst (pc := 84) dX6_ages_84 ?_
          first
            | refine V_ior_add (pc := 85) dX6_ages_85 (by assumption) ?_
            | refine V_ior_0 (pc := 85) dX6_ages_85 ?_
          refine V_istore_5 (pc := 86) dX6_ages_86 ?_
          refine V_iinc_6 (pc := 88) dX6_ages_88 ?_
          refine V_goto (pc := 91) 52 dX6_ages_91 (by decide) ?_
          refine V.sub (by simp only [subL, Option.some.injEq, Sum.inl.injEq, Sum.inr.injEq, reduceCtorEq, true_or, or_true, false_or, true_and, and_true]; first | (rw [hS_, bI_t (by omega)]; omega) | (rw [hS_, bI_f (by omega)]; omega)) (ih _ hI0)
        · refine V_iconst (pc := 77) dX6_ages_77 ?_
          refine V_iload_6 (pc := 78) dX6_ages_78 ?_
          refine V_ishl_1 (pc := 80) dX6_ages_80 (by omega) ?_
          refine V_goto (pc := 81) 85 dX6_ages_81 (by decide) ?_
          first
            | refine V_ior_add (pc := 85) dX6_ages_85 (by assumption) ?_
            | refine V_ior_0 (pc := 85) dX6_ages_85 ?_
          refine V_istore_5 (pc := 86) dX6_ages_86 ?_
          refine V_iinc_6 (pc := 88) dX6_ages_88 ?_
          refine V_goto (pc := 91) 52 dX6_ages_91 (by decide) ?_
          refine V.sub (by simp only [subL, Option.some.injEq, Sum.inl.injEq, Sum.inr.injEq, reduceCtorEq, true_or, or_true, false_or, true_and, and_true]; first | (rw [hS_, bI_t (by omega)]; omega) | (rw [hS_, bI_f (by omega)]; omega)) (ih _ hI0)
  refine V_aload_0 (pc := 0) dX6_ages_0 ?_
  refine V_iconst (pc := 1) dX6_ages_1 ?_
  refine V_puti (pc := 2) dX6_ages_2 gf_X6_74 (by omega) ?_
  have hM := (KM.set (σ := σ) (t := 34) (k := 0) (z := 0) (v := 0) (by unfold SCM; omega)).mb hM
  refine V_aload_0 (pc := 5) dX6_ages_5 ?_
  refine V_iload_1 (pc := 6) dX6_ages_6 ?_
  refine V_callV1p (pc := 7) dX6_ages_7 kv_X6_321 rc_34 (by omega) (d - 1) (by omega) rfl (c_X6_isInk (by omega) hM hW (by omega)) ?_
  refine V_if_eq_b (pc := 10) 43 dX6_ages_10 (by decide) (fun c_10 => ?_) (fun c_10 => ?_)
  · refine V_bipush (pc := 43) dX6_ages_43 (by decide) ?_
    refine V_iretI (pc := 45) dX6_ages_45 rfl ?_
    exact ⟨_, rfl, by unfold q_ages; rw [if_pos (by omega)], by first | exact (KM.set (σ := σ) (t := 34) (k := 0) (z := 0) (v := 0) (by unfold SCM; omega)).tr hK | exact (KM.set (σ := σ) (t := 34) (k := 0) (z := 0) (v := 0) (by unfold SCM; omega))⟩
  · refine V_aload_0 (pc := 13) dX6_ages_13 ?_
    refine V_iload_2 (pc := 14) dX6_ages_14 ?_
    refine V_callV1p (pc := 15) dX6_ages_15 kv_X6_326 rc_34 (by omega) (d - 1) (by omega) rfl (c_X6_isPage (by omega) hM hW (by omega)) ?_
    refine V_if_eq_b (pc := 18) 43 dX6_ages_18 (by decide) (fun c_18 => ?_) (fun c_18 => ?_)
    · refine V_bipush (pc := 43) dX6_ages_43 (by decide) ?_
      refine V_iretI (pc := 45) dX6_ages_45 rfl ?_
      exact ⟨_, rfl, by unfold q_ages; rw [if_pos (by omega)], by first | exact (KM.set (σ := σ) (t := 34) (k := 0) (z := 0) (v := 0) (by unfold SCM; omega)).tr hK | exact (KM.set (σ := σ) (t := 34) (k := 0) (z := 0) (v := 0) (by unfold SCM; omega))⟩
    · refine V_iload_3 (pc := 21) dX6_ages_21 ?_
      refine V_i2l (pc := 22) dX6_ages_22 (by omega) ?_
      refine V_lconst (pc := 23) dX6_ages_23 (z := 1) rfl ?_
      refine V_ldc2 (pc := 24) dX6_ages_24 (z := 60) ldc_X6_366 ?_
      refine V_callS3p (pc := 27) dX6_ages_27 kv_X6_79 (d - 1) (by omega) rfl (c_X6_in (by omega) (by omega) (by omega) (by omega)) ?_
      refine V_if_eq_b (pc := 30) 43 dX6_ages_30 (by decide) (fun c_30 => ?_) (fun c_30 => ?_)
      · refine V_bipush (pc := 43) dX6_ages_43 (by decide) ?_
        refine V_iretI (pc := 45) dX6_ages_45 rfl ?_
        exact ⟨_, rfl, by unfold q_ages; rw [if_pos (by omega)], by first | exact (KM.set (σ := σ) (t := 34) (k := 0) (z := 0) (v := 0) (by unfold SCM; omega)).tr hK | exact (KM.set (σ := σ) (t := 34) (k := 0) (z := 0) (v := 0) (by unfold SCM; omega))⟩
      · refine V_aload_0 (pc := 33) dX6_ages_33 ?_
        refine V_iload_4 (pc := 34) dX6_ages_34 ?_
        refine V_i2l (pc := 36) dX6_ages_36 (by omega) ?_
        refine V_callV1p (pc := 37) dX6_ages_37 kv_X6_249 rc_34 (by omega) (d - 1) (by omega) rfl (c_X6_isYear (by omega) hM hW (by omega)) ?_
        refine V_if_ne_b (pc := 40) 46 dX6_ages_40 (by decide) (fun c_40 => ?_) (fun c_40 => ?_)
        · refine V_iconst (pc := 46) dX6_ages_46 ?_
          refine V_istore_5 (pc := 47) dX6_ages_47 ?_
          refine V_iconst (pc := 49) dX6_ages_49 ?_
          refine V_istore_6 (pc := 50) dX6_ages_50 ?_
          exact loop (by omega) 0 (by omega) _ ⟨hM, (KM.set (σ := σ) (t := 34) (k := 0) (z := 0) (v := 0) (by unfold SCM; omega))⟩
        · refine V_bipush (pc := 43) dX6_ages_43 (by decide) ?_
          refine V_iretI (pc := 45) dX6_ages_45 rfl ?_
          exact ⟨_, rfl, by unfold q_ages; rw [if_pos (by omega)], by first | exact (KM.set (σ := σ) (t := 34) (k := 0) (z := 0) (v := 0) (by unfold SCM; omega)).tr hK | exact (KM.set (σ := σ) (t := 34) (k := 0) (z := 0) (v := 0) (by unfold SCM; omega))⟩

set_option maxRecDepth 20000 in
set_option maxHeartbeats 1000000 in
theorem c_X6_steady {d : Nat} (hd : 5 ≤ d) {σ : MM} {B : BK} {e : Int} (hM : MB σ 0 B) (hG : GB B) (he : IR e) : V yX6_steady cX6_steady 5 (some .int) d (QI (fun v σ' => v = q_steady B e ∧ KM σ σ')) 0 [some (vR 34 0), some (vI e), none, none, none] [] σ := by
  have hW := hG.w
  have hs := hW.s
  have loop : (¬ (e < 0 ∨ B 6 0 ≤ e)) → ∀ i : Nat, i ≤ (B 1 0 + 1).toNat → ∀ σi : MM, (QS σ B σi) → V yX6_steady cX6_steady 5 (some .int) d (QI (fun v σ' => v = q_steady B e ∧ KM σ σ')) 28 [some (vR 34 0), some (vI e), some (vI ((STD (fun y => SHD B (bt 0) y e) (B 13 e) ((i : Int) - B 13 e).toNat).1)), some (vI ((STD (fun y => SHD B (bt 0) y e) (B 13 e) ((i : Int) - B 13 e).toNat).2)), some (vI (i : Int))] [] σi := by
    intro hR
    refine up_ind (P := fun i : Nat => ∀ σi : MM, (QS σ B σi) → V yX6_steady cX6_steady 5 (some .int) d (QI (fun v σ' => v = q_steady B e ∧ KM σ σ')) 28 [some (vR 34 0), some (vI e), some (vI ((STD (fun y => SHD B (bt 0) y e) (B 13 e) ((i : Int) - B 13 e).toNat).1)), some (vI ((STD (fun y => SHD B (bt 0) y e) (B 13 e) ((i : Int) - B 13 e).toNat).2)), some (vI (i : Int))] [] σi) ?_ ?_
    · intro σi hI
      have hI0 := hI
      obtain ⟨hM, hL, hS, hK⟩ := hI
      refine V_iload_4 (pc := 28) dX6_steady_28 ?_
      refine V_aload_0 (pc := 30) dX6_steady_30 ?_
      refine V_callV0p (pc := 31) dX6_steady_31 kv_X6_243 rc_34 (by omega) (d - 1) (by omega) rfl (c_X6_years (by omega) hM hW) ?_
      refine V_icmp_gt (pc := 34) 100 dX6_steady_34 (by decide) (by omega) (by omega) (fun c_34 => ?_) (fun c_34 => ?_)
      · refine V_iload_2 (pc := 100) dX6_steady_100 ?_
        refine V_iretI (pc := 101) dX6_steady_101 rfl ?_
        exact ⟨_, rfl, by unfold q_steady; rw [if_neg (by omega), show (((B 1 0 + 1).toNat : Nat) : Int) - B 13 e = B 1 0 - B 13 e + 1 by omega], hK⟩
      · exact absurd c_34 (by omega)
    · intro i hi ih σi hI
      have hI0 := hI
      obtain ⟨hM, hL, hS, hK⟩ := hI
      have h1 := SHD_in (r := 0) (y := (i : Int)) hW (e := e) (by omega)
      have h2 := SHD_in (r := 0) (y := (i : Int) - 1) hW (e := e) (by omega)
      have h3 := hW.e (i := e) (by omega)
      have hd := STD_in (fun y => SHD B (bt 0) y e) (B 13 e) ((i : Int) - B 13 e).toNat
      have hk0 : (i : Int) < B 13 e → (((i + 1 : Nat) : Int) - B 13 e).toNat = ((i : Int) - B 13 e).toNat := fun q => by omega
      have hk1 : B 13 e ≤ (i : Int) → (((i + 1 : Nat) : Int) - B 13 e).toNat = ((i : Int) - B 13 e).toNat + 1 := fun q => by omega
      have hk2 : B 13 e ≤ (i : Int) → B 13 e + (((i : Int) - B 13 e).toNat : Nat) = i := fun q => by omega
      have hS_ := STD_S (fun y => SHD B (bt 0) y e) (B 13 e) ((i : Int) - B 13 e).toNat
      refine V_iload_4 (pc := 28) dX6_steady_28 ?_
      refine V_aload_0 (pc := 30) dX6_steady_30 ?_
      refine V_callV0p (pc := 31) dX6_steady_31 kv_X6_243 rc_34 (by omega) (d - 1) (by omega) rfl (c_X6_years (by omega) hM hW) ?_
      refine V_icmp_gt (pc := 34) 100 dX6_steady_34 (by decide) (by omega) (by omega) (fun c_34 => ?_) (fun c_34 => ?_)
      · exact absurd c_34 (by omega)
      · refine V_aload_0 (pc := 37) dX6_steady_37 ?_
        refine V_iload_1 (pc := 38) dX6_steady_38 ?_
        refine V_iload_4 (pc := 39) dX6_steady_39 ?_
        refine V_callV2p (pc := 41) dX6_steady_41 kv_X6_293 rc_34 (by omega) (d - 1) (by omega) rfl (c_X6_isThere (by omega) hM hW hL (by omega) (by omega)) ?_
        refine V_if_ne_b (pc := 44) 50 dX6_steady_44 (by decide) (fun c_44 => ?_) (fun c_44 => ?_)
        · refine V_iload_4 (pc := 50) dX6_steady_50 ?_
          refine V_aload_0 (pc := 52) dX6_steady_52 ?_
          refine V_getc (pc := 53) dX6_steady_53 gf_X6_53 (by omega) ?_
          refine V_iload_1 (pc := 56) dX6_steady_56 ?_
          refine V_iald (pc := 57) dX6_steady_57 sh_47 (by omega) (by omega) (hL.w47 hG.n99 _ (by omega)) ?_
          refine V_icmp_le (pc := 58) 86 dX6_steady_58 (by decide) (by omega) (by omega) (fun c_58 => ?_) (fun c_58 => ?_)
          · refine V_iconst (pc := 86) dX6_steady_86 ?_
            refine V_istore_3 (pc := 87) dX6_steady_87 ?_
            refine V_iload_2 (pc := 88) dX6_steady_88 ?_
            refine V_iload_3 (pc := 89) dX6_steady_89 ?_
            refine V_callS2p (pc := 90) dX6_steady_90 kv_X6_280 (d - 1) (by omega) rfl (c_X6_moreOf (by omega) (by omega) (by omega)) ?_
            refine V_istore_2 (pc := 93) dX6_steady_93 ?_
            refine V_iinc_4 (pc := 94) dX6_steady_94 ?_
            refine V_goto (pc := 97) 28 dX6_steady_97 (by decide) ?_
            refine V.sub (by simp only [subL, Option.some.injEq, Sum.inl.injEq, Sum.inr.injEq, reduceCtorEq, true_or, or_true, false_or, true_and, and_true]; first | (rw [hk0 (by omega)]; refine ⟨rfl, rfl, by omega⟩) | (rw [hk1 (by omega), hS_, hk2 (by omega), if_pos (by omega)]; refine ⟨by omega, rfl, by omega⟩) | (rw [hk1 (by omega), hS_, hk2 (by omega), if_neg (by omega)]; refine ⟨by omega, rfl, by omega⟩)) (ih _ hI0)
          · refine V_aload_0 (pc := 61) dX6_steady_61 ?_
            refine V_iload_1 (pc := 62) dX6_steady_62 ?_
            refine V_iload_4 (pc := 63) dX6_steady_63 ?_
            refine V_callV2p (pc := 65) dX6_steady_65 kv_X6_283 rc_34 (by omega) (d - 1) (by omega) rfl (c_X6_shadeOf (by omega) (by omega) (by omega) (hS.s (by omega) (by omega))) ?_
            refine V_aload_0 (pc := 68) dX6_steady_68 ?_
            refine V_iload_1 (pc := 69) dX6_steady_69 ?_
            refine V_iload_4 (pc := 70) dX6_steady_70 ?_
            refine V_iconst (pc := 72) dX6_steady_72 ?_
            refine V_isub (pc := 73) dX6_steady_73 ?_
            refine V_callV2p (pc := 74) dX6_steady_74 kv_X6_283 rc_34 (by omega) (d - 1) (by omega) rfl (c_X6_shadeOf (by omega) (by omega) (by omega) (hS.s (by omega) (by omega))) ?_
            refine V_icmp_ne (pc := 77) 86 dX6_steady_77 (by decide) (by omega) (by omega) (fun c_77 => ?_) (fun c_77 => ?_)
            · refine V_iconst (pc := 86) dX6_steady_86 ?_
              refine V_istore_3 (pc := 87) dX6_steady_87 ?_
              refine V_iload_2 (pc := 88) dX6_steady_88 ?_
              refine V_iload_3 (pc := 89) dX6_steady_89 ?_
              refine V_callS2p (pc := 90) dX6_steady_90 kv_X6_280 (d - 1) (by omega) rfl (c_X6_moreOf (by omega) (by omega) (by omega)) ?_
              refine V_istore_2 (pc := 93) dX6_steady_93 ?_
              refine V_iinc_4 (pc := 94) dX6_steady_94 ?_
              refine V_goto (pc := 97) 28 dX6_steady_97 (by decide) ?_
              refine V.sub (by simp only [subL, Option.some.injEq, Sum.inl.injEq, Sum.inr.injEq, reduceCtorEq, true_or, or_true, false_or, true_and, and_true]; first | (rw [hk0 (by omega)]; refine ⟨rfl, rfl, by omega⟩) | (rw [hk1 (by omega), hS_, hk2 (by omega), if_pos (by omega)]; refine ⟨by omega, rfl, by omega⟩) | (rw [hk1 (by omega), hS_, hk2 (by omega), if_neg (by omega)]; refine ⟨by omega, rfl, by omega⟩)) (ih _ hI0)
            · refine V_iload_3 (pc := 80) dX6_steady_80 ?_
              refine V_iconst (pc := 81) dX6_steady_81 ?_
              refine V_iadd (pc := 82) dX6_steady_82 ?_
              refine V_goto (pc := 83) 87 dX6_steady_83 (by decide) ?_
              refine V_istore_3 (pc := 87) dX6_steady_87 ?_
              refine V_iload_2 (pc := 88) dX6_steady_88 ?_
              refine V_iload_3 (pc := 89) dX6_steady_89 ?_
              refine V_callS2p (pc := 90) dX6_steady_90 kv_X6_280 (d - 1) (by omega) rfl (c_X6_moreOf (by omega) (by omega) (by omega)) ?_
              refine V_istore_2 (pc := 93) dX6_steady_93 ?_
              refine V_iinc_4 (pc := 94) dX6_steady_94 ?_
              refine V_goto (pc := 97) 28 dX6_steady_97 (by decide) ?_
              refine V.sub (by simp only [subL, Option.some.injEq, Sum.inl.injEq, Sum.inr.injEq, reduceCtorEq, true_or, or_true, false_or, true_and, and_true]; first | (rw [hk0 (by omega)]; refine ⟨rfl, rfl, by omega⟩) | (rw [hk1 (by omega), hS_, hk2 (by omega), if_pos (by omega)]; refine ⟨by omega, rfl, by omega⟩) | (rw [hk1 (by omega), hS_, hk2 (by omega), if_neg (by omega)]; refine ⟨by omega, rfl, by omega⟩)) (ih _ hI0)
        · refine V_goto (pc := 47) 94 dX6_steady_47 (by decide) ?_
          refine V_iinc_4 (pc := 94) dX6_steady_94 ?_
          refine V_goto (pc := 97) 28 dX6_steady_97 (by decide) ?_
          refine V.sub (by simp only [subL, Option.some.injEq, Sum.inl.injEq, Sum.inr.injEq, reduceCtorEq, true_or, or_true, false_or, true_and, and_true]; first | (rw [hk0 (by omega)]; refine ⟨rfl, rfl, by omega⟩) | (rw [hk1 (by omega), hS_, hk2 (by omega), if_pos (by omega)]; refine ⟨by omega, rfl, by omega⟩) | (rw [hk1 (by omega), hS_, hk2 (by omega), if_neg (by omega)]; refine ⟨by omega, rfl, by omega⟩)) (ih _ hI0)
  refine V_aload_0 (pc := 0) dX6_steady_0 ?_
  refine V_iconst (pc := 1) dX6_steady_1 ?_
  refine V_puti (pc := 2) dX6_steady_2 gf_X6_74 (by omega) ?_
  have hM := (KM.set (σ := σ) (t := 34) (k := 0) (z := 0) (v := 0) (by unfold SCM; omega)).mb hM
  refine V_aload_0 (pc := 5) dX6_steady_5 ?_
  refine V_iload_1 (pc := 6) dX6_steady_6 ?_
  refine V_i2l (pc := 7) dX6_steady_7 (by omega) ?_
  refine V_callV1p (pc := 8) dX6_steady_8 kv_X6_246 rc_34 (by omega) (d - 1) (by omega) rfl (c_X6_isEntry (by omega) hM hW (by omega)) ?_
  refine V_if_ne_b (pc := 11) 17 dX6_steady_11 (by decide) (fun c_11 => ?_) (fun c_11 => ?_)
  · refine V_aload_0 (pc := 17) dX6_steady_17 ?_
    refine V_callV0z (pc := 18) dX6_steady_18 kv_X6_337 rc_34 (by omega) (d - 1) (by omega) rfl (c_X6_laysNow (by omega) hM hW) (fun σ_18 h_18 => ?_)
    obtain ⟨hL, hS, hK⟩ := h_18
    have hM := hK.mb hM
    refine V_iconst (pc := 21) dX6_steady_21 ?_
    refine V_istore_2 (pc := 22) dX6_steady_22 ?_
    refine V_iconst (pc := 23) dX6_steady_23 ?_
    refine V_istore_3 (pc := 24) dX6_steady_24 ?_
    refine V_iconst (pc := 25) dX6_steady_25 ?_
    refine V_istore_4 (pc := 26) dX6_steady_26 ?_
    refine V.sub (by simp only [subL, Option.some.injEq, Sum.inl.injEq, Sum.inr.injEq, reduceCtorEq, true_or, or_true, false_or, true_and, and_true]; rw [show (((0 : Nat) : Int) - B 13 e).toNat = 0 by have := hW.e (i := e) (by omega); omega]; exact ⟨rfl, rfl, rfl⟩) (loop (by omega) 0 (by omega) _ ⟨hM, hL, hS, (KM.set (σ := σ) (t := 34) (k := 0) (z := 0) (v := 0) (by unfold SCM; omega)).tr hK⟩)
  · refine V_bipush (pc := 14) dX6_steady_14 (by decide) ?_
    refine V_iretI (pc := 16) dX6_steady_16 rfl ?_
    exact ⟨_, rfl, by unfold q_steady; rw [if_pos (by omega)], by first | exact (KM.set (σ := σ) (t := 34) (k := 0) (z := 0) (v := 0) (by unfold SCM; omega)).tr hK | exact (KM.set (σ := σ) (t := 34) (k := 0) (z := 0) (v := 0) (by unfold SCM; omega))⟩
