set_option maxRecDepth 20000 in
set_option maxHeartbeats 1000000 in
theorem c_X5_order {d : Nat} (hd : 1 ≤ d) {σ : MM} {B : BK} {p : Int} (hB : CB σ 1 B) (hW : WB B) (hp : IR p) : V yX5_order cX5_order 3 (some .int) d (QI (fun v σ' => v = q_order B p ∧ σ' = σ)) 0 [some (vR 0 0), some (vI p), none] [] σ := by
  have hs := hW.s
  have loop : (¬ (p < 0 ∨ B 5 0 ≤ p)) → ∀ i : Nat, i ≤ (B 6 0).toNat → (∀ x : Int, 0 ≤ x ∧ x < (i : Int) → ¬ (B 11 x = p ∧ EBH B x)) → V yX5_order cX5_order 3 (some .int) d (QI (fun v σ' => v = q_order B p ∧ σ' = σ)) 13 [some (vR 0 0), some (vI (p)), some (vI (i : Int))] [] σ := by
    intro hR
    refine up_ind (P := fun i : Nat => (∀ x : Int, 0 ≤ x ∧ x < (i : Int) → ¬ (B 11 x = p ∧ EBH B x)) → V yX5_order cX5_order 3 (some .int) d (QI (fun v σ' => v = q_order B p ∧ σ' = σ)) 13 [some (vR 0 0), some (vI (p)), some (vI (i : Int))] [] σ) ?_ ?_
    · intro hI
      refine V_iload_2 (pc := 13) dX5_order_13 ?_
      refine V_aload_0 (pc := 14) dX5_order_14 ?_
      refine V_getc (pc := 15) dX5_order_15 gf_X5_23 (by omega) ?_
      refine V_geti (pc := 18) dX5_order_18 gf_X5_159 (by omega) hB.s6 ?_
      refine V_icmp_ge (pc := 21) 53 dX5_order_21 (by decide) (by omega) (by omega) (fun c_21 => ?_) (fun c_21 => ?_)
      · refine V_iconst (pc := 53) dX5_order_53 ?_
        refine V_iretI (pc := 54) dX5_order_54 rfl ?_
        exact ⟨_, rfl, by unfold q_order; rw [if_neg hR, if_pos (fst_no _ _ (fun x hx => hI x (by omega)))], rfl⟩
      · exact absurd c_21 (by omega)
    · intro i hi ih hI
      have h1 := hW.e (i := (i : Int)) (by omega)
      refine V_iload_2 (pc := 13) dX5_order_13 ?_
      refine V_aload_0 (pc := 14) dX5_order_14 ?_
      refine V_getc (pc := 15) dX5_order_15 gf_X5_23 (by omega) ?_
      refine V_geti (pc := 18) dX5_order_18 gf_X5_159 (by omega) hB.s6 ?_
      refine V_icmp_ge (pc := 21) 53 dX5_order_21 (by decide) (by omega) (by omega) (fun c_21 => ?_) (fun c_21 => ?_)
      · exact absurd c_21 (by omega)
      · refine V_aload_0 (pc := 24) dX5_order_24 ?_
        refine V_getc (pc := 25) dX5_order_25 gf_X5_23 (by omega) ?_
        refine V_gets (pc := 28) dX5_order_28 gf_X5_128 (by omega) ?_
        refine V_iload_2 (pc := 31) dX5_order_31 ?_
        refine V_iald (pc := 32) dX5_order_32 sh_8 (by omega) (by omega) (hB.a8 (by omega)) ?_
        refine V_iload_1 (pc := 33) dX5_order_33 ?_
        refine V_icmp_ne (pc := 34) 47 dX5_order_34 (by decide) (by omega) (by omega) (fun c_34 => ?_) (fun c_34 => ?_)
        · refine V_iinc_2 (pc := 47) dX5_order_47 ?_
          refine V_goto (pc := 50) 13 dX5_order_50 (by decide) ?_
          refine V.sub (by simp only [subL, Option.some.injEq, Sum.inl.injEq, reduceCtorEq, true_or, or_true, false_or, true_and, and_true]; omega) (ih (nx_step hI (fun q => c_34 q.1) (by omega)))
        · refine V_aload_0 (pc := 37) dX5_order_37 ?_
          refine V_iload_2 (pc := 38) dX5_order_38 ?_
          refine V_callV1p (pc := 39) dX5_order_39 kv_X5_162 rc_0 (by omega) (d - 1) (by omega) rfl (c_X5_earlierBehind (by omega) hB hW (by omega)) ?_
          refine V_if_eq_b (pc := 42) 47 dX5_order_42 (by decide) (fun c_42 => ?_) (fun c_42 => ?_)
          · refine V_iinc_2 (pc := 47) dX5_order_47 ?_
            refine V_goto (pc := 50) 13 dX5_order_50 (by decide) ?_
            refine V.sub (by simp only [subL, Option.some.injEq, Sum.inl.injEq, reduceCtorEq, true_or, or_true, false_or, true_and, and_true]; omega) (ih (nx_step hI (fun q => c_42 q.2) (by omega)))
          · refine V_iconst (pc := 45) dX5_order_45 ?_
            refine V_iretI (pc := 46) dX5_order_46 rfl ?_
            exact ⟨_, rfl, by unfold q_order; rw [if_neg hR, fst_is (x := (i : Int)) ⟨c_34, c_42⟩ _ _ (by omega) (fun x hx => hI x (by omega)), if_neg (by omega)], rfl⟩
  refine V_aload_0 (pc := 0) dX5_order_0 ?_
  refine V_iload_1 (pc := 1) dX5_order_1 ?_
  refine V_callV1p (pc := 2) dX5_order_2 kv_X5_119 rc_0 (by omega) (d - 1) (by omega) rfl (c_X5_noPage (by omega) hB hs (by omega)) ?_
  refine V_if_eq_b (pc := 5) 11 dX5_order_5 (by decide) (fun c_5 => ?_) (fun c_5 => ?_)
  · refine V_iconst (pc := 11) dX5_order_11 ?_
    refine V_istore_2 (pc := 12) dX5_order_12 ?_
    exact loop (by omega) 0 (by omega) (fun x hx => by omega)
  · refine V_bipush (pc := 8) dX5_order_8 (by decide) ?_
    refine V_iretI (pc := 10) dX5_order_10 rfl ?_
    exact ⟨_, rfl, by unfold q_order; (repeat' split) <;> first | rfl | omega, rfl⟩

set_option maxRecDepth 20000 in
set_option maxHeartbeats 1000000 in
theorem c_X5_steady {d : Nat} (hd : 1 ≤ d) {σ : MM} {B : BK} {e : Int} (hB : CB σ 1 B) (hW : WB B) (hC : CK σ 0 B (bt 0)) (he : IR e) : V yX5_steady cX5_steady 6 (some .int) d (QI (fun v σ' => v = q_steady B e ∧ σ' = σ)) 0 [some (vR 0 0), some (vI e), none, none, none, none] [] σ := by
  have hs := hW.s
  have loop : (¬ (e < 0 ∨ B 6 0 ≤ e)) → ∀ i : Nat, i ≤ (B 1 0 - B 13 e + 1).toNat → V yX5_steady cX5_steady 6 (some .int) d (QI (fun v σ' => v = q_steady B e ∧ σ' = σ)) 26 [some (vR 0 0), some (vI (e)), some (vI ((STD (fun y => SHD B (bt 0) y e) (B 13 e) i).1)), some (vI ((STD (fun y => SHD B (bt 0) y e) (B 13 e) i).2)), some (vI (B 13 e + (i : Int))), none] [] σ := by
    intro hR
    have he : 0 ≤ e ∧ e < B 6 0 := by omega
    have h1 := hW.e he
    refine up_ind (P := fun i : Nat => V yX5_steady cX5_steady 6 (some .int) d (QI (fun v σ' => v = q_steady B e ∧ σ' = σ)) 26 [some (vR 0 0), some (vI (e)), some (vI ((STD (fun y => SHD B (bt 0) y e) (B 13 e) i).1)), some (vI ((STD (fun y => SHD B (bt 0) y e) (B 13 e) i).2)), some (vI (B 13 e + (i : Int))), none] [] σ) ?_ ?_
    · 
      refine V_iload_4 (pc := 26) dX5_steady_26 ?_
      refine V_aload_0 (pc := 28) dX5_steady_28 ?_
      refine V_getc (pc := 29) dX5_steady_29 gf_X5_23 (by omega) ?_
      refine V_geti (pc := 32) dX5_steady_32 gf_X5_175 (by omega) hB.s1 ?_
      refine V_icmp_gt (pc := 35) 103 dX5_steady_35 (by decide) (by omega) (by omega) (fun c_35 => ?_) (fun c_35 => ?_)
      · refine V_iload_2 (pc := 103) dX5_steady_103 ?_
        refine V_iretI (pc := 104) dX5_steady_104 rfl ?_
        exact ⟨_, rfl, by unfold q_steady; (repeat' split) <;> first | rfl | omega, rfl⟩
      · exact absurd c_35 (by omega)
    · intro i hi ih
      have h2 := SHD_in (r := 0) (y := B 13 e + i) hW (e := e) (by omega)
      have h3 := SHD_in (r := 0) (y := B 13 e + i - 1) hW (e := e) (by omega)
      have hb := STD_in (fun y => SHD B (bt 0) y e) (B 13 e) i
      have hS : STD (fun y => SHD B (bt 0) y e) (B 13 e) (i + 1) = if 0 < i ∧ SHD B (bt 0) (B 13 e + i) e = SHD B (bt 0) (B 13 e + i - 1) e then (max (STD (fun y => SHD B (bt 0) y e) (B 13 e) i).1 ((STD (fun y => SHD B (bt 0) y e) (B 13 e) i).2 + 1), (STD (fun y => SHD B (bt 0) y e) (B 13 e) i).2 + 1) else (max (STD (fun y => SHD B (bt 0) y e) (B 13 e) i).1 1, 1) := rfl
      refine V_iload_4 (pc := 26) dX5_steady_26 ?_
      refine V_aload_0 (pc := 28) dX5_steady_28 ?_
      refine V_getc (pc := 29) dX5_steady_29 gf_X5_23 (by omega) ?_
      refine V_geti (pc := 32) dX5_steady_32 gf_X5_175 (by omega) hB.s1 ?_
      refine V_icmp_gt (pc := 35) 103 dX5_steady_35 (by decide) (by omega) (by omega) (fun c_35 => ?_) (fun c_35 => ?_)
      · exact absurd c_35 (by omega)
      · refine V_iload_3 (pc := 38) dX5_steady_38 ?_
        refine V_if_le (pc := 39) 75 dX5_steady_39 (by decide) (by omega) (fun c_39 => ?_) (fun c_39 => ?_)
        · refine V_iconst (pc := 75) dX5_steady_75 ?_
          refine V_istore_5 (pc := 76) dX5_steady_76 ?_
          refine V_iload_5 (pc := 78) dX5_steady_78 ?_
          refine V_if_eq (pc := 80) 89 dX5_steady_80 (by decide) (by omega) (fun c_80 => ?_) (fun c_80 => ?_)
          · refine V_iconst (pc := 89) dX5_steady_89 ?_
            refine V_istore_3 (pc := 90) dX5_steady_90 ?_
            refine V_iload_2 (pc := 91) dX5_steady_91 ?_
            refine V_iload_3 (pc := 92) dX5_steady_92 ?_
            refine V_mmax (pc := 93) dX5_steady_93 mth_max_X5_178 (by omega) (by omega) (by omega) ?_
            refine V_istore_2 (pc := 96) dX5_steady_96 ?_
            refine V_iinc_4 (pc := 97) dX5_steady_97 ?_
            refine V_goto (pc := 100) 26 dX5_steady_100 (by decide) ?_
            first | (exfalso; omega) | refine V.sub (by simp only [subL, Option.some.injEq, Sum.inl.injEq, Sum.inr.injEq, reduceCtorEq, true_or, or_true, false_or, true_and, and_true]; first | omega | (rw [hS, if_pos (by omega)]; dsimp only; omega) | (rw [hS, if_neg (by omega)]; dsimp only; omega)) ih
          · refine V_iload_3 (pc := 83) dX5_steady_83 ?_
            refine V_iconst (pc := 84) dX5_steady_84 ?_
            refine V_iadd (pc := 85) dX5_steady_85 ?_
            refine V_goto (pc := 86) 90 dX5_steady_86 (by decide) ?_
            refine V_istore_3 (pc := 90) dX5_steady_90 ?_
            refine V_iload_2 (pc := 91) dX5_steady_91 ?_
            refine V_iload_3 (pc := 92) dX5_steady_92 ?_
            refine V_mmax (pc := 93) dX5_steady_93 mth_max_X5_178 (by omega) (by omega) (by omega) ?_
            refine V_istore_2 (pc := 96) dX5_steady_96 ?_
            refine V_iinc_4 (pc := 97) dX5_steady_97 ?_
            refine V_goto (pc := 100) 26 dX5_steady_100 (by decide) ?_
            first | (exfalso; omega) | refine V.sub (by simp only [subL, Option.some.injEq, Sum.inl.injEq, Sum.inr.injEq, reduceCtorEq, true_or, or_true, false_or, true_and, and_true]; first | omega | (rw [hS, if_pos (by omega)]; dsimp only; omega) | (rw [hS, if_neg (by omega)]; dsimp only; omega)) ih
        · refine V_aload_0 (pc := 42) dX5_steady_42 ?_
          refine V_getc (pc := 43) dX5_steady_43 gf_X5_32 (by omega) ?_
          refine V_gets (pc := 46) dX5_steady_46 gf_X5_169 (by omega) ?_
          refine V_iload_4 (pc := 49) dX5_steady_49 ?_
          refine V_aald_19 (pc := 51) dX5_steady_51 (by omega) (by omega) ?_
          refine V_iload_1 (pc := 52) dX5_steady_52 ?_
          refine V_iald (pc := 53) dX5_steady_53 sh_22 (by omega) (by omega) (hC.sh (by omega) (by omega)) ?_
          refine V_aload_0 (pc := 54) dX5_steady_54 ?_
          refine V_getc (pc := 55) dX5_steady_55 gf_X5_32 (by omega) ?_
          refine V_gets (pc := 58) dX5_steady_58 gf_X5_169 (by omega) ?_
          refine V_iload_4 (pc := 61) dX5_steady_61 ?_
          refine V_iconst (pc := 63) dX5_steady_63 ?_
          refine V_isub (pc := 64) dX5_steady_64 ?_
          refine V_aald_19 (pc := 65) dX5_steady_65 (by omega) (by omega) ?_
          refine V_iload_1 (pc := 66) dX5_steady_66 ?_
          refine V_iald (pc := 67) dX5_steady_67 sh_22 (by omega) (by omega) (hC.sh (by omega) (by omega)) ?_
          refine V_icmp_ne (pc := 68) 75 dX5_steady_68 (by decide) (by omega) (by omega) (fun c_68 => ?_) (fun c_68 => ?_)
          · refine V_iconst (pc := 75) dX5_steady_75 ?_
            refine V_istore_5 (pc := 76) dX5_steady_76 ?_
            refine V_iload_5 (pc := 78) dX5_steady_78 ?_
            refine V_if_eq (pc := 80) 89 dX5_steady_80 (by decide) (by omega) (fun c_80 => ?_) (fun c_80 => ?_)
            · refine V_iconst (pc := 89) dX5_steady_89 ?_
              refine V_istore_3 (pc := 90) dX5_steady_90 ?_
              refine V_iload_2 (pc := 91) dX5_steady_91 ?_
              refine V_iload_3 (pc := 92) dX5_steady_92 ?_
              refine V_mmax (pc := 93) dX5_steady_93 mth_max_X5_178 (by omega) (by omega) (by omega) ?_
              refine V_istore_2 (pc := 96) dX5_steady_96 ?_
              refine V_iinc_4 (pc := 97) dX5_steady_97 ?_
              refine V_goto (pc := 100) 26 dX5_steady_100 (by decide) ?_
              first | (exfalso; omega) | refine V.sub (by simp only [subL, Option.some.injEq, Sum.inl.injEq, Sum.inr.injEq, reduceCtorEq, true_or, or_true, false_or, true_and, and_true]; first | omega | (rw [hS, if_pos (by omega)]; dsimp only; omega) | (rw [hS, if_neg (by omega)]; dsimp only; omega)) ih
            · refine V_iload_3 (pc := 83) dX5_steady_83 ?_
              refine V_iconst (pc := 84) dX5_steady_84 ?_
              refine V_iadd (pc := 85) dX5_steady_85 ?_
              refine V_goto (pc := 86) 90 dX5_steady_86 (by decide) ?_
              refine V_istore_3 (pc := 90) dX5_steady_90 ?_
              refine V_iload_2 (pc := 91) dX5_steady_91 ?_
              refine V_iload_3 (pc := 92) dX5_steady_92 ?_
              refine V_mmax (pc := 93) dX5_steady_93 mth_max_X5_178 (by omega) (by omega) (by omega) ?_
              refine V_istore_2 (pc := 96) dX5_steady_96 ?_
              refine V_iinc_4 (pc := 97) dX5_steady_97 ?_
              refine V_goto (pc := 100) 26 dX5_steady_100 (by decide) ?_
              first | (exfalso; omega) | refine V.sub (by simp only [subL, Option.some.injEq, Sum.inl.injEq, Sum.inr.injEq, reduceCtorEq, true_or, or_true, false_or, true_and, and_true]; first | omega | (rw [hS, if_pos (by omega)]; dsimp only; omega) | (rw [hS, if_neg (by omega)]; dsimp only; omega)) ih
          · refine V_iconst (pc := 71) dX5_steady_71 ?_
            refine V_goto (pc := 72) 76 dX5_steady_72 (by decide) ?_
            refine V_istore_5 (pc := 76) dX5_steady_76 ?_
            refine V_iload_5 (pc := 78) dX5_steady_78 ?_
            refine V_if_eq (pc := 80) 89 dX5_steady_80 (by decide) (by omega) (fun c_80 => ?_) (fun c_80 => ?_)
            · refine V_iconst (pc := 89) dX5_steady_89 ?_
              refine V_istore_3 (pc := 90) dX5_steady_90 ?_
              refine V_iload_2 (pc := 91) dX5_steady_91 ?_
              refine V_iload_3 (pc := 92) dX5_steady_92 ?_
              refine V_mmax (pc := 93) dX5_steady_93 mth_max_X5_178 (by omega) (by omega) (by omega) ?_
              refine V_istore_2 (pc := 96) dX5_steady_96 ?_
              refine V_iinc_4 (pc := 97) dX5_steady_97 ?_
              refine V_goto (pc := 100) 26 dX5_steady_100 (by decide) ?_
              first | (exfalso; omega) | refine V.sub (by simp only [subL, Option.some.injEq, Sum.inl.injEq, Sum.inr.injEq, reduceCtorEq, true_or, or_true, false_or, true_and, and_true]; first | omega | (rw [hS, if_pos (by omega)]; dsimp only; omega) | (rw [hS, if_neg (by omega)]; dsimp only; omega)) ih
            · refine V_iload_3 (pc := 83) dX5_steady_83 ?_
              refine V_iconst (pc := 84) dX5_steady_84 ?_
              refine V_iadd (pc := 85) dX5_steady_85 ?_
              refine V_goto (pc := 86) 90 dX5_steady_86 (by decide) ?_
              refine V_istore_3 (pc := 90) dX5_steady_90 ?_
              refine V_iload_2 (pc := 91) dX5_steady_91 ?_
              refine V_iload_3 (pc := 92) dX5_steady_92 ?_
              refine V_mmax (pc := 93) dX5_steady_93 mth_max_X5_178 (by omega) (by omega) (by omega) ?_
              refine V_istore_2 (pc := 96) dX5_steady_96 ?_
              refine V_iinc_4 (pc := 97) dX5_steady_97 ?_
              refine V_goto (pc := 100) 26 dX5_steady_100 (by decide) ?_
              first | (exfalso; omega) | refine V.sub (by simp only [subL, Option.some.injEq, Sum.inl.injEq, Sum.inr.injEq, reduceCtorEq, true_or, or_true, false_or, true_and, and_true]; first | omega | (rw [hS, if_pos (by omega)]; dsimp only; omega) | (rw [hS, if_neg (by omega)]; dsimp only; omega)) ih
  refine V_aload_0 (pc := 0) dX5_steady_0 ?_
  refine V_iload_1 (pc := 1) dX5_steady_1 ?_
  refine V_callV1p (pc := 2) dX5_steady_2 kv_X5_125 rc_0 (by omega) (d - 1) (by omega) rfl (c_X5_noEntry (by omega) hB hs (by omega)) ?_
  refine V_if_eq_b (pc := 5) 11 dX5_steady_5 (by decide) (fun c_5 => ?_) (fun c_5 => ?_)
  · refine V_iconst (pc := 11) dX5_steady_11 ?_
    refine V_istore_2 (pc := 12) dX5_steady_12 ?_
    refine V_iconst (pc := 13) dX5_steady_13 ?_
    refine V_istore_3 (pc := 14) dX5_steady_14 ?_
    refine V_aload_0 (pc := 15) dX5_steady_15 ?_
    refine V_getc (pc := 16) dX5_steady_16 gf_X5_23 (by omega) ?_
    refine V_gets (pc := 19) dX5_steady_19 gf_X5_134 (by omega) ?_
    refine V_iload_1 (pc := 22) dX5_steady_22 ?_
    refine V_iald (pc := 23) dX5_steady_23 sh_10 (by omega) (by omega) (hB.a10 (by omega)) ?_
    refine V_istore_4 (pc := 24) dX5_steady_24 ?_
    refine V.sub (by simp only [subL, Option.some.injEq, Sum.inl.injEq, reduceCtorEq, true_or, or_true, false_or, true_and, and_true]; exact ⟨rfl, rfl, by omega⟩) (loop (by omega) 0 (by omega))
  · refine V_bipush (pc := 8) dX5_steady_8 (by decide) ?_
    refine V_iretI (pc := 10) dX5_steady_10 rfl ?_
    exact ⟨_, rfl, by unfold q_steady; (repeat' split) <;> first | rfl | omega, rfl⟩

set_option maxRecDepth 20000 in
set_option maxHeartbeats 1000000 in
theorem c_X5_swaps {d : Nat} (hd : 2 ≤ d) {σ : MM} {B : BK} {e o : Int} (hB : CB σ 1 B) (hW : WB B) (hC : CK σ 0 B (bt 0)) (he : IR e) (ho : IR o) : V yX5_swaps cX5_swaps 5 (some .int) d (QI (fun v σ' => v = q_swaps B e o ∧ σ' = σ)) 0 [some (vR 0 0), some (vI e), some (vI o), none, none] [] σ := by
  have hs := hW.s
  have loop : (¬ ((e < 0 ∨ B 6 0 ≤ e) ∨ (o < 0 ∨ B 6 0 ≤ o))) → ∀ i : Nat, i ≤ (B 1 0).toNat → V yX5_swaps cX5_swaps 5 (some .int) d (QI (fun v σ' => v = q_swaps B e o ∧ σ' = σ)) 24 [some (vR 0 0), some (vI (e)), some (vI (o)), some (vI (sumN (fun k => bI ((B 13 e ≤ k ∧ B 13 o ≤ k) ∧ cmpI (SHD B (bt 0) (k + 1) e) (SHD B (bt 0) (k + 1) o) ≠ cmpI (SHD B (bt 0) k e) (SHD B (bt 0) k o))) i)), some (vI ((i : Int) + 1))] [] σ := by
    intro hR
    refine up_ind (P := fun i : Nat => V yX5_swaps cX5_swaps 5 (some .int) d (QI (fun v σ' => v = q_swaps B e o ∧ σ' = σ)) 24 [some (vR 0 0), some (vI (e)), some (vI (o)), some (vI (sumN (fun k => bI ((B 13 e ≤ k ∧ B 13 o ≤ k) ∧ cmpI (SHD B (bt 0) (k + 1) e) (SHD B (bt 0) (k + 1) o) ≠ cmpI (SHD B (bt 0) k e) (SHD B (bt 0) k o))) i)), some (vI ((i : Int) + 1))] [] σ) ?_ ?_
    · 
      refine V_iload_4 (pc := 24) dX5_swaps_24 ?_
      refine V_aload_0 (pc := 26) dX5_swaps_26 ?_
      refine V_getc (pc := 27) dX5_swaps_27 gf_X5_23 (by omega) ?_
      refine V_geti (pc := 30) dX5_swaps_30 gf_X5_175 (by omega) hB.s1 ?_
      refine V_icmp_gt (pc := 33) 79 dX5_swaps_33 (by decide) (by omega) (by omega) (fun c_33 => ?_) (fun c_33 => ?_)
      · refine V_iload_3 (pc := 79) dX5_swaps_79 ?_
        refine V_iretI (pc := 80) dX5_swaps_80 rfl ?_
        exact ⟨_, rfl, by unfold q_swaps; (repeat' split) <;> first | rfl | omega, rfl⟩
      · exact absurd c_33 (by omega)
    · intro i hi ih
      have c1 := cmpI_in (SHD B (bt 0) (i + 1) e) (SHD B (bt 0) (i + 1) o)
      have c2 := cmpI_in (SHD B (bt 0) i e) (SHD B (bt 0) i o)
      have hb := suI_in (fun k => (B 13 e ≤ k ∧ B 13 o ≤ k) ∧ cmpI (SHD B (bt 0) (k + 1) e) (SHD B (bt 0) (k + 1) o) ≠ cmpI (SHD B (bt 0) k e) (SHD B (bt 0) k o)) i
      have hS := sumN_S (fun k => bI ((B 13 e ≤ k ∧ B 13 o ≤ k) ∧ cmpI (SHD B (bt 0) (k + 1) e) (SHD B (bt 0) (k + 1) o) ≠ cmpI (SHD B (bt 0) k e) (SHD B (bt 0) k o))) i
      refine V_iload_4 (pc := 24) dX5_swaps_24 ?_
      refine V_aload_0 (pc := 26) dX5_swaps_26 ?_
      refine V_getc (pc := 27) dX5_swaps_27 gf_X5_23 (by omega) ?_
      refine V_geti (pc := 30) dX5_swaps_30 gf_X5_175 (by omega) hB.s1 ?_
      refine V_icmp_gt (pc := 33) 79 dX5_swaps_33 (by decide) (by omega) (by omega) (fun c_33 => ?_) (fun c_33 => ?_)
      · exact absurd c_33 (by omega)
      · refine V_aload_0 (pc := 36) dX5_swaps_36 ?_
        refine V_iload_1 (pc := 37) dX5_swaps_37 ?_
        refine V_iload_2 (pc := 38) dX5_swaps_38 ?_
        refine V_iload_4 (pc := 39) dX5_swaps_39 ?_
        refine V_iconst (pc := 41) dX5_swaps_41 ?_
        refine V_isub (pc := 42) dX5_swaps_42 ?_
        refine V_callV3p (pc := 43) dX5_swaps_43 kv_X5_184 rc_0 (by omega) (d - 1) (by omega) rfl (c_X5_bothThere (by omega) hB hW (by omega) (by omega) (by omega)) ?_
        refine V_if_eq_b (pc := 46) 73 dX5_swaps_46 (by decide) (fun c_46 => ?_) (fun c_46 => ?_)
        · refine V_iinc_4 (pc := 73) dX5_swaps_73 ?_
          refine V_goto (pc := 76) 24 dX5_swaps_76 (by decide) ?_
          refine V.sub (by simp only [subL, Option.some.injEq, Sum.inl.injEq, Sum.inr.injEq, reduceCtorEq, true_or, or_true, false_or, true_and, and_true]; first | omega | (rw [hS, bI_t (by omega)]; omega) | (rw [hS, bI_f (by omega)]; omega)) ih
        · refine V_aload_0 (pc := 49) dX5_swaps_49 ?_
          refine V_iload_1 (pc := 50) dX5_swaps_50 ?_
          refine V_iload_2 (pc := 51) dX5_swaps_51 ?_
          refine V_iload_4 (pc := 52) dX5_swaps_52 ?_
          refine V_callV3p (pc := 54) dX5_swaps_54 kv_X5_188 rc_0 (by omega) (d - 1) (by omega) rfl (c_X5_compared (by omega) hB hW hC (by omega) (by omega) (by omega)) ?_
          refine V_aload_0 (pc := 57) dX5_swaps_57 ?_
          refine V_iload_1 (pc := 58) dX5_swaps_58 ?_
          refine V_iload_2 (pc := 59) dX5_swaps_59 ?_
          refine V_iload_4 (pc := 60) dX5_swaps_60 ?_
          refine V_iconst (pc := 62) dX5_swaps_62 ?_
          refine V_isub (pc := 63) dX5_swaps_63 ?_
          refine V_callV3p (pc := 64) dX5_swaps_64 kv_X5_188 rc_0 (by omega) (d - 1) (by omega) rfl (by rw [show (i : Int) + 1 - 1 = i by omega]; exact c_X5_compared (by omega) hB hW hC (by omega) (by omega) (by omega)) ?_
          refine V_icmp_eq (pc := 67) 73 dX5_swaps_67 (by decide) (by omega) (by omega) (fun c_67 => ?_) (fun c_67 => ?_)
          · refine V_iinc_4 (pc := 73) dX5_swaps_73 ?_
            refine V_goto (pc := 76) 24 dX5_swaps_76 (by decide) ?_
            refine V.sub (by simp only [subL, Option.some.injEq, Sum.inl.injEq, Sum.inr.injEq, reduceCtorEq, true_or, or_true, false_or, true_and, and_true]; first | omega | (rw [hS, bI_t (by omega)]; omega) | (rw [hS, bI_f (by omega)]; omega)) ih
          · refine V_iinc_3 (pc := 70) dX5_swaps_70 ?_
            refine V_iinc_4 (pc := 73) dX5_swaps_73 ?_
            refine V_goto (pc := 76) 24 dX5_swaps_76 (by decide) ?_
            refine V.sub (by simp only [subL, Option.some.injEq, Sum.inl.injEq, Sum.inr.injEq, reduceCtorEq, true_or, or_true, false_or, true_and, and_true]; first | omega | (rw [hS, bI_t (by omega)]; omega) | (rw [hS, bI_f (by omega)]; omega)) ih
  refine V_aload_0 (pc := 0) dX5_swaps_0 ?_
  refine V_iload_1 (pc := 1) dX5_swaps_1 ?_
  refine V_callV1p (pc := 2) dX5_swaps_2 kv_X5_125 rc_0 (by omega) (d - 1) (by omega) rfl (c_X5_noEntry (by omega) hB hs (by omega)) ?_
  refine V_if_ne_b (pc := 5) 16 dX5_swaps_5 (by decide) (fun c_5 => ?_) (fun c_5 => ?_)
  · refine V_bipush (pc := 16) dX5_swaps_16 (by decide) ?_
    refine V_iretI (pc := 18) dX5_swaps_18 rfl ?_
    exact ⟨_, rfl, by unfold q_swaps; (repeat' split) <;> first | rfl | omega, rfl⟩
  · refine V_aload_0 (pc := 8) dX5_swaps_8 ?_
    refine V_iload_2 (pc := 9) dX5_swaps_9 ?_
    refine V_callV1p (pc := 10) dX5_swaps_10 kv_X5_125 rc_0 (by omega) (d - 1) (by omega) rfl (c_X5_noEntry (by omega) hB hs (by omega)) ?_
    refine V_if_eq_b (pc := 13) 19 dX5_swaps_13 (by decide) (fun c_13 => ?_) (fun c_13 => ?_)
    · refine V_iconst (pc := 19) dX5_swaps_19 ?_
      refine V_istore_3 (pc := 20) dX5_swaps_20 ?_
      refine V_iconst (pc := 21) dX5_swaps_21 ?_
      refine V_istore_4 (pc := 22) dX5_swaps_22 ?_
      exact loop (by omega) 0 (by omega)
    · refine V_bipush (pc := 16) dX5_swaps_16 (by decide) ?_
      refine V_iretI (pc := 18) dX5_swaps_18 rfl ?_
      exact ⟨_, rfl, by unfold q_swaps; (repeat' split) <;> first | rfl | omega, rfl⟩

set_option maxRecDepth 20000 in
set_option maxHeartbeats 1000000 in
theorem c_X5_paling {d : Nat} (hd : 2 ≤ d) {σ : MM} {B : BK} {y : Int} (hB : CB σ 1 B) (hW : WB B) (hC : CK σ 0 B (bt 0)) (hy : IR y) : V yX5_paling cX5_paling 4 (some .int) d (QI (fun v σ' => v = q_paling B y ∧ σ' = σ)) 0 [some (vR 0 0), some (vI y), none, none] [] σ := by
  have hs := hW.s
  have loop : (¬ (B 0 0 = 0 ∨ y < 0 ∨ B 1 0 < y) ∧ ¬ y = 0) → ∀ i : Nat, i ≤ (B 6 0).toNat → V yX5_paling cX5_paling 4 (some .int) d (QI (fun v σ' => v = q_paling B y ∧ σ' = σ)) 21 [some (vR 0 0), some (vI (y)), some (vI (bsN (fun e => bI (0 < y ∧ SHD B (bt 0) y e < SHD B (bt 0) (y - 1) e)) i)), some (vI (i : Int))] [] σ := by
    intro hR
    refine up_ind (P := fun i : Nat => V yX5_paling cX5_paling 4 (some .int) d (QI (fun v σ' => v = q_paling B y ∧ σ' = σ)) 21 [some (vR 0 0), some (vI (y)), some (vI (bsN (fun e => bI (0 < y ∧ SHD B (bt 0) y e < SHD B (bt 0) (y - 1) e)) i)), some (vI (i : Int))] [] σ) ?_ ?_
    · 
      refine V_iload_3 (pc := 21) dX5_paling_21 ?_
      refine V_aload_0 (pc := 22) dX5_paling_22 ?_
      refine V_getc (pc := 23) dX5_paling_23 gf_X5_23 (by omega) ?_
      refine V_geti (pc := 26) dX5_paling_26 gf_X5_159 (by omega) hB.s6 ?_
      refine V_icmp_ge (pc := 29) 71 dX5_paling_29 (by decide) (by omega) (by omega) (fun c_29 => ?_) (fun c_29 => ?_)
      · refine V_iload_2 (pc := 71) dX5_paling_71 ?_
        refine V_iretI (pc := 72) dX5_paling_72 rfl ?_
        exact ⟨_, rfl, by unfold q_paling; (repeat' split) <;> first | rfl | omega, rfl⟩
      · exact absurd c_29 (by omega)
    · intro i hi ih
      have h1 := SHD_in (r := 0) (y := y) hW (e := (i : Int)) (by omega)
      have h2 := SHD_in (r := 0) (y := y - 1) hW (e := (i : Int)) (by omega)
      have hb := bsI_in (fun e => 0 < y ∧ SHD B (bt 0) y e < SHD B (bt 0) (y - 1) e) i
      have hS := bsN_S (fun e => bI (0 < y ∧ SHD B (bt 0) y e < SHD B (bt 0) (y - 1) e)) i
      refine V_iload_3 (pc := 21) dX5_paling_21 ?_
      refine V_aload_0 (pc := 22) dX5_paling_22 ?_
      refine V_getc (pc := 23) dX5_paling_23 gf_X5_23 (by omega) ?_
      refine V_geti (pc := 26) dX5_paling_26 gf_X5_159 (by omega) hB.s6 ?_
      refine V_icmp_ge (pc := 29) 71 dX5_paling_29 (by decide) (by omega) (by omega) (fun c_29 => ?_) (fun c_29 => ?_)
      · exact absurd c_29 (by omega)
      · refine V_aload_0 (pc := 32) dX5_paling_32 ?_
        refine V_getc (pc := 33) dX5_paling_33 gf_X5_32 (by omega) ?_
        refine V_gets (pc := 36) dX5_paling_36 gf_X5_169 (by omega) ?_
        refine V_iload_1 (pc := 39) dX5_paling_39 ?_
        refine V_aald_19 (pc := 40) dX5_paling_40 (by omega) (by omega) ?_
        refine V_iload_3 (pc := 41) dX5_paling_41 ?_
        refine V_iald (pc := 42) dX5_paling_42 sh_22 (by omega) (by omega) (hC.sh (by omega) (by omega)) ?_
        refine V_aload_0 (pc := 43) dX5_paling_43 ?_
        refine V_getc (pc := 44) dX5_paling_44 gf_X5_32 (by omega) ?_
        refine V_gets (pc := 47) dX5_paling_47 gf_X5_169 (by omega) ?_
        refine V_iload_1 (pc := 50) dX5_paling_50 ?_
        refine V_iconst (pc := 51) dX5_paling_51 ?_
        refine V_isub (pc := 52) dX5_paling_52 ?_
        refine V_aald_19 (pc := 53) dX5_paling_53 (by omega) (by omega) ?_
        refine V_iload_3 (pc := 54) dX5_paling_54 ?_
        refine V_iald (pc := 55) dX5_paling_55 sh_22 (by omega) (by omega) (hC.sh (by omega) (by omega)) ?_
        refine V_icmp_ge (pc := 56) 65 dX5_paling_56 (by decide) (by omega) (by omega) (fun c_56 => ?_) (fun c_56 => ?_)
        · refine V_iinc_3 (pc := 65) dX5_paling_65 ?_
          refine V_goto (pc := 68) 21 dX5_paling_68 (by decide) ?_
          refine V.sub (by simp only [subL, Option.some.injEq, Sum.inl.injEq, Sum.inr.injEq, reduceCtorEq, true_or, or_true, false_or, true_and, and_true]; first | omega | (rw [hS, bI_t (by omega)]; omega) | (rw [hS, bI_f (by omega)]; omega)) ih
        · refine V_iload_2 (pc := 59) dX5_paling_59 ?_
          refine V_iconst (pc := 60) dX5_paling_60 ?_
          refine V_iload_3 (pc := 61) dX5_paling_61 ?_
          refine V_ishl_1 (pc := 62) dX5_paling_62 (by omega) ?_
          refine V_ior_add (pc := 63) dX5_paling_63 (by assumption) ?_
          refine V_istore_2 (pc := 64) dX5_paling_64 ?_
          refine V_iinc_3 (pc := 65) dX5_paling_65 ?_
          refine V_goto (pc := 68) 21 dX5_paling_68 (by decide) ?_
          refine V.sub (by simp only [subL, Option.some.injEq, Sum.inl.injEq, Sum.inr.injEq, reduceCtorEq, true_or, or_true, false_or, true_and, and_true]; first | omega | (rw [hS, bI_t (by omega)]; omega) | (rw [hS, bI_f (by omega)]; omega)) ih
  refine V_aload_0 (pc := 0) dX5_paling_0 ?_
  refine V_iload_1 (pc := 1) dX5_paling_1 ?_
  refine V_callV1p (pc := 2) dX5_paling_2 kv_X5_149 rc_0 (by omega) (d - 1) (by omega) rfl (c_X5_noYear (by omega) hB hs (by omega)) ?_
  refine V_if_eq_b (pc := 5) 11 dX5_paling_5 (by decide) (fun c_5 => ?_) (fun c_5 => ?_)
  · refine V_iload_1 (pc := 11) dX5_paling_11 ?_
    refine V_if_ne (pc := 12) 17 dX5_paling_12 (by decide) (by omega) (fun c_12 => ?_) (fun c_12 => ?_)
    · refine V_iconst (pc := 17) dX5_paling_17 ?_
      refine V_istore_2 (pc := 18) dX5_paling_18 ?_
      refine V_iconst (pc := 19) dX5_paling_19 ?_
      refine V_istore_3 (pc := 20) dX5_paling_20 ?_
      exact loop (by omega) 0 (by omega)
    · refine V_iconst (pc := 15) dX5_paling_15 ?_
      refine V_iretI (pc := 16) dX5_paling_16 rfl ?_
      exact ⟨_, rfl, by unfold q_paling; rw [if_neg (by omega)]; exact (bsN_zero (fun k _ => bI_f (by omega))).symm, rfl⟩
  · refine V_bipush (pc := 8) dX5_paling_8 (by decide) ?_
    refine V_iretI (pc := 10) dX5_paling_10 rfl ?_
    exact ⟨_, rfl, by unfold q_paling; (repeat' split) <;> first | rfl | omega, rfl⟩

set_option maxRecDepth 20000 in
set_option maxHeartbeats 1000000 in
theorem c_X5_darkest {d : Nat} (hd : 2 ≤ d) {σ : MM} {B : BK} {y : Int} (hB : CB σ 1 B) (hW : WB B) (hC : CK σ 0 B (bt 0)) (hy : IR y) : V yX5_darkest cX5_darkest 2 (some .int) d (QI (fun v σ' => v = q_darkest B y ∧ σ' = σ)) 0 [some (vR 0 0), some (vI y)] [] σ := by
  have hs := hW.s
  have hT := THR_in hs y
  refine V_aload_0 (pc := 0) dX5_darkest_0 ?_
  refine V_iload_1 (pc := 1) dX5_darkest_1 ?_
  refine V_callV1p (pc := 2) dX5_darkest_2 kv_X5_149 rc_0 (by omega) (d - 1) (by omega) rfl (c_X5_noYear (by omega) hB hs (by omega)) ?_
  refine V_if_eq_b (pc := 5) 13 dX5_darkest_5 (by decide) (fun c_5 => ?_) (fun c_5 => ?_)
  · refine V_aload_0 (pc := 13) dX5_darkest_13 ?_
    refine V_aload_0 (pc := 14) dX5_darkest_14 ?_
    refine V_iload_1 (pc := 15) dX5_darkest_15 ?_
    refine V_callV1p (pc := 16) dX5_darkest_16 kv_X5_152 rc_0 (by omega) (d - 1) (by omega) rfl (c_X5_bitsThere (by omega) hB hW (by omega)) ?_
    refine V_iload_1 (pc := 19) dX5_darkest_19 ?_
    refine V_callV2p (pc := 20) dX5_darkest_20 kv_X5_200 rc_0 (by omega) (d - 1) (by omega) rfl (c_X5_darkestOf (by omega) (s := THR B y) hB hW hC (by omega) (by omega)) ?_
    refine V_iretI (pc := 23) dX5_darkest_23 rfl ?_
    first | exact ⟨_, rfl, by unfold q_darkest; rw [if_pos (by omega)], rfl⟩ | exact ⟨_, rfl, (by rw [q_darkest_eq (by omega)]; exact DRK_eq B y), rfl⟩
  · refine V_bipush (pc := 8) dX5_darkest_8 (by decide) ?_
    refine V_goto (pc := 10) 23 dX5_darkest_10 (by decide) ?_
    refine V_iretI (pc := 23) dX5_darkest_23 rfl ?_
    first | exact ⟨_, rfl, by unfold q_darkest; rw [if_pos (by omega)], rfl⟩ | exact ⟨_, rfl, (by rw [q_darkest_eq (by omega)]; exact DRK_eq B y), rfl⟩

set_option maxRecDepth 20000 in
set_option maxHeartbeats 1000000 in
theorem c_X5_palest {d : Nat} (hd : 2 ≤ d) {σ : MM} {B : BK} {y : Int} (hB : CB σ 1 B) (hW : WB B) (hC : CK σ 0 B (bt 0)) (hy : IR y) : V yX5_palest cX5_palest 2 (some .int) d (QI (fun v σ' => v = q_palest B y ∧ σ' = σ)) 0 [some (vR 0 0), some (vI y)] [] σ := by
  have hs := hW.s
  have hT := THR_in hs y
  refine V_aload_0 (pc := 0) dX5_palest_0 ?_
  refine V_iload_1 (pc := 1) dX5_palest_1 ?_
  refine V_callV1p (pc := 2) dX5_palest_2 kv_X5_149 rc_0 (by omega) (d - 1) (by omega) rfl (c_X5_noYear (by omega) hB hs (by omega)) ?_
  refine V_if_eq_b (pc := 5) 13 dX5_palest_5 (by decide) (fun c_5 => ?_) (fun c_5 => ?_)
  · refine V_aload_0 (pc := 13) dX5_palest_13 ?_
    refine V_aload_0 (pc := 14) dX5_palest_14 ?_
    refine V_iload_1 (pc := 15) dX5_palest_15 ?_
    refine V_callV1p (pc := 16) dX5_palest_16 kv_X5_152 rc_0 (by omega) (d - 1) (by omega) rfl (c_X5_bitsThere (by omega) hB hW (by omega)) ?_
    refine V_iload_1 (pc := 19) dX5_palest_19 ?_
    refine V_callV2p (pc := 20) dX5_palest_20 kv_X5_203 rc_0 (by omega) (d - 1) (by omega) rfl (c_X5_palestOf (by omega) (s := THR B y) hB hW hC (by omega) (by omega)) ?_
    refine V_iretI (pc := 23) dX5_palest_23 rfl ?_
    first | exact ⟨_, rfl, by unfold q_palest; rw [if_pos (by omega)], rfl⟩ | exact ⟨_, rfl, (by rw [q_palest_eq (by omega)]; exact PAL_eq B y), rfl⟩
  · refine V_bipush (pc := 8) dX5_palest_8 (by decide) ?_
    refine V_goto (pc := 10) 23 dX5_palest_10 (by decide) ?_
    refine V_iretI (pc := 23) dX5_palest_23 rfl ?_
    first | exact ⟨_, rfl, by unfold q_palest; rw [if_pos (by omega)], rfl⟩ | exact ⟨_, rfl, (by rw [q_palest_eq (by omega)]; exact PAL_eq B y), rfl⟩

set_option maxRecDepth 20000 in
set_option maxHeartbeats 1000000 in
theorem c_X5_sum {d : Nat} (hd : 2 ≤ d) {σ : MM} {B : BK} {p y : Int} (hB : CB σ 1 B) (hW : WB B) (hC : CK σ 0 B (bt 0)) (hp : IR p) (hy : IR y) : V yX5_sum cX5_sum 5 (some .int) d (QI (fun v σ' => v = q_sum B p y ∧ σ' = σ)) 0 [some (vR 0 0), some (vI p), some (vI y), none, none] [] σ := by
  have hs := hW.s
  have loop : (¬ ((p < 0 ∨ B 5 0 ≤ p) ∨ (B 0 0 = 0 ∨ y < 0 ∨ B 1 0 < y))) → ∀ i : Nat, i ≤ (B 6 0).toNat → V yX5_sum cX5_sum 5 (some .int) d (QI (fun v σ' => v = q_sum B p y ∧ σ' = σ)) 24 [some (vR 0 0), some (vI (p)), some (vI (y)), some (vI (sumN (fun e => if B 11 e = p then SHD B (bt 0) y e else 0) i)), some (vI (i : Int))] [] σ := by
    intro hR
    refine up_ind (P := fun i : Nat => V yX5_sum cX5_sum 5 (some .int) d (QI (fun v σ' => v = q_sum B p y ∧ σ' = σ)) 24 [some (vR 0 0), some (vI (p)), some (vI (y)), some (vI (sumN (fun e => if B 11 e = p then SHD B (bt 0) y e else 0) i)), some (vI (i : Int))] [] σ) ?_ ?_
    · 
      refine V_iload_4 (pc := 24) dX5_sum_24 ?_
      refine V_aload_0 (pc := 26) dX5_sum_26 ?_
      refine V_getc (pc := 27) dX5_sum_27 gf_X5_23 (by omega) ?_
      refine V_geti (pc := 30) dX5_sum_30 gf_X5_159 (by omega) hB.s6 ?_
      refine V_icmp_ge (pc := 33) 71 dX5_sum_33 (by decide) (by omega) (by omega) (fun c_33 => ?_) (fun c_33 => ?_)
      · refine V_iload_3 (pc := 71) dX5_sum_71 ?_
        refine V_iretI (pc := 72) dX5_sum_72 rfl ?_
        exact ⟨_, rfl, by unfold q_sum; (repeat' split) <;> first | rfl | omega, rfl⟩
      · exact absurd c_33 (by omega)
    · intro i hi ih
      have h1 := hW.e (i := (i : Int)) (by omega)
      have h2 := SHD_in (r := 0) (y := y) hW (e := (i : Int)) (by omega)
      have hS : sumN (fun e => if B 11 e = p then SHD B (bt 0) y e else 0) (i + 1) = sumN (fun e => if B 11 e = p then SHD B (bt 0) y e else 0) i + (if B 11 i = p then SHD B (bt 0) y i else 0) := rfl
      refine V_iload_4 (pc := 24) dX5_sum_24 ?_
      refine V_aload_0 (pc := 26) dX5_sum_26 ?_
      refine V_getc (pc := 27) dX5_sum_27 gf_X5_23 (by omega) ?_
      refine V_geti (pc := 30) dX5_sum_30 gf_X5_159 (by omega) hB.s6 ?_
      refine V_icmp_ge (pc := 33) 71 dX5_sum_33 (by decide) (by omega) (by omega) (fun c_33 => ?_) (fun c_33 => ?_)
      · exact absurd c_33 (by omega)
      · refine V_aload_0 (pc := 36) dX5_sum_36 ?_
        refine V_getc (pc := 37) dX5_sum_37 gf_X5_23 (by omega) ?_
        refine V_gets (pc := 40) dX5_sum_40 gf_X5_128 (by omega) ?_
        refine V_iload_4 (pc := 43) dX5_sum_43 ?_
        refine V_iald (pc := 45) dX5_sum_45 sh_8 (by omega) (by omega) (hB.a8 (by omega)) ?_
        refine V_iload_1 (pc := 46) dX5_sum_46 ?_
        refine V_icmp_ne (pc := 47) 65 dX5_sum_47 (by decide) (by omega) (by omega) (fun c_47 => ?_) (fun c_47 => ?_)
        · refine V_iinc_4 (pc := 65) dX5_sum_65 ?_
          refine V_goto (pc := 68) 24 dX5_sum_68 (by decide) ?_
          refine V.sub (by simp only [subL, Option.some.injEq, Sum.inl.injEq, Sum.inr.injEq, reduceCtorEq, true_or, or_true, false_or, true_and, and_true]; first | omega | (rw [hS, if_pos (by omega)]; omega) | (rw [hS, if_neg (by omega)]; omega)) ih
        · refine V_iload_3 (pc := 50) dX5_sum_50 ?_
          refine V_aload_0 (pc := 51) dX5_sum_51 ?_
          refine V_getc (pc := 52) dX5_sum_52 gf_X5_32 (by omega) ?_
          refine V_gets (pc := 55) dX5_sum_55 gf_X5_169 (by omega) ?_
          refine V_iload_2 (pc := 58) dX5_sum_58 ?_
          refine V_aald_19 (pc := 59) dX5_sum_59 (by omega) (by omega) ?_
          refine V_iload_4 (pc := 60) dX5_sum_60 ?_
          refine V_iald (pc := 62) dX5_sum_62 sh_22 (by omega) (by omega) (hC.sh (by omega) (by omega)) ?_
          refine V_iadd (pc := 63) dX5_sum_63 ?_
          refine V_istore_3 (pc := 64) dX5_sum_64 ?_
          refine V_iinc_4 (pc := 65) dX5_sum_65 ?_
          refine V_goto (pc := 68) 24 dX5_sum_68 (by decide) ?_
          refine V.sub (by simp only [subL, Option.some.injEq, Sum.inl.injEq, Sum.inr.injEq, reduceCtorEq, true_or, or_true, false_or, true_and, and_true]; first | omega | (rw [hS, if_pos (by omega)]; omega) | (rw [hS, if_neg (by omega)]; omega)) ih
  refine V_aload_0 (pc := 0) dX5_sum_0 ?_
  refine V_iload_1 (pc := 1) dX5_sum_1 ?_
  refine V_callV1p (pc := 2) dX5_sum_2 kv_X5_119 rc_0 (by omega) (d - 1) (by omega) rfl (c_X5_noPage (by omega) hB hs (by omega)) ?_
  refine V_if_ne_b (pc := 5) 16 dX5_sum_5 (by decide) (fun c_5 => ?_) (fun c_5 => ?_)
  · refine V_bipush (pc := 16) dX5_sum_16 (by decide) ?_
    refine V_iretI (pc := 18) dX5_sum_18 rfl ?_
    exact ⟨_, rfl, by unfold q_sum; (repeat' split) <;> first | rfl | omega, rfl⟩
  · refine V_aload_0 (pc := 8) dX5_sum_8 ?_
    refine V_iload_2 (pc := 9) dX5_sum_9 ?_
    refine V_callV1p (pc := 10) dX5_sum_10 kv_X5_149 rc_0 (by omega) (d - 1) (by omega) rfl (c_X5_noYear (by omega) hB hs (by omega)) ?_
    refine V_if_eq_b (pc := 13) 19 dX5_sum_13 (by decide) (fun c_13 => ?_) (fun c_13 => ?_)
    · refine V_iconst (pc := 19) dX5_sum_19 ?_
      refine V_istore_3 (pc := 20) dX5_sum_20 ?_
      refine V_iconst (pc := 21) dX5_sum_21 ?_
      refine V_istore_4 (pc := 22) dX5_sum_22 ?_
      exact loop (by omega) 0 (by omega)
    · refine V_bipush (pc := 16) dX5_sum_16 (by decide) ?_
      refine V_iretI (pc := 18) dX5_sum_18 rfl ?_
      exact ⟨_, rfl, by unfold q_sum; (repeat' split) <;> first | rfl | omega, rfl⟩

set_option maxRecDepth 20000 in
set_option maxHeartbeats 1000000 in
theorem c_X5_ages {d : Nat} (hd : 3 ≤ d) {σ : MM} {B : BK} {j p n y : Int} (hB : CB σ 1 B) (hW : WB B) (hj : IR j) (hp : IR p) (hn : IR n) (hy : IR y) : V yX5_ages cX5_ages 7 (some .int) d (QI (fun v σ' => v = q_ages B j p n y ∧ σ' = σ)) 0 [some (vR 0 0), some (vI j), some (vI p), some (vI n), some (vI y), none, none] [] σ := by
  have hs := hW.s
  have loop : (¬ ((j < 0 ∨ B 4 0 ≤ j) ∨ (p < 0 ∨ B 5 0 ≤ p) ∨ (n < 1 ∨ 60 < n) ∨ (B 0 0 = 0 ∨ y < 0 ∨ B 1 0 < y))) → ∀ i : Nat, i ≤ (y + 1).toNat → V yX5_ages cX5_ages 7 (some .int) d (QI (fun v σ' => v = q_ages B j p n y ∧ σ' = σ)) 45 [some (vR 0 0), some (vI (j)), some (vI (p)), some (vI (n)), some (vI (y)), some (vI (bsN (fun w => bI (LNE B j p w y = n)) i)), some (vI (i : Int))] [] σ := by
    intro hR
    have hj2 : 0 ≤ j ∧ j < B 4 0 := by omega
    have hp2 : 0 ≤ p ∧ p < B 5 0 := by omega
    refine up_ind (P := fun i : Nat => V yX5_ages cX5_ages 7 (some .int) d (QI (fun v σ' => v = q_ages B j p n y ∧ σ' = σ)) 45 [some (vR 0 0), some (vI (j)), some (vI (p)), some (vI (n)), some (vI (y)), some (vI (bsN (fun w => bI (LNE B j p w y = n)) i)), some (vI (i : Int))] [] σ) ?_ ?_
    · 
      refine V_iload_6 (pc := 45) dX5_ages_45 ?_
      refine V_iload_4 (pc := 47) dX5_ages_47 ?_
      refine V_icmp_gt (pc := 49) 84 dX5_ages_49 (by decide) (by omega) (by omega) (fun c_49 => ?_) (fun c_49 => ?_)
      · refine V_iload_5 (pc := 84) dX5_ages_84 ?_
        refine V_iretI (pc := 86) dX5_ages_86 rfl ?_
        exact ⟨_, rfl, by unfold q_ages; rw [if_neg hR]; exact (bsN_ext (by omega) (fun k hk => bI_f (fun q => by unfold LNE at q; rw [if_pos (by omega)] at q; omega))).symm, rfl⟩
      · exact absurd c_49 (by omega)
    · intro i hi ih
      have h1 := LNE_in hW (i := j) (p := p) (wr := (i : Int)) (y := y) (by omega)
      have hb := bsI_in (fun w => LNE B j p w y = n) i
      have hS := bsN_S (fun w => bI (LNE B j p w y = n)) i
      refine V_iload_6 (pc := 45) dX5_ages_45 ?_
      refine V_iload_4 (pc := 47) dX5_ages_47 ?_
      refine V_icmp_gt (pc := 49) 84 dX5_ages_49 (by decide) (by omega) (by omega) (fun c_49 => ?_) (fun c_49 => ?_)
      · exact absurd c_49 (by omega)
      · refine V_aload_0 (pc := 52) dX5_ages_52 ?_
        refine V_getc (pc := 53) dX5_ages_53 gf_X5_23 (by omega) ?_
        refine V_iload_1 (pc := 56) dX5_ages_56 ?_
        refine V_iload_2 (pc := 57) dX5_ages_57 ?_
        refine V_iload_6 (pc := 58) dX5_ages_58 ?_
        refine V_iload_4 (pc := 60) dX5_ages_60 ?_
        refine V_callV4p (pc := 62) dX5_ages_62 kv_X5_218 rc_3 (by omega) (d - 1) (by omega) rfl (c_X1_lone (by omega) (by omega) hB hW hj2 hp2 (by omega) (by omega)) ?_
        refine V_iload_3 (pc := 65) dX5_ages_65 ?_
        refine V_icmp_ne (pc := 66) 78 dX5_ages_66 (by decide) (by omega) (by omega) (fun c_66 => ?_) (fun c_66 => ?_)
        · refine V_iinc_6 (pc := 78) dX5_ages_78 ?_
          refine V_goto (pc := 81) 45 dX5_ages_81 (by decide) ?_
          refine V.sub (by simp only [subL, Option.some.injEq, Sum.inl.injEq, Sum.inr.injEq, reduceCtorEq, true_or, or_true, false_or, true_and, and_true]; first | omega | (rw [hS, bI_t (by omega)]; omega) | (rw [hS, bI_f (by omega)]; omega)) ih
        · refine V_iload_5 (pc := 69) dX5_ages_69 ?_
          refine V_iconst (pc := 71) dX5_ages_71 ?_
          refine V_iload_6 (pc := 72) dX5_ages_72 ?_
          refine V_ishl_1 (pc := 74) dX5_ages_74 (by omega) ?_
          refine V_ior_add (pc := 75) dX5_ages_75 (by assumption) ?_
          refine V_istore_5 (pc := 76) dX5_ages_76 ?_
          refine V_iinc_6 (pc := 78) dX5_ages_78 ?_
          refine V_goto (pc := 81) 45 dX5_ages_81 (by decide) ?_
          refine V.sub (by simp only [subL, Option.some.injEq, Sum.inl.injEq, Sum.inr.injEq, reduceCtorEq, true_or, or_true, false_or, true_and, and_true]; first | omega | (rw [hS, bI_t (by omega)]; omega) | (rw [hS, bI_f (by omega)]; omega)) ih
  refine V_aload_0 (pc := 0) dX5_ages_0 ?_
  refine V_iload_1 (pc := 1) dX5_ages_1 ?_
  refine V_callV1p (pc := 2) dX5_ages_2 kv_X5_106 rc_0 (by omega) (d - 1) (by omega) rfl (c_X5_noInk (by omega) hB hs (by omega)) ?_
  refine V_if_ne_b (pc := 5) 36 dX5_ages_5 (by decide) (fun c_5 => ?_) (fun c_5 => ?_)
  · refine V_bipush (pc := 36) dX5_ages_36 (by decide) ?_
    refine V_iretI (pc := 38) dX5_ages_38 rfl ?_
    exact ⟨_, rfl, by unfold q_ages; (repeat' split) <;> first | rfl | omega, rfl⟩
  · refine V_aload_0 (pc := 8) dX5_ages_8 ?_
    refine V_iload_2 (pc := 9) dX5_ages_9 ?_
    refine V_callV1p (pc := 10) dX5_ages_10 kv_X5_119 rc_0 (by omega) (d - 1) (by omega) rfl (c_X5_noPage (by omega) hB hs (by omega)) ?_
    refine V_if_ne_b (pc := 13) 36 dX5_ages_13 (by decide) (fun c_13 => ?_) (fun c_13 => ?_)
    · refine V_bipush (pc := 36) dX5_ages_36 (by decide) ?_
      refine V_iretI (pc := 38) dX5_ages_38 rfl ?_
      exact ⟨_, rfl, by unfold q_ages; (repeat' split) <;> first | rfl | omega, rfl⟩
    · refine V_aload_0 (pc := 16) dX5_ages_16 ?_
      refine V_iload_4 (pc := 17) dX5_ages_17 ?_
      refine V_callV1p (pc := 19) dX5_ages_19 kv_X5_149 rc_0 (by omega) (d - 1) (by omega) rfl (c_X5_noYear (by omega) hB hs (by omega)) ?_
      refine V_if_ne_b (pc := 22) 36 dX5_ages_22 (by decide) (fun c_22 => ?_) (fun c_22 => ?_)
      · refine V_bipush (pc := 36) dX5_ages_36 (by decide) ?_
        refine V_iretI (pc := 38) dX5_ages_38 rfl ?_
        exact ⟨_, rfl, by unfold q_ages; (repeat' split) <;> first | rfl | omega, rfl⟩
      · refine V_iload_3 (pc := 25) dX5_ages_25 ?_
        refine V_iconst (pc := 26) dX5_ages_26 ?_
        refine V_icmp_lt (pc := 27) 36 dX5_ages_27 (by decide) (by omega) (by omega) (fun c_27 => ?_) (fun c_27 => ?_)
        · refine V_bipush (pc := 36) dX5_ages_36 (by decide) ?_
          refine V_iretI (pc := 38) dX5_ages_38 rfl ?_
          exact ⟨_, rfl, by unfold q_ages; (repeat' split) <;> first | rfl | omega, rfl⟩
        · refine V_iload_3 (pc := 30) dX5_ages_30 ?_
          refine V_bipush (pc := 31) dX5_ages_31 (by decide) ?_
          refine V_icmp_le (pc := 33) 39 dX5_ages_33 (by decide) (by omega) (by omega) (fun c_33 => ?_) (fun c_33 => ?_)
          · refine V_iconst (pc := 39) dX5_ages_39 ?_
            refine V_istore_5 (pc := 40) dX5_ages_40 ?_
            refine V_iconst (pc := 42) dX5_ages_42 ?_
            refine V_istore_6 (pc := 43) dX5_ages_43 ?_
            exact loop (by omega) 0 (by omega)
          · refine V_bipush (pc := 36) dX5_ages_36 (by decide) ?_
            refine V_iretI (pc := 38) dX5_ages_38 rfl ?_
            exact ⟨_, rfl, by unfold q_ages; (repeat' split) <;> first | rfl | omega, rfl⟩

theorem c_ALL {d : Nat} (hd : 0 ≤ d) {σ : MM} {B : BK} {y : Int} (hB : CB σ 1 B) (hW : WB B) (hC : CK σ 0 B (bt 0)) (hy : 0 ≤ y ∧ y ≤ B 1 0) : V yX2_total cX2_total 5 (some .int) d (QI (fun v σ' => v = ALL B y ∧ σ' = σ)) 0 [some (vR 18 0), some (vR 3 1), some (vI y), none, none] [] σ :=
  c_X2_total hd (T := YS B (bt 0) y.toNat) (by omega) (by omega) hB hW (by have := hW.s; omega) (hC.rk hy)

set_option maxRecDepth 20000 in
set_option maxHeartbeats 1000000 in
theorem c_X5_peaks {d : Nat} (hd : 1 ≤ d) {σ : MM} {B : BK} (hB : CB σ 1 B) (hW : WB B) (hC : CK σ 0 B (bt 0)) : V yX5_peaks cX5_peaks 3 (some .int) d (QI (fun v σ' => v = q_peaks B ∧ σ' = σ)) 0 [some (vR 0 0), none, none] [] σ := by
  have hs := hW.s
  have loop : (¬ B 0 0 = 0) → ∀ i : Nat, i ≤ (B 1 0).toNat → V yX5_peaks cX5_peaks 3 (some .int) d (QI (fun v σ' => v = q_peaks B ∧ σ' = σ)) 14 [some (vR 0 0), some (vI (mxN (ALL B) i)), some (vI ((i : Int) + 1))] [] σ := by
    intro hR
    refine up_ind (P := fun i : Nat => V yX5_peaks cX5_peaks 3 (some .int) d (QI (fun v σ' => v = q_peaks B ∧ σ' = σ)) 14 [some (vR 0 0), some (vI (mxN (ALL B) i)), some (vI ((i : Int) + 1))] [] σ) ?_ ?_
    · 
      refine V_iload_2 (pc := 14) dX5_peaks_14 ?_
      refine V_aload_0 (pc := 15) dX5_peaks_15 ?_
      refine V_getc (pc := 16) dX5_peaks_16 gf_X5_23 (by omega) ?_
      refine V_geti (pc := 19) dX5_peaks_19 gf_X5_175 (by omega) hB.s1 ?_
      refine V_icmp_gt (pc := 22) 60 dX5_peaks_22 (by decide) (by omega) (by omega) (fun c_22 => ?_) (fun c_22 => ?_)
      · refine V_iload_1 (pc := 60) dX5_peaks_60 ?_
        refine V_iretI (pc := 61) dX5_peaks_61 rfl ?_
        exact ⟨_, rfl, by unfold q_peaks; (repeat' split) <;> first | rfl | omega, rfl⟩
      · exact absurd c_22 (by omega)
    · intro i hi ih
      have h0 := mxN_in (ALL B) i
      have a1 := ALL_in hW ((i : Int) + 1)
      have a2 := ALL_in hW (mxN (ALL B) i)
      have hS : mxN (ALL B) (i + 1) = if ALL B (mxN (ALL B) i) < ALL B ((i : Int) + 1) then (i : Int) + 1 else mxN (ALL B) i := rfl
      refine V_iload_2 (pc := 14) dX5_peaks_14 ?_
      refine V_aload_0 (pc := 15) dX5_peaks_15 ?_
      refine V_getc (pc := 16) dX5_peaks_16 gf_X5_23 (by omega) ?_
      refine V_geti (pc := 19) dX5_peaks_19 gf_X5_175 (by omega) hB.s1 ?_
      refine V_icmp_gt (pc := 22) 60 dX5_peaks_22 (by decide) (by omega) (by omega) (fun c_22 => ?_) (fun c_22 => ?_)
      · exact absurd c_22 (by omega)
      · refine V_aload_0 (pc := 25) dX5_peaks_25 ?_
        refine V_getc (pc := 26) dX5_peaks_26 gf_X5_32 (by omega) ?_
        refine V_aload_0 (pc := 29) dX5_peaks_29 ?_
        refine V_getc (pc := 30) dX5_peaks_30 gf_X5_23 (by omega) ?_
        refine V_iload_2 (pc := 33) dX5_peaks_33 ?_
        refine V_callV2p (pc := 34) dX5_peaks_34 kv_X5_196 rc_18 (by omega) (d - 1) (by omega) rfl (c_ALL (by omega) hB hW hC (by omega)) ?_
        refine V_aload_0 (pc := 37) dX5_peaks_37 ?_
        refine V_getc (pc := 38) dX5_peaks_38 gf_X5_32 (by omega) ?_
        refine V_aload_0 (pc := 41) dX5_peaks_41 ?_
        refine V_getc (pc := 42) dX5_peaks_42 gf_X5_23 (by omega) ?_
        refine V_iload_1 (pc := 45) dX5_peaks_45 ?_
        refine V_callV2p (pc := 46) dX5_peaks_46 kv_X5_196 rc_18 (by omega) (d - 1) (by omega) rfl (c_ALL (by omega) hB hW hC (by omega)) ?_
        refine V_icmp_le (pc := 49) 54 dX5_peaks_49 (by decide) (by omega) (by omega) (fun c_49 => ?_) (fun c_49 => ?_)
        · refine V_iinc_2 (pc := 54) dX5_peaks_54 ?_
          refine V_goto (pc := 57) 14 dX5_peaks_57 (by decide) ?_
          refine V.sub (by simp only [subL, Option.some.injEq, Sum.inl.injEq, Sum.inr.injEq, reduceCtorEq, true_or, or_true, false_or, true_and, and_true]; first | omega | (rw [hS, if_pos (by omega)]; omega) | (rw [hS, if_neg (by omega)]; omega)) ih
        · refine V_iload_2 (pc := 52) dX5_peaks_52 ?_
          refine V_istore_1 (pc := 53) dX5_peaks_53 ?_
          refine V_iinc_2 (pc := 54) dX5_peaks_54 ?_
          refine V_goto (pc := 57) 14 dX5_peaks_57 (by decide) ?_
          refine V.sub (by simp only [subL, Option.some.injEq, Sum.inl.injEq, Sum.inr.injEq, reduceCtorEq, true_or, or_true, false_or, true_and, and_true]; first | omega | (rw [hS, if_pos (by omega)]; omega) | (rw [hS, if_neg (by omega)]; omega)) ih
  refine V_aload_0 (pc := 0) dX5_peaks_0 ?_
  refine V_callV0p (pc := 1) dX5_peaks_1 kv_X5_155 rc_0 (by omega) (d - 1) (by omega) rfl (c_X5_noBook (by omega) hB hs) ?_
  refine V_if_eq_b (pc := 4) 10 dX5_peaks_4 (by decide) (fun c_4 => ?_) (fun c_4 => ?_)
  · refine V_iconst (pc := 10) dX5_peaks_10 ?_
    refine V_istore_1 (pc := 11) dX5_peaks_11 ?_
    refine V_iconst (pc := 12) dX5_peaks_12 ?_
    refine V_istore_2 (pc := 13) dX5_peaks_13 ?_
    exact loop (by omega) 0 (by omega)
  · refine V_bipush (pc := 7) dX5_peaks_7 (by decide) ?_
    refine V_iretI (pc := 9) dX5_peaks_9 rfl ?_
    exact ⟨_, rfl, by unfold q_peaks; (repeat' split) <;> first | rfl | omega, rfl⟩
