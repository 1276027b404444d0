set_option maxRecDepth 20000 in
set_option maxHeartbeats 1000000 in
theorem c_X1_isThere {d : Nat} (hd : 0 ≤ d) {σ : MM} {b : Int} {B : BK} {e y : Int} (hb : 0 ≤ b ∧ b < 6) (hB : CB σ b B) (hW : WB B) (he : 0 ≤ e ∧ e < B 6 0) (hy : IR y) : V yX1_isThere cX1_isThere 3 (some .boolean) d (QI (fun v σ' => v = bI (B 13 e ≤ y) ∧ σ' = σ)) 0 [some (vR 3 b), some (vI e), some (vI y)] [] σ := by
  have hs := hW.s
  have h1 := hW.e he
  refine V_aload_0 (pc := 0) dX1_isThere_0 ?_
  refine V_gets (pc := 1) dX1_isThere_1 gf_X1_52 (by omega) ?_
  refine V_iload_1 (pc := 4) dX1_isThere_4 ?_
  refine V_iald (pc := 5) dX1_isThere_5 sh_10 (by omega) (by omega) (hB.a10 he) ?_
  refine V_iload_2 (pc := 6) dX1_isThere_6 ?_
  refine V_icmp_gt (pc := 7) 14 dX1_isThere_7 (by decide) (by omega) (by omega) (fun c_7 => ?_) (fun c_7 => ?_)
  · refine V_iconst (pc := 14) dX1_isThere_14 ?_
    refine V_iretZ (pc := 15) dX1_isThere_15 rfl (by omega) ?_
    exact ⟨_, rfl, by unfold bI; split <;> omega, rfl⟩
  · refine V_iconst (pc := 10) dX1_isThere_10 ?_
    refine V_goto (pc := 11) 15 dX1_isThere_11 (by decide) ?_
    refine V_iretZ (pc := 15) dX1_isThere_15 rfl (by omega) ?_
    exact ⟨_, rfl, by unfold bI; split <;> omega, rfl⟩

set_option maxRecDepth 20000 in
set_option maxHeartbeats 1000000 in
theorem c_X1_risen {d : Nat} (hd : 1 ≤ d) {σ : MM} {b : Int} {B : BK} {x i : Int} (hb : 0 ≤ b ∧ b < 6) (hB : CB σ b B) (hW : WB B) (hi : 0 ≤ i ∧ i < B 4 0) (hx : 0 ≤ x ∧ x ≤ 1000) : V yX1_risen cX1_risen 3 (some .int) d (QI (fun v σ' => v = min (x + B 7 i) (B 8 i) ∧ σ' = σ)) 0 [some (vR 3 b), some (vI x), some (vI i)] [] σ := by
  have hs := hW.s
  have h1 := hW.i hi
  refine V_iload_1 (pc := 0) dX1_risen_0 ?_
  refine V_aload_0 (pc := 1) dX1_risen_1 ?_
  refine V_gets (pc := 2) dX1_risen_2 gf_X1_33 (by omega) ?_
  refine V_iload_2 (pc := 5) dX1_risen_5 ?_
  refine V_iald (pc := 6) dX1_risen_6 sh_4 (by omega) (by omega) (hB.a4 hi) ?_
  refine V_iadd (pc := 7) dX1_risen_7 ?_
  refine V_aload_0 (pc := 8) dX1_risen_8 ?_
  refine V_gets (pc := 9) dX1_risen_9 gf_X1_37 (by omega) ?_
  refine V_iload_2 (pc := 12) dX1_risen_12 ?_
  refine V_iald (pc := 13) dX1_risen_13 sh_5 (by omega) (by omega) (hB.a5 hi) ?_
  refine V_mmin (pc := 14) dX1_risen_14 mth_min_X1_87 (by omega) (by omega) (by omega) ?_
  refine V_iretI (pc := 17) dX1_risen_17 rfl ?_
  exact ⟨_, rfl, by first | rfl | omega, rfl⟩

set_option maxRecDepth 20000 in
set_option maxHeartbeats 1000000 in
theorem c_X1_loss {d : Nat} (hd : 0 ≤ d) {σ : MM} {b : Int} {B : BK} {i p y w : Int} (hb : 0 ≤ b ∧ b < 6) (hB : CB σ b B) (hW : WB B) (hi : 0 ≤ i ∧ i < B 4 0) (hp : 0 ≤ p ∧ p < B 5 0) (hy : 0 ≤ y ∧ y ≤ 1000) (hw : w = 0 ∨ w = 1) : V yX1_loss cX1_loss 6 (some .int) d (QI (fun v σ' => v = LOS B i p y w ∧ σ' = σ)) 0 [some (vR 3 b), some (vI i), some (vI p), some (vI y), some (vI w), none] [] σ := by
  have hs := hW.s
  have h1 := hW.i hi
  have h2 := hW.p hp
  refine V_aload_0 (pc := 0) dX1_loss_0 ?_
  refine V_geti (pc := 1) dX1_loss_1 gf_X1_18 (by omega) hB.s2 ?_
  refine V_iconst (pc := 4) dX1_loss_4 ?_
  refine V_icmp_ne (pc := 5) 17 dX1_loss_5 (by decide) (by omega) (by omega) (fun c_5 => ?_) (fun c_5 => ?_)
  · refine V_aload_0 (pc := 17) dX1_loss_17 ?_
    refine V_gets (pc := 18) dX1_loss_18 gf_X1_40 (by omega) ?_
    refine V_iload_1 (pc := 21) dX1_loss_21 ?_
    refine V_iald (pc := 22) dX1_loss_22 sh_6 (by omega) (by omega) (hB.a6 hi) ?_
    refine V_istore_5 (pc := 23) dX1_loss_23 ?_
    refine V_aload_0 (pc := 25) dX1_loss_25 ?_
    refine V_geti (pc := 26) dX1_loss_26 gf_X1_18 (by omega) hB.s2 ?_
    refine V_iconst (pc := 29) dX1_loss_29 ?_
    refine V_icmp_ne (pc := 30) 49 dX1_loss_30 (by decide) (by omega) (by omega) (fun c_30 => ?_) (fun c_30 => ?_)
    · refine V_iload_4 (pc := 49) dX1_loss_49 ?_
      refine V_if_eq (pc := 51) 61 dX1_loss_51 (by decide) (by omega) (fun c_51 => ?_) (fun c_51 => ?_)
      · refine V_iload_5 (pc := 61) dX1_loss_61 ?_
        refine V_iretI (pc := 63) dX1_loss_63 rfl ?_
        exact ⟨_, rfl, by unfold LOS; (repeat' split) <;> omega, rfl⟩
      · refine V_iload_5 (pc := 54) dX1_loss_54 ?_
        refine V_iconst (pc := 56) dX1_loss_56 ?_
        refine V_iadd (pc := 57) dX1_loss_57 ?_
        refine V_goto (pc := 58) 63 dX1_loss_58 (by decide) ?_
        refine V_iretI (pc := 63) dX1_loss_63 rfl ?_
        exact ⟨_, rfl, by unfold LOS; (repeat' split) <;> omega, rfl⟩
    · refine V_aload_0 (pc := 33) dX1_loss_33 ?_
      refine V_gets (pc := 34) dX1_loss_34 gf_X1_43 (by omega) ?_
      refine V_iload_2 (pc := 37) dX1_loss_37 ?_
      refine V_iald (pc := 38) dX1_loss_38 sh_7 (by omega) (by omega) (hB.a7 hp) ?_
      refine V_iconst (pc := 39) dX1_loss_39 ?_
      refine V_icmp_ne (pc := 40) 49 dX1_loss_40 (by decide) (by omega) (by omega) (fun c_40 => ?_) (fun c_40 => ?_)
      · refine V_iload_4 (pc := 49) dX1_loss_49 ?_
        refine V_if_eq (pc := 51) 61 dX1_loss_51 (by decide) (by omega) (fun c_51 => ?_) (fun c_51 => ?_)
        · refine V_iload_5 (pc := 61) dX1_loss_61 ?_
          refine V_iretI (pc := 63) dX1_loss_63 rfl ?_
          exact ⟨_, rfl, by unfold LOS; (repeat' split) <;> omega, rfl⟩
        · refine V_iload_5 (pc := 54) dX1_loss_54 ?_
          refine V_iconst (pc := 56) dX1_loss_56 ?_
          refine V_iadd (pc := 57) dX1_loss_57 ?_
          refine V_goto (pc := 58) 63 dX1_loss_58 (by decide) ?_
          refine V_iretI (pc := 63) dX1_loss_63 rfl ?_
          exact ⟨_, rfl, by unfold LOS; (repeat' split) <;> omega, rfl⟩
      · refine V_iload_5 (pc := 43) dX1_loss_43 ?_
        refine V_iconst (pc := 45) dX1_loss_45 ?_
        refine V_imul (pc := 46) dX1_loss_46 ?_
        refine V_istore_5 (pc := 47) dX1_loss_47 ?_
        refine V_iload_4 (pc := 49) dX1_loss_49 ?_
        refine V_if_eq (pc := 51) 61 dX1_loss_51 (by decide) (by omega) (fun c_51 => ?_) (fun c_51 => ?_)
        · refine V_iload_5 (pc := 61) dX1_loss_61 ?_
          refine V_iretI (pc := 63) dX1_loss_63 rfl ?_
          exact ⟨_, rfl, by unfold LOS; (repeat' split) <;> omega, rfl⟩
        · refine V_iload_5 (pc := 54) dX1_loss_54 ?_
          refine V_iconst (pc := 56) dX1_loss_56 ?_
          refine V_iadd (pc := 57) dX1_loss_57 ?_
          refine V_goto (pc := 58) 63 dX1_loss_58 (by decide) ?_
          refine V_iretI (pc := 63) dX1_loss_63 rfl ?_
          exact ⟨_, rfl, by unfold LOS; (repeat' split) <;> omega, rfl⟩
  · refine V_iload_3 (pc := 8) dX1_loss_8 ?_
    refine V_iconst (pc := 9) dX1_loss_9 ?_
    refine V_irem_p (pc := 10) dX1_loss_10 (by omega) (by omega) ?_
    refine V_iconst (pc := 11) dX1_loss_11 ?_
    refine V_icmp_ne (pc := 12) 17 dX1_loss_12 (by decide) (by omega) (by omega) (fun c_12 => ?_) (fun c_12 => ?_)
    · refine V_aload_0 (pc := 17) dX1_loss_17 ?_
      refine V_gets (pc := 18) dX1_loss_18 gf_X1_40 (by omega) ?_
      refine V_iload_1 (pc := 21) dX1_loss_21 ?_
      refine V_iald (pc := 22) dX1_loss_22 sh_6 (by omega) (by omega) (hB.a6 hi) ?_
      refine V_istore_5 (pc := 23) dX1_loss_23 ?_
      refine V_aload_0 (pc := 25) dX1_loss_25 ?_
      refine V_geti (pc := 26) dX1_loss_26 gf_X1_18 (by omega) hB.s2 ?_
      refine V_iconst (pc := 29) dX1_loss_29 ?_
      refine V_icmp_ne (pc := 30) 49 dX1_loss_30 (by decide) (by omega) (by omega) (fun c_30 => ?_) (fun c_30 => ?_)
      · refine V_iload_4 (pc := 49) dX1_loss_49 ?_
        refine V_if_eq (pc := 51) 61 dX1_loss_51 (by decide) (by omega) (fun c_51 => ?_) (fun c_51 => ?_)
        · refine V_iload_5 (pc := 61) dX1_loss_61 ?_
          refine V_iretI (pc := 63) dX1_loss_63 rfl ?_
          exact ⟨_, rfl, by unfold LOS; (repeat' split) <;> omega, rfl⟩
        · refine V_iload_5 (pc := 54) dX1_loss_54 ?_
          refine V_iconst (pc := 56) dX1_loss_56 ?_
          refine V_iadd (pc := 57) dX1_loss_57 ?_
          refine V_goto (pc := 58) 63 dX1_loss_58 (by decide) ?_
          refine V_iretI (pc := 63) dX1_loss_63 rfl ?_
          exact ⟨_, rfl, by unfold LOS; (repeat' split) <;> omega, rfl⟩
      · refine V_aload_0 (pc := 33) dX1_loss_33 ?_
        refine V_gets (pc := 34) dX1_loss_34 gf_X1_43 (by omega) ?_
        refine V_iload_2 (pc := 37) dX1_loss_37 ?_
        refine V_iald (pc := 38) dX1_loss_38 sh_7 (by omega) (by omega) (hB.a7 hp) ?_
        refine V_iconst (pc := 39) dX1_loss_39 ?_
        refine V_icmp_ne (pc := 40) 49 dX1_loss_40 (by decide) (by omega) (by omega) (fun c_40 => ?_) (fun c_40 => ?_)
        · refine V_iload_4 (pc := 49) dX1_loss_49 ?_
          refine V_if_eq (pc := 51) 61 dX1_loss_51 (by decide) (by omega) (fun c_51 => ?_) (fun c_51 => ?_)
          · refine V_iload_5 (pc := 61) dX1_loss_61 ?_
            refine V_iretI (pc := 63) dX1_loss_63 rfl ?_
            exact ⟨_, rfl, by unfold LOS; (repeat' split) <;> omega, rfl⟩
          · refine V_iload_5 (pc := 54) dX1_loss_54 ?_
            refine V_iconst (pc := 56) dX1_loss_56 ?_
            refine V_iadd (pc := 57) dX1_loss_57 ?_
            refine V_goto (pc := 58) 63 dX1_loss_58 (by decide) ?_
            refine V_iretI (pc := 63) dX1_loss_63 rfl ?_
            exact ⟨_, rfl, by unfold LOS; (repeat' split) <;> omega, rfl⟩
        · refine V_iload_5 (pc := 43) dX1_loss_43 ?_
          refine V_iconst (pc := 45) dX1_loss_45 ?_
          refine V_imul (pc := 46) dX1_loss_46 ?_
          refine V_istore_5 (pc := 47) dX1_loss_47 ?_
          refine V_iload_4 (pc := 49) dX1_loss_49 ?_
          refine V_if_eq (pc := 51) 61 dX1_loss_51 (by decide) (by omega) (fun c_51 => ?_) (fun c_51 => ?_)
          · refine V_iload_5 (pc := 61) dX1_loss_61 ?_
            refine V_iretI (pc := 63) dX1_loss_63 rfl ?_
            exact ⟨_, rfl, by unfold LOS; (repeat' split) <;> omega, rfl⟩
          · refine V_iload_5 (pc := 54) dX1_loss_54 ?_
            refine V_iconst (pc := 56) dX1_loss_56 ?_
            refine V_iadd (pc := 57) dX1_loss_57 ?_
            refine V_goto (pc := 58) 63 dX1_loss_58 (by decide) ?_
            refine V_iretI (pc := 63) dX1_loss_63 rfl ?_
            exact ⟨_, rfl, by unfold LOS; (repeat' split) <;> omega, rfl⟩
    · refine V_iconst (pc := 15) dX1_loss_15 ?_
      refine V_iretI (pc := 16) dX1_loss_16 rfl ?_
      exact ⟨_, rfl, by unfold LOS; (repeat' split) <;> omega, rfl⟩

set_option maxRecDepth 20000 in
set_option maxHeartbeats 1000000 in
theorem c_X1_lone {d : Nat} (hd : 2 ≤ d) {σ : MM} {b : Int} {B : BK} {i p wr y : Int} (hb : 0 ≤ b ∧ b < 6) (hB : CB σ b B) (hW : WB B) (hi : 0 ≤ i ∧ i < B 4 0) (hp : 0 ≤ p ∧ p < B 5 0) (hwr : 0 ≤ wr ∧ wr ≤ 500) (hy : 0 ≤ y ∧ y ≤ 500) : V yX1_lone cX1_lone 8 (some .int) d (QI (fun v σ' => v = LNE B i p wr y ∧ σ' = σ)) 0 [some (vR 3 b), some (vI i), some (vI p), some (vI wr), some (vI y), none, none, none] [] σ := by
  have hs := hW.s
  have h1 := hW.i hi
  have hLN := LNA_in hW hi (p := p) (wr := wr)
  have loop : ∀ n : Nat, n ≤ (y - wr).toNat → wr ≤ y → V yX1_lone cX1_lone 8 (some .int) d (QI (fun v σ' => v = LNE B i p wr y ∧ σ' = σ)) 39 [some (vR 3 b), some (vI i), some (vI p), some (vI wr), some (vI y), some (vI (LNA B i p wr n).1), some (vI (LNA B i p wr n).2), some (vI (wr + 1 + n))] [] σ := by
    intro n hn0 hle
    revert hn0
    refine up_ind (P := fun n : Nat => V yX1_lone cX1_lone 8 (some .int) d (QI (fun v σ' => v = LNE B i p wr y ∧ σ' = σ)) 39 [some (vR 3 b), some (vI i), some (vI p), some (vI wr), some (vI y), some (vI (LNA B i p wr n).1), some (vI (LNA B i p wr n).2), some (vI (wr + 1 + n))] [] σ) ?_ ?_ n
    · have hN : (((y - wr).toNat : Nat) : Int) = y - wr := by omega
      have hq := hLN (y - wr).toNat
      refine V_iload_7 (pc := 39) dX1_lone_39 ?_
      refine V_iload_4 (pc := 41) dX1_lone_41 ?_
      refine V_icmp_gt (pc := 43) 105 dX1_lone_43 (by decide) (by omega) (by omega) (fun c_43 => ?_) (fun c_43 => ?_)
      · refine V_iload_5 (pc := 105) dX1_lone_105 ?_
        refine V_iretI (pc := 107) dX1_lone_107 rfl ?_
        exact ⟨_, rfl, by unfold LNE; rw [if_neg (by omega)], rfl⟩
      · exact absurd c_43 (by omega)
    · intro n hn ih
      have hq := hLN n
      refine V_iload_7 (pc := 39) dX1_lone_39 ?_
      refine V_iload_4 (pc := 41) dX1_lone_41 ?_
      refine V_icmp_gt (pc := 43) 105 dX1_lone_43 (by decide) (by omega) (by omega) (fun c_43 => ?_) (fun c_43 => ?_)
      · exact absurd c_43 (by omega)
      · refine V_iload_6 (pc := 46) dX1_lone_46 ?_
        refine V_if_eq (pc := 48) 81 dX1_lone_48 (by decide) (by omega) (fun c_48 => ?_) (fun c_48 => ?_)
        · refine V_iconst (pc := 81) dX1_lone_81 ?_
          refine V_iload_5 (pc := 82) dX1_lone_82 ?_
          refine V_aload_0 (pc := 84) dX1_lone_84 ?_
          refine V_iload_1 (pc := 85) dX1_lone_85 ?_
          refine V_iload_2 (pc := 86) dX1_lone_86 ?_
          refine V_iload_7 (pc := 87) dX1_lone_87 ?_
          refine V_iconst (pc := 89) dX1_lone_89 ?_
          refine V_callV4p (pc := 90) dX1_lone_90 kv_X1_96 rc_3 (by omega) (d - 1) (by omega) rfl (c_X1_loss (by omega) hb hB hW hi hp (by omega) (by omega)) ?_
          have hlo := LOS_in hW (p := p) (y := wr + 1 + n) (w := 0) hi (by omega)
          refine V_isub (pc := 93) dX1_lone_93 ?_
          refine V_mmax (pc := 94) dX1_lone_94 mth_max_X1_100 (by omega) (by omega) (by omega) ?_
          refine V_istore_5 (pc := 97) dX1_lone_97 ?_
          refine V_iinc_7 (pc := 99) dX1_lone_99 ?_
          refine V_goto (pc := 102) 39 dX1_lone_102 (by decide) ?_
          refine V.sub (by simp only [subL, Option.some.injEq, Sum.inl.injEq, reduceCtorEq, true_or, or_true, false_or, true_and, and_true]; rw [LNA_dn c_48]; refine ⟨rfl, c_48.symm, by omega⟩) ih
        · refine V_aload_0 (pc := 51) dX1_lone_51 ?_
          refine V_iload_5 (pc := 52) dX1_lone_52 ?_
          refine V_iload_1 (pc := 54) dX1_lone_54 ?_
          refine V_callV2p (pc := 55) dX1_lone_55 kv_X1_93 rc_3 (by omega) (d - 1) (by omega) rfl (c_X1_risen (by omega) hb hB hW hi (by omega)) ?_
          refine V_istore_5 (pc := 58) dX1_lone_58 ?_
          refine V_iload_5 (pc := 60) dX1_lone_60 ?_
          refine V_aload_0 (pc := 62) dX1_lone_62 ?_
          refine V_gets (pc := 63) dX1_lone_63 gf_X1_37 (by omega) ?_
          refine V_iload_1 (pc := 66) dX1_lone_66 ?_
          refine V_iald (pc := 67) dX1_lone_67 sh_5 (by omega) (by omega) (hB.a5 hi) ?_
          refine V_icmp_ge (pc := 68) 75 dX1_lone_68 (by decide) (by omega) (by omega) (fun c_68 => ?_) (fun c_68 => ?_)
          · refine V_iconst (pc := 75) dX1_lone_75 ?_
            refine V_istore_6 (pc := 76) dX1_lone_76 ?_
            refine V_goto (pc := 78) 99 dX1_lone_78 (by decide) ?_
            refine V_iinc_7 (pc := 99) dX1_lone_99 ?_
            refine V_goto (pc := 102) 39 dX1_lone_102 (by decide) ?_
            refine V.sub (by simp only [subL, Option.some.injEq, Sum.inl.injEq, reduceCtorEq, true_or, or_true, false_or, true_and, and_true]; rw [LNA_up c_48]; refine ⟨rfl, bI_f (by omega), by omega⟩) ih
          · refine V_iconst (pc := 71) dX1_lone_71 ?_
            refine V_goto (pc := 72) 76 dX1_lone_72 (by decide) ?_
            refine V_istore_6 (pc := 76) dX1_lone_76 ?_
            refine V_goto (pc := 78) 99 dX1_lone_78 (by decide) ?_
            refine V_iinc_7 (pc := 99) dX1_lone_99 ?_
            refine V_goto (pc := 102) 39 dX1_lone_102 (by decide) ?_
            refine V.sub (by simp only [subL, Option.some.injEq, Sum.inl.injEq, reduceCtorEq, true_or, or_true, false_or, true_and, and_true]; rw [LNA_up c_48]; refine ⟨rfl, bI_t (by omega), by omega⟩) ih
  refine V_iload_4 (pc := 0) dX1_lone_0 ?_
  refine V_iload_3 (pc := 2) dX1_lone_2 ?_
  refine V_icmp_ge (pc := 3) 8 dX1_lone_3 (by decide) (by omega) (by omega) (fun c_3 => ?_) (fun c_3 => ?_)
  · refine V_aload_0 (pc := 8) dX1_lone_8 ?_
    refine V_iconst (pc := 9) dX1_lone_9 ?_
    refine V_iload_1 (pc := 10) dX1_lone_10 ?_
    refine V_callV2p (pc := 11) dX1_lone_11 kv_X1_93 rc_3 (by omega) (d - 1) (by omega) rfl (c_X1_risen (by omega) hb hB hW hi (by omega)) ?_
    refine V_istore_5 (pc := 14) dX1_lone_14 ?_
    refine V_iload_5 (pc := 16) dX1_lone_16 ?_
    refine V_aload_0 (pc := 18) dX1_lone_18 ?_
    refine V_gets (pc := 19) dX1_lone_19 gf_X1_37 (by omega) ?_
    refine V_iload_1 (pc := 22) dX1_lone_22 ?_
    refine V_iald (pc := 23) dX1_lone_23 sh_5 (by omega) (by omega) (hB.a5 hi) ?_
    refine V_icmp_ge (pc := 24) 31 dX1_lone_24 (by decide) (by omega) (by omega) (fun c_24 => ?_) (fun c_24 => ?_)
    · refine V_iconst (pc := 31) dX1_lone_31 ?_
      refine V_istore_6 (pc := 32) dX1_lone_32 ?_
      refine V_iload_3 (pc := 34) dX1_lone_34 ?_
      refine V_iconst (pc := 35) dX1_lone_35 ?_
      refine V_iadd (pc := 36) dX1_lone_36 ?_
      refine V_istore_7 (pc := 37) dX1_lone_37 ?_
      refine V.sub (by simp only [subL, Option.some.injEq, Sum.inl.injEq, reduceCtorEq, true_or, or_true, false_or, true_and, and_true]; refine ⟨by show min (B 7 i) (B 8 i) = _; omega, bI_f (by omega), by omega⟩) (loop 0 (by omega) (by omega))
    · refine V_iconst (pc := 27) dX1_lone_27 ?_
      refine V_goto (pc := 28) 32 dX1_lone_28 (by decide) ?_
      refine V_istore_6 (pc := 32) dX1_lone_32 ?_
      refine V_iload_3 (pc := 34) dX1_lone_34 ?_
      refine V_iconst (pc := 35) dX1_lone_35 ?_
      refine V_iadd (pc := 36) dX1_lone_36 ?_
      refine V_istore_7 (pc := 37) dX1_lone_37 ?_
      refine V.sub (by simp only [subL, Option.some.injEq, Sum.inl.injEq, reduceCtorEq, true_or, or_true, false_or, true_and, and_true]; refine ⟨by show min (B 7 i) (B 8 i) = _; omega, bI_t (by omega), by omega⟩) (loop 0 (by omega) (by omega))
  · refine V_iconst (pc := 6) dX1_lone_6 ?_
    refine V_iretI (pc := 7) dX1_lone_7 rfl ?_
    exact ⟨_, rfl, by unfold LNE; rw [if_pos (by omega)], rfl⟩
