set_option maxRecDepth 20000 in
set_option maxHeartbeats 1000000 in
theorem c_X2_goOn {d : Nat} (hd : 2 ≤ d) {σ : MM} {j b e y w : Int} {B P : BK} (hj : 0 ≤ j ∧ j < 2) (hb : 0 ≤ b ∧ b < 6) (hB : CB σ b B) (hW : WB B) (he : 0 ≤ e ∧ e < B 6 0) (hy : 1 ≤ y ∧ y < 21) (hw : w = 0 ∨ w = 1) (hr : 0 ≤ σ 21 j y ∧ σ 21 j y < p2 7) (hr1 : 0 ≤ σ 21 j (y - 1) ∧ σ 21 j (y - 1) < p2 7) (hP0 : σ 22 (21 * j + (y - 1)) e = P 0 e) (hP1 : σ 23 (21 * j + (y - 1)) e = P 1 e) (hP2 : bt (σ 21 j (y - 1)) e = P 2 e) (b0 : 0 ≤ P 0 e ∧ P 0 e ≤ 60) (b1 : 0 ≤ P 1 e ∧ P 1 e < B 4 0) : V yX2_goOn cX2_goOn 7 none d (QZ (fun σ' => RowUp σ σ' j y (GON B P e y w (RS σ j y)))) 0 [some (vR 18 j), some (vR 3 b), some (vI e), some (vI y), some (vI w), none, none] [] σ := by
  have e7 : p2 7 = 128 := rfl
  have hs := hW.s
  have h1 := hW.i b1
  have h2 := hW.e he
  have hU := RowUp_ik (σ := σ) (j := j) (y := y) (e := e) (n := P 1 e) hr
  have hB1 := hU.2.2.CB hB
  have hlo := LOS_in hW (p := B 11 e) (y := y) (w := w) b1 (by omega)
  have e1 := hU.2.1
  refine V_aload_0 (pc := 0) dX2_goOn_0 ?_
  refine V_gets (pc := 1) dX2_goOn_1 gf_X2_16 (by omega) ?_
  refine V_iload_3 (pc := 4) dX2_goOn_4 ?_
  refine V_iconst (pc := 5) dX2_goOn_5 ?_
  refine V_isub (pc := 6) dX2_goOn_6 ?_
  refine V_aald_20 (pc := 7) dX2_goOn_7 (by omega) (by omega) ?_
  refine V_iload_2 (pc := 8) dX2_goOn_8 ?_
  refine V_iald (pc := 9) dX2_goOn_9 sh_23 (by omega) (by omega) hP1 ?_
  refine V_istore_5 (pc := 10) dX2_goOn_10 ?_
  refine V_aload_0 (pc := 12) dX2_goOn_12 ?_
  refine V_gets (pc := 13) dX2_goOn_13 gf_X2_11 (by omega) ?_
  refine V_iload_3 (pc := 16) dX2_goOn_16 ?_
  refine V_iconst (pc := 17) dX2_goOn_17 ?_
  refine V_isub (pc := 18) dX2_goOn_18 ?_
  refine V_aald_19 (pc := 19) dX2_goOn_19 (by omega) (by omega) ?_
  refine V_iload_2 (pc := 20) dX2_goOn_20 ?_
  refine V_iald (pc := 21) dX2_goOn_21 sh_22 (by omega) (by omega) hP0 ?_
  refine V_istore_6 (pc := 22) dX2_goOn_22 ?_
  refine V_aload_0 (pc := 24) dX2_goOn_24 ?_
  refine V_gets (pc := 25) dX2_goOn_25 gf_X2_16 (by omega) ?_
  refine V_iload_3 (pc := 28) dX2_goOn_28 ?_
  refine V_aald_20 (pc := 29) dX2_goOn_29 (by omega) (by omega) ?_
  refine V_iload_2 (pc := 30) dX2_goOn_30 ?_
  refine V_iload_5 (pc := 31) dX2_goOn_31 ?_
  refine V_iast (pc := 33) dX2_goOn_33 sh_23 (by omega) (by omega) ?_
  refine V_aload_0 (pc := 34) dX2_goOn_34 ?_
  refine V_gets (pc := 35) dX2_goOn_35 gf_X2_19 (by omega) ?_
  refine V_iload_3 (pc := 38) dX2_goOn_38 ?_
  refine V_iconst (pc := 39) dX2_goOn_39 ?_
  refine V_isub (pc := 40) dX2_goOn_40 ?_
  refine V_iald (pc := 41) dX2_goOn_41 sh_21 (by omega) (by omega) (by rw [setI_tag (by decide)]) ?_
  refine V_iload_2 (pc := 42) dX2_goOn_42 ?_
  refine V_callN2p (pc := 43) dX2_goOn_43 rfl rfl kc_X5_hasBit kv_X5_233.2.2 (d - 1) (by omega) rfl (c_X5_hasBit (by omega) ⟨hr1.1, by omega⟩ (by omega)) ?_
  refine V_if_eq_b (pc := 46) 73 dX2_goOn_46 (by decide) (fun c_46 => ?_) (fun c_46 => ?_)
  · refine V_aload_0 (pc := 73) dX2_goOn_73 ?_
    refine V_gets (pc := 74) dX2_goOn_74 gf_X2_11 (by omega) ?_
    refine V_iload_3 (pc := 77) dX2_goOn_77 ?_
    refine V_aald_19 (pc := 78) dX2_goOn_78 (by omega) (by omega) ?_
    refine V_iload_2 (pc := 79) dX2_goOn_79 ?_
    refine V_iconst (pc := 80) dX2_goOn_80 ?_
    refine V_iload_6 (pc := 81) dX2_goOn_81 ?_
    refine V_aload_1 (pc := 83) dX2_goOn_83 ?_
    refine V_iload_5 (pc := 84) dX2_goOn_84 ?_
    refine V_aload_1 (pc := 86) dX2_goOn_86 ?_
    refine V_gets (pc := 87) dX2_goOn_87 gf_X2_93 (by omega) ?_
    refine V_iload_2 (pc := 90) dX2_goOn_90 ?_
    refine V_iald (pc := 91) dX2_goOn_91 sh_8 (by omega) (by omega) (hB1.a8 he) ?_
    refine V_iload_3 (pc := 92) dX2_goOn_92 ?_
    refine V_iload_4 (pc := 93) dX2_goOn_93 ?_
    refine V_callV4p (pc := 95) dX2_goOn_95 kv_X2_96 rc_3 (by omega) (d - 1) (by omega) rfl (c_X1_loss (by omega) hb hB1 hW b1 h2.1 (by omega) hw) ?_
    refine V_isub (pc := 98) dX2_goOn_98 ?_
    refine V_mmax (pc := 99) dX2_goOn_99 mth_max_X2_100 (by omega) (by omega) (by omega) ?_
    refine V_iast (pc := 102) dX2_goOn_102 sh_22 (by omega) (by omega) ?_
    refine V_vret (pc := 103) dX2_goOn_103 rfl ?_
    refine ⟨rfl, (hU.tr (RowUp_sh hU.1)).cong (fun f x hx => ?_)⟩
    unfold GON
    rw [if_neg (by rw [← hP2]; exact c_46), e1 1 e he.1, e1 2 e he.1, upA_cong e1 f x hx, upA_upA]
    simp [upA]
  · refine V_aload_0 (pc := 49) dX2_goOn_49 ?_
    refine V_iload_2 (pc := 50) dX2_goOn_50 ?_
    refine V_iload_3 (pc := 51) dX2_goOn_51 ?_
    refine V_aload_1 (pc := 52) dX2_goOn_52 ?_
    refine V_iload_6 (pc := 53) dX2_goOn_53 ?_
    refine V_iload_5 (pc := 55) dX2_goOn_55 ?_
    refine V_callV2p (pc := 57) dX2_goOn_57 kv_X2_82 rc_3 (by omega) (d - 1) (by omega) rfl (c_X1_risen (by omega) hb hB1 hW b1 (by omega)) ?_
    refine V_aload_1 (pc := 60) dX2_goOn_60 ?_
    refine V_gets (pc := 61) dX2_goOn_61 gf_X2_86 (by omega) ?_
    refine V_iload_5 (pc := 64) dX2_goOn_64 ?_
    refine V_iald (pc := 66) dX2_goOn_66 sh_5 (by omega) (by omega) (hB1.a5 b1) ?_
    refine V_callV4z (pc := 67) dX2_goOn_67 kv_X2_89 rc_18 (by omega) (d - 1) (by omega) rfl (c_X2_setShade (by omega) hj (by omega) (by omega) (by omega) (by omega) hU.1) (fun σ_67 h_67 => ?_)
    refine V_goto (pc := 70) 103 dX2_goOn_70 (by decide) ?_
    refine V_vret (pc := 103) dX2_goOn_103 rfl ?_
    refine ⟨rfl, (hU.tr h_67).cong (fun f x hx => ?_)⟩
    unfold GON
    rw [if_pos (by rw [← hP2]; exact c_46), e1 1 e he.1, upA_cong e1 f x hx, upA_upA]
    simp [upA]

set_option maxRecDepth 20000 in
set_option maxHeartbeats 1000000 in
theorem c_X2_perform {d : Nat} (hd : 3 ≤ d) {σ : MM} {j b e i y : Int} {B : BK} (hj : 0 ≤ j ∧ j < 2) (hb : 0 ≤ b ∧ b < 6) (hB : CB σ b B) (hW : WB B) (he : 0 ≤ e ∧ e < B 6 0) (hi : -1 ≤ i ∧ i < B 4 0) (hy : 0 ≤ y ∧ y < 21) (hr : 0 ≤ σ 21 j y ∧ σ 21 j y < p2 7) (b0 : 0 ≤ σ 22 (21 * j + y) e ∧ σ 22 (21 * j + y) e ≤ 60) : V yX2_perform cX2_perform 5 none d (QZ (fun σ' => RowUp σ σ' j y (PRF B (RS σ j y) e i))) 0 [some (vR 18 j), some (vR 3 b), some (vI e), some (vI i), some (vI y)] [] σ := by
  have hs := hW.s
  refine V_iload_3 (pc := 0) dX2_perform_0 ?_
  refine V_iconst (pc := 1) dX2_perform_1 ?_
  refine V_icmp_ne (pc := 2) 48 dX2_perform_2 (by decide) (by omega) (by omega) (fun c_2 => ?_) (fun c_2 => ?_)
  · refine V_aload_0 (pc := 48) dX2_perform_48 ?_
    refine V_aload_1 (pc := 49) dX2_perform_49 ?_
    refine V_iload_2 (pc := 50) dX2_perform_50 ?_
    refine V_iload_3 (pc := 51) dX2_perform_51 ?_
    refine V_iload_4 (pc := 52) dX2_perform_52 ?_
    refine V_callV4z (pc := 54) dX2_perform_54 kv_X2_45 rc_18 (by omega) (d - 1) (by omega) rfl (c_X2_inked (by omega) hj hb hB hW he (by omega) hy hr) (fun σ_54 h_54 => ?_)
    refine V_vret (pc := 57) dX2_perform_57 rfl ?_
    refine ⟨rfl, h_54.cong (fun f x hx => ?_)⟩
    unfold PRF
    rw [if_neg c_2]
  · refine V_aload_0 (pc := 5) dX2_perform_5 ?_
    refine V_gets (pc := 6) dX2_perform_6 gf_X2_11 (by omega) ?_
    refine V_iload_4 (pc := 9) dX2_perform_9 ?_
    refine V_aald_19 (pc := 11) dX2_perform_11 (by omega) (by omega) ?_
    refine V_iload_2 (pc := 12) dX2_perform_12 ?_
    refine V_iconst (pc := 13) dX2_perform_13 ?_
    refine V_aload_0 (pc := 14) dX2_perform_14 ?_
    refine V_gets (pc := 15) dX2_perform_15 gf_X2_11 (by omega) ?_
    refine V_iload_4 (pc := 18) dX2_perform_18 ?_
    refine V_aald_19 (pc := 20) dX2_perform_20 (by omega) (by omega) ?_
    refine V_iload_2 (pc := 21) dX2_perform_21 ?_
    refine V_iald (pc := 22) dX2_perform_22 sh_22 (by omega) (by omega) rfl ?_
    refine V_bipush (pc := 23) dX2_perform_23 (by decide) ?_
    refine V_isub (pc := 25) dX2_perform_25 ?_
    refine V_mmax (pc := 26) dX2_perform_26 mth_max_X2_100 (by omega) (by omega) (by omega) ?_
    refine V_iast (pc := 29) dX2_perform_29 sh_22 (by omega) (by omega) ?_
    refine V_aload_0 (pc := 30) dX2_perform_30 ?_
    refine V_gets (pc := 31) dX2_perform_31 gf_X2_19 (by omega) ?_
    refine V_iload_4 (pc := 34) dX2_perform_34 ?_
    refine V_dup2 (pc := 36) dX2_perform_36 rfl rfl ?_
    refine V_iald (pc := 37) dX2_perform_37 sh_21 (by omega) (by omega) (by rw [setI_tag (by decide)]) ?_
    refine V_iconst (pc := 38) dX2_perform_38 ?_
    refine V_iload_2 (pc := 39) dX2_perform_39 ?_
    refine V_ishl_1 (pc := 40) dX2_perform_40 (by omega) ?_
    refine V_iconst (pc := 41) dX2_perform_41 ?_
    refine V_ixor_m1 (pc := 42) dX2_perform_42 ?_
    refine V_iand_clr (pc := 43) dX2_perform_43 (by omega) (by omega) ?_
    refine V_iast (pc := 44) dX2_perform_44 sh_21 (by omega) (by omega) ?_
    refine V_goto (pc := 45) 57 dX2_perform_45 (by decide) ?_
    refine V_vret (pc := 57) dX2_perform_57 rfl ?_
    refine ⟨rfl, (RowUp_mk (clrB_in (n := 7) hr) (fun x hx => by rw [bt_clrB hr.1 he.1 hx])).cong (fun f x hx => ?_)⟩
    unfold PRF
    rw [if_pos c_2]
    rfl

set_option maxRecDepth 20000 in
set_option maxHeartbeats 1000000 in
theorem c_X2_rubOff {d : Nat} (hd : 1 ≤ d) {σ : MM} {j b y : Int} {B P : BK} (hj : 0 ≤ j ∧ j < 2) (hb : 0 ≤ b ∧ b < 6) (hB : CB σ b B) (hW : WB B) (hy : 1 ≤ y ∧ y < 21) (hr : 0 ≤ σ 21 j y ∧ σ 21 j y < p2 7) (hP : ∀ e : Int, 0 ≤ e ∧ e < B 6 0 → RS σ j (y - 1) 0 e = P 0 e ∧ (0 ≤ P 0 e ∧ P 0 e ≤ 60)) (hS : ∀ e : Int, 0 ≤ e ∧ e < B 6 0 → 0 ≤ RS σ j y 0 e ∧ RS σ j y 0 e ≤ 60) : V yX2_rubOff cX2_rubOff 5 none d (QZ (fun σ' => RowUp σ σ' j y (RUB1 B P y (B 6 0) (RS σ j y)))) 0 [some (vR 18 j), some (vR 3 b), some (vI y), none, none] [] σ := by
  have hs := hW.s
  have loop : ∀ i : Nat, i ≤ (B 6 0).toNat → ∀ σi, RowUp σ σi j y (RUB1 B P y i (RS σ j y)) → V yX2_rubOff cX2_rubOff 5 none d (QZ (fun σ' => RowUp σ σ' j y (RUB1 B P y (B 6 0) (RS σ j y)))) 2 [some (vR 18 j), some (vR 3 b), some (vI y), some (vI (i : Int)), none] [] σi := by
    refine up_ind (P := fun i : Nat => ∀ σi, RowUp σ σi j y (RUB1 B P y i (RS σ j y)) → V yX2_rubOff cX2_rubOff 5 none d (QZ (fun σ' => RowUp σ σ' j y (RUB1 B P y (B 6 0) (RS σ j y)))) 2 [some (vR 18 j), some (vR 3 b), some (vI y), some (vI (i : Int)), none] [] σi) ?_ ?_
    · intro σi hU
      have hBi := hU.2.2.CB hB
      refine V_iload_3 (pc := 2) dX2_rubOff_2 ?_
      refine V_aload_1 (pc := 3) dX2_rubOff_3 ?_
      refine V_geti (pc := 4) dX2_rubOff_4 gf_X2_37 (by omega) hBi.s6 ?_
      refine V_icmp_ge (pc := 7) 103 dX2_rubOff_7 (by decide) (by omega) (by omega) (fun c_7 => ?_) (fun c_7 => ?_)
      · refine V_vret (pc := 103) dX2_rubOff_103 rfl ?_
        exact ⟨rfl, by rw [show (B 6 0) = (((B 6 0).toNat : Nat) : Int) by omega]; exact hU⟩
      · exact absurd c_7 (by omega)
    · intro i hi ih σi hU
      have hBi := hU.2.2.CB hB
      have hF := FAC_in hs i
      have hrow := hU.2.2.row (j2 := j) (y2 := y - 1) (by omega) (by omega) (by omega)
      have r0 : ∀ e : Int, 0 ≤ e ∧ e < B 6 0 → σi 22 (21 * j + (y - 1)) e = P 0 e := fun e he => (congrFun (congrFun hrow.1 0) e).trans (hP e he).1
      have ri : σi 22 (21 * j + y) i = RS σ j y 0 i := (hU.2.1 0 i (by omega)).trans (RUB1_at 0 (Int.le_refl _))
      have h1 := hW.e (i := (i : Int)) (by omega)
      have p1 := (hP i (by omega)).2
      have s1 := hS i (by omega)
      have p2 : FAC B i ≠ -1 → 0 ≤ P 0 (FAC B i) ∧ P 0 (FAC B i) ≤ 60 := fun q => (hP (FAC B i) (by omega)).2
      refine V_iload_3 (pc := 2) dX2_rubOff_2 ?_
      refine V_aload_1 (pc := 3) dX2_rubOff_3 ?_
      refine V_geti (pc := 4) dX2_rubOff_4 gf_X2_37 (by omega) hBi.s6 ?_
      refine V_icmp_ge (pc := 7) 103 dX2_rubOff_7 (by decide) (by omega) (by omega) (fun c_7 => ?_) (fun c_7 => ?_)
      · exact absurd c_7 (by omega)
      · refine V_aload_1 (pc := 10) dX2_rubOff_10 ?_
        refine V_gets (pc := 11) dX2_rubOff_11 gf_X2_105 (by omega) ?_
        refine V_iload_3 (pc := 14) dX2_rubOff_14 ?_
        refine V_iald (pc := 15) dX2_rubOff_15 sh_13 (by omega) (by omega) (hBi.a13 (by omega)) ?_
        refine V_istore_4 (pc := 16) dX2_rubOff_16 ?_
        refine V_iload_4 (pc := 18) dX2_rubOff_18 ?_
        refine V_iconst (pc := 20) dX2_rubOff_20 ?_
        refine V_icmp_eq (pc := 21) 97 dX2_rubOff_21 (by decide) (by omega) (by omega) (fun c_21 => ?_) (fun c_21 => ?_)
        · refine V_iinc_3 (pc := 97) dX2_rubOff_97 ?_
          refine V_goto (pc := 100) 2 dX2_rubOff_100 (by decide) ?_
          refine V.sub (by simp only [subL, Option.some.injEq, Sum.inl.injEq, reduceCtorEq, true_or, or_true, false_or, true_and, and_true]; omega) (ih σi (hU.cong (fun f x hx => RUB1_no (fun q => q.1 c_21) f x)))
        · refine V_aload_1 (pc := 24) dX2_rubOff_24 ?_
          refine V_iload_3 (pc := 25) dX2_rubOff_25 ?_
          refine V_iload_2 (pc := 26) dX2_rubOff_26 ?_
          refine V_iconst (pc := 27) dX2_rubOff_27 ?_
          refine V_isub (pc := 28) dX2_rubOff_28 ?_
          refine V_callV2p (pc := 29) dX2_rubOff_29 kv_X2_75 rc_3 (by omega) (d - 1) (by omega) rfl (c_X1_isThere (by omega) hb hBi hW (by omega) (by omega)) ?_
          refine V_if_eq_b (pc := 32) 97 dX2_rubOff_32 (by decide) (fun c_32 => ?_) (fun c_32 => ?_)
          · refine V_iinc_3 (pc := 97) dX2_rubOff_97 ?_
            refine V_goto (pc := 100) 2 dX2_rubOff_100 (by decide) ?_
            refine V.sub (by simp only [subL, Option.some.injEq, Sum.inl.injEq, reduceCtorEq, true_or, or_true, false_or, true_and, and_true]; omega) (ih σi (hU.cong (fun f x hx => RUB1_no (fun q => c_32 q.2.1) f x)))
          · refine V_aload_1 (pc := 35) dX2_rubOff_35 ?_
            refine V_iload_4 (pc := 36) dX2_rubOff_36 ?_
            refine V_iload_2 (pc := 38) dX2_rubOff_38 ?_
            refine V_iconst (pc := 39) dX2_rubOff_39 ?_
            refine V_isub (pc := 40) dX2_rubOff_40 ?_
            refine V_callV2p (pc := 41) dX2_rubOff_41 kv_X2_75 rc_3 (by omega) (d - 1) (by omega) rfl (c_X1_isThere (by omega) hb hBi hW (by omega) (by omega)) ?_
            refine V_if_eq_b (pc := 44) 97 dX2_rubOff_44 (by decide) (fun c_44 => ?_) (fun c_44 => ?_)
            · refine V_iinc_3 (pc := 97) dX2_rubOff_97 ?_
              refine V_goto (pc := 100) 2 dX2_rubOff_100 (by decide) ?_
              refine V.sub (by simp only [subL, Option.some.injEq, Sum.inl.injEq, reduceCtorEq, true_or, or_true, false_or, true_and, and_true]; omega) (ih σi (hU.cong (fun f x hx => RUB1_no (fun q => c_44 q.2.2.1) f x)))
            · refine V_aload_0 (pc := 47) dX2_rubOff_47 ?_
              refine V_gets (pc := 48) dX2_rubOff_48 gf_X2_11 (by omega) ?_
              refine V_iload_2 (pc := 51) dX2_rubOff_51 ?_
              refine V_iconst (pc := 52) dX2_rubOff_52 ?_
              refine V_isub (pc := 53) dX2_rubOff_53 ?_
              refine V_aald_19 (pc := 54) dX2_rubOff_54 (by omega) (by omega) ?_
              refine V_iload_4 (pc := 55) dX2_rubOff_55 ?_
              refine V_iald (pc := 57) dX2_rubOff_57 sh_22 (by omega) (by omega) (r0 (FAC B i) (by omega)) ?_
              refine V_aload_0 (pc := 58) dX2_rubOff_58 ?_
              refine V_gets (pc := 59) dX2_rubOff_59 gf_X2_11 (by omega) ?_
              refine V_iload_2 (pc := 62) dX2_rubOff_62 ?_
              refine V_iconst (pc := 63) dX2_rubOff_63 ?_
              refine V_isub (pc := 64) dX2_rubOff_64 ?_
              refine V_aald_19 (pc := 65) dX2_rubOff_65 (by omega) (by omega) ?_
              refine V_iload_3 (pc := 66) dX2_rubOff_66 ?_
              refine V_iald (pc := 67) dX2_rubOff_67 sh_22 (by omega) (by omega) (r0 i (by omega)) ?_
              refine V_isub (pc := 68) dX2_rubOff_68 ?_
              refine V_bipush (pc := 69) dX2_rubOff_69 (by decide) ?_
              refine V_icmp_lt (pc := 71) 97 dX2_rubOff_71 (by decide) (by omega) (by omega) (fun c_71 => ?_) (fun c_71 => ?_)
              · refine V_iinc_3 (pc := 97) dX2_rubOff_97 ?_
                refine V_goto (pc := 100) 2 dX2_rubOff_100 (by decide) ?_
                refine V.sub (by simp only [subL, Option.some.injEq, Sum.inl.injEq, reduceCtorEq, true_or, or_true, false_or, true_and, and_true]; omega) (ih σi (hU.cong (fun f x hx => RUB1_no (fun q => by have := q.2.2.2; omega) f x)))
              · refine V_aload_0 (pc := 74) dX2_rubOff_74 ?_
                refine V_gets (pc := 75) dX2_rubOff_75 gf_X2_11 (by omega) ?_
                refine V_iload_2 (pc := 78) dX2_rubOff_78 ?_
                refine V_aald_19 (pc := 79) dX2_rubOff_79 (by omega) (by omega) ?_
                refine V_iload_3 (pc := 80) dX2_rubOff_80 ?_
                refine V_bipush (pc := 81) dX2_rubOff_81 (by decide) ?_
                refine V_aload_0 (pc := 83) dX2_rubOff_83 ?_
                refine V_gets (pc := 84) dX2_rubOff_84 gf_X2_11 (by omega) ?_
                refine V_iload_2 (pc := 87) dX2_rubOff_87 ?_
                refine V_aald_19 (pc := 88) dX2_rubOff_88 (by omega) (by omega) ?_
                refine V_iload_3 (pc := 89) dX2_rubOff_89 ?_
                refine V_iald (pc := 90) dX2_rubOff_90 sh_22 (by omega) (by omega) ri ?_
                refine V_iconst (pc := 91) dX2_rubOff_91 ?_
                refine V_iadd (pc := 92) dX2_rubOff_92 ?_
                refine V_mmin (pc := 93) dX2_rubOff_93 mth_min_X2_108 (by omega) (by omega) (by omega) ?_
                refine V_iast (pc := 96) dX2_rubOff_96 sh_22 (by omega) (by omega) ?_
                refine V_iinc_3 (pc := 97) dX2_rubOff_97 ?_
                refine V_goto (pc := 100) 2 dX2_rubOff_100 (by decide) ?_
                refine V.sub (by simp only [subL, Option.some.injEq, Sum.inl.injEq, reduceCtorEq, true_or, or_true, false_or, true_and, and_true]; omega) (ih _ ((hU.tr (RowUp_sh (n := min 60 (RS σ j y 0 i + 1)) hU.1)).cong (fun f x hx => ?_)))
                rw [upA_cong hU.2.1 f x hx, hU.2.1 1 i (by omega), hU.2.1 2 i (by omega), RUB1_at 1 (Int.le_refl _), RUB1_at 2 (Int.le_refl _)]
                exact RUB1_yes ⟨c_21, c_32, c_44, by omega⟩ f x
  refine V_iconst (pc := 0) dX2_rubOff_0 ?_
  refine V_istore_3 (pc := 1) dX2_rubOff_1 ?_
  refine V.sub (by simp only [subL, Option.some.injEq, Sum.inl.injEq, reduceCtorEq, true_or, or_true, false_or, true_and, and_true]; rfl) (loop 0 (by omega) σ ⟨hr, fun f e he => (RUB1_0 f he).symm, Off.rf⟩)
