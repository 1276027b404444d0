theorem bw_sl1 {y : Int} (hy : y = 0 ∨ y = 1) : iN y <<< (iN 1 &&& 31) = iN (2 * y) := by
  rcases hy with rfl | rfl <;> decide +kernel
theorem bw_or2 {x y : Int} (hx : x = 0 ∨ x = 1) (hy : y = 0 ∨ y = 1) : iN x ||| iN (2 * y) = iN (x + 2 * y) := by
  rcases hx with rfl | rfl <;> rcases hy with rfl | rfl <;> decide +kernel

set_option maxRecDepth 20000 in
set_option maxHeartbeats 1000000 in
theorem c_X5_gets {d : Nat} (hd : 7 ≤ d) {σ : MM} {B : BK} {p o x y : Int} (hB : CB σ 1 B) (hW : WB B) (hp : IR p) (ho : IR o) (hx : IR x) (hy : IR y) : V yX5_gets cX5_gets 5 (some .int) d (QI (fun v σ' => v = q_gets B p o x y ∧ Keep σ σ')) 0 [some (vR 0 0), some (vI p), some (vI o), some (vI x), some (vI y)] [] σ := by
  have hs := hW.s
  refine V_aload_0 (pc := 0) dX5_gets_0 ?_
  refine V_iload_1 (pc := 1) dX5_gets_1 ?_
  refine V_iload_2 (pc := 2) dX5_gets_2 ?_
  refine V_callV2p (pc := 3) dX5_gets_3 kv_X5_271 rc_0 (by omega) (d - 1) (by omega) rfl (c_X5_noGame (by omega) hB hs (by omega) (by omega)) ?_
  refine V_if_ne_b (pc := 6) 26 dX5_gets_6 (by decide) (fun c_6 => ?_) (fun c_6 => ?_)
  · refine V_sipush (pc := 26) dX5_gets_26 (by decide) ?_
    refine V_iretI (pc := 29) dX5_gets_29 rfl ?_
    first | exact ⟨_, rfl, by unfold q_gets; rw [if_pos (by omega)], Keep.rf⟩ | exact ⟨_, rfl, by unfold q_gets; rw [if_neg (by omega), show (x + 2 * y) % 2 = x by omega, show (x + 2 * y) / 2 = y by omega], h_39.2.1⟩
  · refine V_aload_0 (pc := 9) dX5_gets_9 ?_
    refine V_iload_3 (pc := 10) dX5_gets_10 ?_
    refine V_callV1p (pc := 11) dX5_gets_11 kv_X5_268 rc_0 (by omega) (d - 1) (by omega) rfl (c_X5_noPart (by omega) (by omega)) ?_
    refine V_if_ne_b (pc := 14) 26 dX5_gets_14 (by decide) (fun c_14 => ?_) (fun c_14 => ?_)
    · refine V_sipush (pc := 26) dX5_gets_26 (by decide) ?_
      refine V_iretI (pc := 29) dX5_gets_29 rfl ?_
      first | exact ⟨_, rfl, by unfold q_gets; rw [if_pos (by omega)], Keep.rf⟩ | exact ⟨_, rfl, by unfold q_gets; rw [if_neg (by omega), show (x + 2 * y) % 2 = x by omega, show (x + 2 * y) / 2 = y by omega], h_39.2.1⟩
    · refine V_aload_0 (pc := 17) dX5_gets_17 ?_
      refine V_iload_4 (pc := 18) dX5_gets_18 ?_
      refine V_callV1p (pc := 20) dX5_gets_20 kv_X5_268 rc_0 (by omega) (d - 1) (by omega) rfl (c_X5_noPart (by omega) (by omega)) ?_
      refine V_if_eq_b (pc := 23) 30 dX5_gets_23 (by decide) (fun c_23 => ?_) (fun c_23 => ?_)
      · refine V_aload_0 (pc := 30) dX5_gets_30 ?_
        refine V_iload_1 (pc := 31) dX5_gets_31 ?_
        refine V_iload_2 (pc := 32) dX5_gets_32 ?_
        refine V_iload_3 (pc := 33) dX5_gets_33 ?_
        refine V_iload_4 (pc := 34) dX5_gets_34 ?_
        refine V_iconst (pc := 36) dX5_gets_36 ?_
        refine V_ishl (pc := 37) dX5_gets_37 (bw_sl1 (by omega)) ?_
        refine V_ior (pc := 38) dX5_gets_38 (bw_or2 (by omega) (by omega)) ?_
        refine V_callV3z (pc := 39) dX5_gets_39 kv_X5_274 rc_0 (by omega) (d - 1) (by omega) rfl (c_X5_turn (by omega) hB hW (by omega) (by omega) (by omega) (by omega)) (fun σ_39 h_39 => ?_)
        refine V_aload_0 (pc := 42) dX5_gets_42 ?_
        refine V_iload_1 (pc := 43) dX5_gets_43 ?_
        refine V_iload_3 (pc := 44) dX5_gets_44 ?_
        refine V_callV2p (pc := 45) dX5_gets_45 kv_X5_277 rc_0 (by omega) (d - 1) (by omega) rfl (c_X5_gain (by omega) (B' := TRN B p o ((x + 2 * y) % 2) ((x + 2 * y) / 2)) (h_39.2.1.CB (Or.inl rfl) hB) hW (WB_TRN hW) h_39.1.1 ⟨congrFun (TRN_0 (by decide)) _, congrFun (TRN_0 (by decide)) _⟩ (by omega) (by omega)) ?_
        refine V_iretI (pc := 48) dX5_gets_48 rfl ?_
        first | exact ⟨_, rfl, by unfold q_gets; rw [if_pos (by omega)], Keep.rf⟩ | exact ⟨_, rfl, by unfold q_gets; rw [if_neg (by omega), show (x + 2 * y) % 2 = x by omega, show (x + 2 * y) / 2 = y by omega], h_39.2.1⟩
      · refine V_sipush (pc := 26) dX5_gets_26 (by decide) ?_
        refine V_iretI (pc := 29) dX5_gets_29 rfl ?_
        first | exact ⟨_, rfl, by unfold q_gets; rw [if_pos (by omega)], Keep.rf⟩ | exact ⟨_, rfl, by unfold q_gets; rw [if_neg (by omega), show (x + 2 * y) % 2 = x by omega, show (x + 2 * y) / 2 = y by omega], h_39.2.1⟩

set_option maxRecDepth 20000 in
set_option maxHeartbeats 1000000 in
theorem c_X5_rests {d : Nat} (hd : 7 ≤ d) {σ : MM} {B : BK} {p o : Int} (hB : CB σ 1 B) (hW : WB B) (hp : IR p) (ho : IR o) : V yX5_rests cX5_rests 5 (some .int) d (QI (fun v σ' => v = q_rests B p o ∧ Keep σ σ')) 0 [some (vR 0 0), some (vI p), some (vI o), none, none] [] σ := by
  have hs := hW.s
  have e2 : p2 1 = 2 := rfl
  have h61 := hs.2.2.2.2.2.2.1.2
  have loop2 : (¬ ((p < 0 ∨ B 5 0 ≤ p) ∨ (o < 0 ∨ B 5 0 ≤ o) ∨ p = o)) → ∀ i : Nat, i ≤ 4 → ∀ σi, (∀ x : Int, 0 ≤ x ∧ x < 4 → σi 32 0 x = GAI B (TRN B p o (x % 2) (x / 2)) p (x % 2) ∧ σi 33 0 x = GAI B (TRN B p o (x % 2) (x / 2)) o (x / 2)) ∧ Keep σ σi → V yX5_rests cX5_rests 5 (some .int) d (QI (fun v σ' => v = q_rests B p o ∧ Keep σ σ')) 65 [some (vR 0 0), some (vI p), some (vI o), some (vI (bsN (fun c => bI (GAI B (TRN B p o (1 - c % 2) (c / 2)) p (1 - c % 2) ≤ GAI B (TRN B p o (c % 2) (c / 2)) p (c % 2) ∧ GAI B (TRN B p o (c % 2) (1 - c / 2)) o (1 - c / 2) ≤ GAI B (TRN B p o (c % 2) (c / 2)) o (c / 2))) i)), some (vI (i : Int))] [] σi := by
    intro hR
    refine up_ind (P := fun i : Nat => ∀ σi, (∀ x : Int, 0 ≤ x ∧ x < 4 → σi 32 0 x = GAI B (TRN B p o (x % 2) (x / 2)) p (x % 2) ∧ σi 33 0 x = GAI B (TRN B p o (x % 2) (x / 2)) o (x / 2)) ∧ Keep σ σi → V yX5_rests cX5_rests 5 (some .int) d (QI (fun v σ' => v = q_rests B p o ∧ Keep σ σ')) 65 [some (vR 0 0), some (vI p), some (vI o), some (vI (bsN (fun c => bI (GAI B (TRN B p o (1 - c % 2) (c / 2)) p (1 - c % 2) ≤ GAI B (TRN B p o (c % 2) (c / 2)) p (c % 2) ∧ GAI B (TRN B p o (c % 2) (1 - c / 2)) o (1 - c / 2) ≤ GAI B (TRN B p o (c % 2) (c / 2)) o (c / 2))) i)), some (vI (i : Int))] [] σi) ?_ ?_
    · intro σi hI
      refine V_iload_4 (pc := 65) dX5_rests_65 ?_
      refine V_iconst (pc := 67) dX5_rests_67 ?_
      refine V_icmp_ge (pc := 68) 122 dX5_rests_68 (by decide) (by omega) (by omega) (fun c_68 => ?_) (fun c_68 => ?_)
      · refine V_iload_3 (pc := 122) dX5_rests_122 ?_
        refine V_iretI (pc := 123) dX5_rests_123 rfl ?_
        exact ⟨_, rfl, by unfold q_rests; rw [if_neg hR], hI.2⟩
      · exact absurd c_68 (by omega)
    · intro i hi ih2 σi hI
      have hi4 : 0 ≤ (i : Int) ∧ (i : Int) < 4 := by omega
      have hq1 : 0 ≤ PFA i ∧ PFA i < 4 := by unfold PFA; split <;> omega
      have hq2 : 0 ≤ (if (i : Int) < 2 then (i : Int) + 2 else i - 2) ∧ (if (i : Int) < 2 then (i : Int) + 2 else i - 2) < 4 := by split <;> omega
      have r1 : PFA i % 2 = 1 - (i : Int) % 2 ∧ PFA i / 2 = (i : Int) / 2 := by unfold PFA; split <;> omega
      have r2 : (if (i : Int) < 2 then (i : Int) + 2 else i - 2) % 2 = (i : Int) % 2 ∧ (if (i : Int) < 2 then (i : Int) + 2 else i - 2) / 2 = 1 - (i : Int) / 2 := by split <;> omega
      have k1 := GAI_in B (TRN B p o ((i : Int) % 2) ((i : Int) / 2)) p ((i : Int) % 2) h61 (by omega)
      have k2 := GAI_in B (TRN B p o ((i : Int) % 2) ((i : Int) / 2)) o ((i : Int) / 2) h61 (by omega)
      have k3 := GAI_in B (TRN B p o (PFA i % 2) (PFA i / 2)) p (PFA i % 2) h61 (by omega)
      have k4 := GAI_in B (TRN B p o ((if (i : Int) < 2 then (i : Int) + 2 else i - 2) % 2) ((if (i : Int) < 2 then (i : Int) + 2 else i - 2) / 2)) o ((if (i : Int) < 2 then (i : Int) + 2 else i - 2) / 2) h61 (by omega)
      have hb := bsI_in (fun c => (GAI B (TRN B p o (1 - c % 2) (c / 2)) p (1 - c % 2) ≤ GAI B (TRN B p o (c % 2) (c / 2)) p (c % 2) ∧ GAI B (TRN B p o (c % 2) (1 - c / 2)) o (1 - c / 2) ≤ GAI B (TRN B p o (c % 2) (c / 2)) o (c / 2))) i
      have hS := bsN_S (fun c => bI (GAI B (TRN B p o (1 - c % 2) (c / 2)) p (1 - c % 2) ≤ GAI B (TRN B p o (c % 2) (c / 2)) p (c % 2) ∧ GAI B (TRN B p o (c % 2) (1 - c / 2)) o (1 - c / 2) ≤ GAI B (TRN B p o (c % 2) (c / 2)) o (c / 2))) i
      rw [r1.1, r1.2] at k3
      rw [r2.1, r2.2] at k4
      have v1 := (hI.1 _ hq1).1
      have v2 := (hI.1 _ hq2).2
      rw [r1.1, r1.2] at v1
      rw [r2.1, r2.2] at v2
      refine V_iload_4 (pc := 65) dX5_rests_65 ?_
      refine V_iconst (pc := 67) dX5_rests_67 ?_
      refine V_icmp_ge (pc := 68) 122 dX5_rests_68 (by decide) (by omega) (by omega) (fun c_68 => ?_) (fun c_68 => ?_)
      · exact absurd c_68 (by omega)
      · refine V_aload_0 (pc := 71) dX5_rests_71 ?_
        refine V_getc (pc := 72) dX5_rests_72 gf_X5_62 (by omega) ?_
        refine V_iload_4 (pc := 75) dX5_rests_75 ?_
        refine V_iald (pc := 77) dX5_rests_77 sh_32 (by omega) (by omega) (hI.1 i (by omega)).1 ?_
        refine V_aload_0 (pc := 78) dX5_rests_78 ?_
        refine V_getc (pc := 79) dX5_rests_79 gf_X5_62 (by omega) ?_
        refine V_iload_4 (pc := 82) dX5_rests_82 ?_
        refine V_iconst (pc := 84) dX5_rests_84 ?_
        refine V_ixor (pc := 85) dX5_rests_85 (bw_xc hi4).1 ?_
        refine V_iald (pc := 86) dX5_rests_86 sh_32 (by omega) (by omega) v1 ?_
        refine V_icmp_lt (pc := 87) 116 dX5_rests_87 (by decide) (by omega) (by omega) (fun c_87 => ?_) (fun c_87 => ?_)
        · refine V_iinc_4 (pc := 116) dX5_rests_116 ?_
          refine V_goto (pc := 119) 65 dX5_rests_119 (by decide) ?_
          refine V.sub (by simp only [subL, Option.some.injEq, Sum.inl.injEq, Sum.inr.injEq, reduceCtorEq, true_or, or_true, false_or, true_and, and_true]; first | (rw [hS, bI_t (by omega)]; omega) | (rw [hS, bI_f (by omega)]; omega)) (ih2 _ hI)
        · refine V_aload_0 (pc := 90) dX5_rests_90 ?_
          refine V_getc (pc := 91) dX5_rests_91 gf_X5_65 (by omega) ?_
          refine V_iload_4 (pc := 94) dX5_rests_94 ?_
          refine V_iald (pc := 96) dX5_rests_96 sh_33 (by omega) (by omega) (hI.1 i (by omega)).2 ?_
          refine V_aload_0 (pc := 97) dX5_rests_97 ?_
          refine V_getc (pc := 98) dX5_rests_98 gf_X5_65 (by omega) ?_
          refine V_iload_4 (pc := 101) dX5_rests_101 ?_
          refine V_iconst (pc := 103) dX5_rests_103 ?_
          refine V_ixor (pc := 104) dX5_rests_104 (bw_xc hi4).2 ?_
          refine V_iald (pc := 105) dX5_rests_105 sh_33 (by omega) (by omega) v2 ?_
          refine V_icmp_lt (pc := 106) 116 dX5_rests_106 (by decide) (by omega) (by omega) (fun c_106 => ?_) (fun c_106 => ?_)
          · refine V_iinc_4 (pc := 116) dX5_rests_116 ?_
            refine V_goto (pc := 119) 65 dX5_rests_119 (by decide) ?_
            refine V.sub (by simp only [subL, Option.some.injEq, Sum.inl.injEq, Sum.inr.injEq, reduceCtorEq, true_or, or_true, false_or, true_and, and_true]; first | (rw [hS, bI_t (by omega)]; omega) | (rw [hS, bI_f (by omega)]; omega)) (ih2 _ hI)
          · refine V_iload_3 (pc := 109) dX5_rests_109 ?_
            refine V_iconst (pc := 110) dX5_rests_110 ?_
            refine V_iload_4 (pc := 111) dX5_rests_111 ?_
            refine V_ishl_1 (pc := 113) dX5_rests_113 (by omega) ?_
            refine V_ior_add (pc := 114) dX5_rests_114 (by assumption) ?_
            refine V_istore_3 (pc := 115) dX5_rests_115 ?_
            refine V_iinc_4 (pc := 116) dX5_rests_116 ?_
            refine V_goto (pc := 119) 65 dX5_rests_119 (by decide) ?_
            refine V.sub (by simp only [subL, Option.some.injEq, Sum.inl.injEq, Sum.inr.injEq, reduceCtorEq, true_or, or_true, false_or, true_and, and_true]; first | (rw [hS, bI_t (by omega)]; omega) | (rw [hS, bI_f (by omega)]; omega)) (ih2 _ hI)
  have loop1 : (¬ ((p < 0 ∨ B 5 0 ≤ p) ∨ (o < 0 ∨ B 5 0 ≤ o) ∨ p = o)) → ∀ i : Nat, i ≤ 4 → ∀ σi, (∀ x : Int, 0 ≤ x ∧ x < i → σi 32 0 x = GAI B (TRN B p o (x % 2) (x / 2)) p (x % 2) ∧ σi 33 0 x = GAI B (TRN B p o (x % 2) (x / 2)) o (x / 2)) ∧ Keep σ σi → V yX5_rests cX5_rests 5 (some .int) d (QI (fun v σ' => v = q_rests B p o ∧ Keep σ σ')) 14 [some (vR 0 0), some (vI p), some (vI o), some (vI (i : Int)), none] [] σi := by
    intro hR
    have loop2 := loop2 hR
    refine up_ind (P := fun i : Nat => ∀ σi, (∀ x : Int, 0 ≤ x ∧ x < i → σi 32 0 x = GAI B (TRN B p o (x % 2) (x / 2)) p (x % 2) ∧ σi 33 0 x = GAI B (TRN B p o (x % 2) (x / 2)) o (x / 2)) ∧ Keep σ σi → V yX5_rests cX5_rests 5 (some .int) d (QI (fun v σ' => v = q_rests B p o ∧ Keep σ σ')) 14 [some (vR 0 0), some (vI p), some (vI o), some (vI (i : Int)), none] [] σi) ?_ ?_
    · intro σi hI
      refine V_iload_3 (pc := 14) dX5_rests_14 ?_
      refine V_iconst (pc := 15) dX5_rests_15 ?_
      refine V_icmp_ge (pc := 16) 60 dX5_rests_16 (by decide) (by omega) (by omega) (fun c_16 => ?_) (fun c_16 => ?_)
      · refine V_iconst (pc := 60) dX5_rests_60 ?_
        refine V_istore_3 (pc := 61) dX5_rests_61 ?_
        refine V_iconst (pc := 62) dX5_rests_62 ?_
        refine V_istore_4 (pc := 63) dX5_rests_63 ?_
        refine V.sub (by simp only [subL, Option.some.injEq, Sum.inl.injEq, reduceCtorEq, true_or, or_true, false_or, true_and, and_true]; exact ⟨rfl, rfl⟩) (loop2 0 (by omega) σi hI)
      · exact absurd c_16 (by omega)
    · intro i hi ih σi hI
      refine V_iload_3 (pc := 14) dX5_rests_14 ?_
      refine V_iconst (pc := 15) dX5_rests_15 ?_
      refine V_icmp_ge (pc := 16) 60 dX5_rests_16 (by decide) (by omega) (by omega) (fun c_16 => ?_) (fun c_16 => ?_)
      · exact absurd c_16 (by omega)
      · refine V_aload_0 (pc := 19) dX5_rests_19 ?_
        refine V_iload_1 (pc := 20) dX5_rests_20 ?_
        refine V_iload_2 (pc := 21) dX5_rests_21 ?_
        refine V_iload_3 (pc := 22) dX5_rests_22 ?_
        refine V_callV3z (pc := 23) dX5_rests_23 kv_X5_274 rc_0 (by omega) (d - 1) (by omega) rfl (c_X5_turn (by omega) (hI.2.CB (Or.inl rfl) hB) hW (by omega) (by omega) (by omega) (by omega)) (fun σ_23 h_23 => ?_)
        refine V_aload_0 (pc := 26) dX5_rests_26 ?_
        refine V_getc (pc := 27) dX5_rests_27 gf_X5_62 (by omega) ?_
        refine V_iload_3 (pc := 30) dX5_rests_30 ?_
        refine V_aload_0 (pc := 31) dX5_rests_31 ?_
        refine V_iload_1 (pc := 32) dX5_rests_32 ?_
        refine V_iload_3 (pc := 33) dX5_rests_33 ?_
        refine V_iconst (pc := 34) dX5_rests_34 ?_
        refine V_iand_1 (pc := 35) dX5_rests_35 (by omega) ?_
        refine V_callV2p (pc := 36) dX5_rests_36 kv_X5_277 rc_0 (by omega) (d - 1) (by omega) rfl (c_X5_gain (by omega) (B' := TRN B p o ((i : Int) % 2) ((i : Int) / 2)) (h_23.2.1.CB (Or.inl rfl) (hI.2.CB (Or.inl rfl) hB)) hW (WB_TRN hW) h_23.1.1 ⟨congrFun (TRN_0 (by decide)) _, congrFun (TRN_0 (by decide)) _⟩ (by omega) (by omega)) ?_
        refine V_iast (pc := 39) dX5_rests_39 sh_32 (by omega) (by omega) ?_
        refine V_aload_0 (pc := 40) dX5_rests_40 ?_
        refine V_getc (pc := 41) dX5_rests_41 gf_X5_65 (by omega) ?_
        refine V_iload_3 (pc := 44) dX5_rests_44 ?_
        refine V_aload_0 (pc := 45) dX5_rests_45 ?_
        refine V_iload_2 (pc := 46) dX5_rests_46 ?_
        refine V_iload_3 (pc := 47) dX5_rests_47 ?_
        refine V_iconst (pc := 48) dX5_rests_48 ?_
        refine V_ishr_p (pc := 49) dX5_rests_49 (by omega) (by omega) ?_
        have hkk : ∀ {B' : BK} {v : Int}, CK σ_23 1 B' (bt 0) → CK (setI σ_23 32 0 i v) 1 B' (bt 0) := fun h => h
        refine V_callV2p (pc := 50) dX5_rests_50 kv_X5_277 rc_0 (by omega) (d - 1) (by omega) rfl (c_X5_gain (by omega) (B' := TRN B p o ((i : Int) % 2) ((i : Int) / 2)) ((hI.2.tr (h_23.2.1.tr (Keep.set (t := 32) (by decide)))).CB (Or.inl rfl) hB) hW (WB_TRN hW) (hkk (h_23.1.1)) ⟨congrFun (TRN_0 (by decide)) _, congrFun (TRN_0 (by decide)) _⟩ (by omega) (by rw [e2]; omega)) ?_
        refine V_iast (pc := 53) dX5_rests_53 sh_33 (by omega) (by omega) ?_
        refine V_iinc_3 (pc := 54) dX5_rests_54 ?_
        refine V_goto (pc := 57) 14 dX5_rests_57 (by decide) ?_
        rw [e2]
        refine V.sub (by simp only [subL, Option.some.injEq, Sum.inl.injEq, reduceCtorEq, true_or, or_true, false_or, true_and, and_true]; omega) (ih _ ⟨fun x hx => ?_, hI.2.tr (h_23.2.1.tr ((Keep.set (t := 32) (by decide)).tr (Keep.set (t := 33) (by decide))))⟩)
        by_cases q : x = i
        · subst q; simp [setI_at]
        · have h1 := hI.1 x (by omega)
          simp only [setI_at, q, and_false, if_false, h_23.2.2 32 (by omega), h_23.2.2 33 (by omega)]
          exact h1
  refine V_aload_0 (pc := 0) dX5_rests_0 ?_
  refine V_iload_1 (pc := 1) dX5_rests_1 ?_
  refine V_iload_2 (pc := 2) dX5_rests_2 ?_
  refine V_callV2p (pc := 3) dX5_rests_3 kv_X5_271 rc_0 (by omega) (d - 1) (by omega) rfl (c_X5_noGame (by omega) hB hs (by omega) (by omega)) ?_
  refine V_if_eq_b (pc := 6) 12 dX5_rests_6 (by decide) (fun c_6 => ?_) (fun c_6 => ?_)
  · refine V_iconst (pc := 12) dX5_rests_12 ?_
    refine V_istore_3 (pc := 13) dX5_rests_13 ?_
    exact loop1 (by omega) 0 (by omega) σ ⟨fun x hx => by omega, Keep.rf⟩
  · refine V_bipush (pc := 9) dX5_rests_9 (by decide) ?_
    refine V_iretI (pc := 11) dX5_rests_11 rfl ?_
    exact ⟨_, rfl, by unfold q_rests; rw [if_pos (by omega)], Keep.rf⟩
