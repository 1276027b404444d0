set_option maxRecDepth 20000 in
set_option maxHeartbeats 1000000 in
theorem c_X2_pass {d : Nat} (hd : 4 ≤ d) {σ : MM} {j b y w : Int} {B P : BK} (hj : 0 ≤ j ∧ j < 2) (hb : 0 ≤ b ∧ b < 6) (hB : CB σ b B) (hW : WB B) (hy : 0 ≤ y ∧ y < 21) (hw : w = 0 ∨ w = 1) (hP : 1 ≤ y → RK σ j (y - 1) B P ∧ TB B (y - 1) P) : V yX2_pass cX2_pass 5 none d (QZ (fun σ' => RK σ' j y B (PAS B P y w) ∧ Off j y σ σ')) 0 [some (vR 18 j), some (vR 3 b), some (vI y), some (vI w), none] [] σ := by
  have e7 : p2 7 = 128 := rfl
  have hs := hW.s
  have hTBA := TB_BAS (B := B) (P := P) hW (fun q => (hP q).2) hw
  have loop2 : ∀ i : Nat, i ≤ (B 17 0).toNat → ∀ σi, RK σi j y B (ACT B y (RUB B P y (BAS B P y w)) i) → Off j y σ σi → V yX2_pass cX2_pass 5 none d (QZ (fun σ' => RK σ' j y B (PAS B P y w) ∧ Off j y σ σ')) 112 [some (vR 18 j), some (vR 3 b), some (vI y), some (vI w), some (vI (i : Int))] [] σi := by
    refine up_ind (P := fun i : Nat => ∀ σi, RK σi j y B (ACT B y (RUB B P y (BAS B P y w)) i) → Off j y σ σi → V yX2_pass cX2_pass 5 none d (QZ (fun σ' => RK σ' j y B (PAS B P y w) ∧ Off j y σ σ')) 112 [some (vR 18 j), some (vR 3 b), some (vI y), some (vI w), some (vI (i : Int))] [] σi) ?_ ?_
    · intro σi hK hO
      have hBi := hO.CB hB
      refine V_iload_4 (pc := 112) dX2_pass_112 ?_
      refine V_aload_1 (pc := 114) dX2_pass_114 ?_
      refine V_gets (pc := 115) dX2_pass_115 gf_X2_60 (by omega) ?_
      refine V_geti (pc := 118) dX2_pass_118 gf_X2_64 (by omega) hBi.dn ?_
      refine V_icmp_ge (pc := 121) 188 dX2_pass_121 (by decide) (by omega) (by omega) (fun c_121 => ?_) (fun c_121 => ?_)
      · refine V_vret (pc := 188) dX2_pass_188 rfl ?_
        exact ⟨rfl, by unfold PAS; exact hK, hO⟩
      · exact absurd c_121 (by omega)
    · intro i hi ih σi hK hO
      have hBi := hO.CB hB
      have ha := hW.a (i := (i : Int)) (by omega)
      have hTA := TB_ACT hW (TB_RUB (P := P) (y2 := y) hTBA) i (by omega)
      refine V_iload_4 (pc := 112) dX2_pass_112 ?_
      refine V_aload_1 (pc := 114) dX2_pass_114 ?_
      refine V_gets (pc := 115) dX2_pass_115 gf_X2_60 (by omega) ?_
      refine V_geti (pc := 118) dX2_pass_118 gf_X2_64 (by omega) hBi.dn ?_
      refine V_icmp_ge (pc := 121) 188 dX2_pass_121 (by decide) (by omega) (by omega) (fun c_121 => ?_) (fun c_121 => ?_)
      · exact absurd c_121 (by omega)
      · refine V_aload_1 (pc := 124) dX2_pass_124 ?_
        refine V_gets (pc := 125) dX2_pass_125 gf_X2_60 (by omega) ?_
        refine V_gets (pc := 128) dX2_pass_128 gf_X2_69 (by omega) ?_
        refine V_iload_4 (pc := 131) dX2_pass_131 ?_
        refine V_iald (pc := 133) dX2_pass_133 sh_17 (by omega) (by omega) (hBi.a17 (by omega)) ?_
        refine V_iload_2 (pc := 134) dX2_pass_134 ?_
        refine V_icmp_ne (pc := 135) 182 dX2_pass_135 (by decide) (by omega) (by omega) (fun c_135 => ?_) (fun c_135 => ?_)
        · refine V_iinc_4 (pc := 182) dX2_pass_182 ?_
          refine V_goto (pc := 185) 112 dX2_pass_185 (by decide) ?_
          refine V.sub (by simp only [subL, Option.some.injEq, Sum.inl.injEq, reduceCtorEq, true_or, or_true, false_or, true_and, and_true]; omega) (ih σi (by rw [ACT, if_neg (fun q => c_135 q.1)]; exact hK) hO)
        · refine V_aload_1 (pc := 138) dX2_pass_138 ?_
          refine V_aload_1 (pc := 139) dX2_pass_139 ?_
          refine V_gets (pc := 140) dX2_pass_140 gf_X2_60 (by omega) ?_
          refine V_gets (pc := 143) dX2_pass_143 gf_X2_72 (by omega) ?_
          refine V_iload_4 (pc := 146) dX2_pass_146 ?_
          refine V_iald (pc := 148) dX2_pass_148 sh_15 (by omega) (by omega) (hBi.a15 (by omega)) ?_
          refine V_iload_2 (pc := 149) dX2_pass_149 ?_
          refine V_callV2p (pc := 150) dX2_pass_150 kv_X2_75 rc_3 (by omega) (d - 1) (by omega) rfl (c_X1_isThere (by omega) hb hBi hW ha.1 (by omega)) ?_
          refine V_if_eq_b (pc := 153) 182 dX2_pass_153 (by decide) (fun c_153 => ?_) (fun c_153 => ?_)
          · refine V_iinc_4 (pc := 182) dX2_pass_182 ?_
            refine V_goto (pc := 185) 112 dX2_pass_185 (by decide) ?_
            refine V.sub (by simp only [subL, Option.some.injEq, Sum.inl.injEq, reduceCtorEq, true_or, or_true, false_or, true_and, and_true]; omega) (ih σi (by rw [ACT, if_neg (fun q => c_153 q.2)]; exact hK) hO)
          · refine V_aload_0 (pc := 156) dX2_pass_156 ?_
            refine V_aload_1 (pc := 157) dX2_pass_157 ?_
            refine V_aload_1 (pc := 158) dX2_pass_158 ?_
            refine V_gets (pc := 159) dX2_pass_159 gf_X2_60 (by omega) ?_
            refine V_gets (pc := 162) dX2_pass_162 gf_X2_72 (by omega) ?_
            refine V_iload_4 (pc := 165) dX2_pass_165 ?_
            refine V_iald (pc := 167) dX2_pass_167 sh_15 (by omega) (by omega) (hBi.a15 (by omega)) ?_
            refine V_aload_1 (pc := 168) dX2_pass_168 ?_
            refine V_gets (pc := 169) dX2_pass_169 gf_X2_60 (by omega) ?_
            refine V_gets (pc := 172) dX2_pass_172 gf_X2_78 (by omega) ?_
            refine V_iload_4 (pc := 175) dX2_pass_175 ?_
            refine V_iald (pc := 177) dX2_pass_177 sh_16 (by omega) (by omega) (hBi.a16 (by omega)) ?_
            refine V_iload_2 (pc := 178) dX2_pass_178 ?_
            refine V_callV4z (pc := 179) dX2_pass_179 kv_X2_79 rc_18 (by omega) (d - 1) (by omega) rfl (c_X2_perform (by omega) hj hb hBi hW ha.1 ha.2.1 hy hK.1 (by have q9 := (hK.2.1 _ ha.1).1; have q8 := (hTA _ ha.1).1; rw [RS_0] at q9; omega)) (fun σ_179 h_179 => ?_)
            refine V_iinc_4 (pc := 182) dX2_pass_182 ?_
            refine V_goto (pc := 185) 112 dX2_pass_185 (by decide) ?_
            refine V.sub (by simp only [subL, Option.some.injEq, Sum.inl.injEq, reduceCtorEq, true_or, or_true, false_or, true_and, and_true]; omega) (ih _ (by rw [ACT, if_pos ⟨c_135, c_153⟩]; exact RK_prf hK ha.1 h_179) (hO.tr h_179.2.2))
  have loop1 : ∀ i : Nat, i ≤ (B 6 0).toNat → ∀ σi, LAY σ σi j y B (BAS B P y w) i → V yX2_pass cX2_pass 5 none d (QZ (fun σ' => RK σ' j y B (PAS B P y w) ∧ Off j y σ σ')) 10 [some (vR 18 j), some (vR 3 b), some (vI y), some (vI w), some (vI (i : Int))] [] σi := by
    refine up_ind (P := fun i : Nat => ∀ σi, LAY σ σi j y B (BAS B P y w) i → V yX2_pass cX2_pass 5 none d (QZ (fun σ' => RK σ' j y B (PAS B P y w) ∧ Off j y σ σ')) 10 [some (vR 18 j), some (vR 3 b), some (vI y), some (vI w), some (vI (i : Int))] [] σi) ?_ ?_
    · intro σi hL
      have hO := hL.1
      have hBi := hO.CB hB
      have hLL : RK σi j y B (BAS B P y w) := RK_of (by rw [show (B 6 0) = (((B 6 0).toNat : Nat) : Int) by omega]; exact hL)
      refine V_iload_4 (pc := 10) dX2_pass_10 ?_
      refine V_aload_1 (pc := 12) dX2_pass_12 ?_
      refine V_geti (pc := 13) dX2_pass_13 gf_X2_37 (by omega) hBi.s6 ?_
      refine V_icmp_ge (pc := 16) 91 dX2_pass_16 (by decide) (by omega) (by omega) (fun c_16 => ?_) (fun c_16 => ?_)
      · refine V_aload_1 (pc := 91) dX2_pass_91 ?_
        refine V_geti (pc := 92) dX2_pass_92 gf_X2_53 (by omega) hBi.s2 ?_
        refine V_iconst (pc := 95) dX2_pass_95 ?_
        refine V_icmp_ne (pc := 96) 109 dX2_pass_96 (by decide) (by omega) (by omega) (fun c_96 => ?_) (fun c_96 => ?_)
        · refine V_iconst (pc := 109) dX2_pass_109 ?_
          refine V_istore_4 (pc := 110) dX2_pass_110 ?_
          refine V.sub (by simp only [subL, Option.some.injEq, Sum.inl.injEq, reduceCtorEq, true_or, or_true, false_or, true_and, and_true]; rfl) (loop2 0 (by omega) σi (by rw [ACT]; exact (show RK _ j y B (RUB B P y (BAS B P y w)) from (by unfold RUB; rw [if_neg (fun q => c_96 q.1)]; exact hLL))) hO)
        · refine V_iload_2 (pc := 99) dX2_pass_99 ?_
          refine V_if_le (pc := 100) 109 dX2_pass_100 (by decide) (by omega) (fun c_100 => ?_) (fun c_100 => ?_)
          · refine V_iconst (pc := 109) dX2_pass_109 ?_
            refine V_istore_4 (pc := 110) dX2_pass_110 ?_
            refine V.sub (by simp only [subL, Option.some.injEq, Sum.inl.injEq, reduceCtorEq, true_or, or_true, false_or, true_and, and_true]; rfl) (loop2 0 (by omega) σi (by rw [ACT]; exact (show RK _ j y B (RUB B P y (BAS B P y w)) from (by unfold RUB; rw [if_neg (fun q => by omega)]; exact hLL))) hO)
          · refine V_aload_0 (pc := 103) dX2_pass_103 ?_
            refine V_aload_1 (pc := 104) dX2_pass_104 ?_
            refine V_iload_2 (pc := 105) dX2_pass_105 ?_
            refine V_callV2z (pc := 106) dX2_pass_106 kv_X2_56 rc_18 (by omega) (d - 1) (by omega) rfl (c_X2_rubOff (by omega) (P := P) hj hb hBi hW (by omega) hLL.1 (fun e he => ⟨(congrFun (congrFun (hO.row (j2 := j) (y2 := y - 1) (by omega) (by omega) (by omega)).1 0) e).trans ((hP (by omega)).1.2.1 e he).1, ((hP (by omega)).2 e he).1⟩) (fun e he => by rw [(hLL.2.1 e he).1]; exact (hTBA e he).1)) (fun σ_106 h_106 => ?_)
            refine V_iconst (pc := 109) dX2_pass_109 ?_
            refine V_istore_4 (pc := 110) dX2_pass_110 ?_
            refine V.sub (by simp only [subL, Option.some.injEq, Sum.inl.injEq, reduceCtorEq, true_or, or_true, false_or, true_and, and_true]; rfl) (loop2 0 (by omega) σ_106 (by rw [ACT]; exact (show RK _ j y B (RUB B P y (BAS B P y w)) from (by unfold RUB; rw [if_pos ⟨c_96, by omega⟩]; exact RK_rub hLL h_106))) (hO.tr h_106.2.2))
      · exact absurd c_16 (by omega)
    · intro i hi ih σi hL
      have hBi := hL.1.CB hB
      have h1 := hW.e (i := (i : Int)) (by omega)
      refine V_iload_4 (pc := 10) dX2_pass_10 ?_
      refine V_aload_1 (pc := 12) dX2_pass_12 ?_
      refine V_geti (pc := 13) dX2_pass_13 gf_X2_37 (by omega) hBi.s6 ?_
      refine V_icmp_ge (pc := 16) 91 dX2_pass_16 (by decide) (by omega) (by omega) (fun c_16 => ?_) (fun c_16 => ?_)
      · exact absurd c_16 (by omega)
      · refine V_aload_1 (pc := 19) dX2_pass_19 ?_
        refine V_gets (pc := 20) dX2_pass_20 gf_X2_40 (by omega) ?_
        refine V_iload_4 (pc := 23) dX2_pass_23 ?_
        refine V_iald (pc := 25) dX2_pass_25 sh_10 (by omega) (by omega) (hBi.a10 (by omega)) ?_
        refine V_iload_2 (pc := 26) dX2_pass_26 ?_
        refine V_icmp_ne (pc := 27) 48 dX2_pass_27 (by decide) (by omega) (by omega) (fun c_27 => ?_) (fun c_27 => ?_)
        · refine V_aload_1 (pc := 48) dX2_pass_48 ?_
          refine V_gets (pc := 49) dX2_pass_49 gf_X2_40 (by omega) ?_
          refine V_iload_4 (pc := 52) dX2_pass_52 ?_
          refine V_iald (pc := 54) dX2_pass_54 sh_10 (by omega) (by omega) (hBi.a10 (by omega)) ?_
          refine V_iload_2 (pc := 55) dX2_pass_55 ?_
          refine V_icmp_ge (pc := 56) 75 dX2_pass_56 (by decide) (by omega) (by omega) (fun c_56 => ?_) (fun c_56 => ?_)
          · refine V_aload_0 (pc := 75) dX2_pass_75 ?_
            refine V_gets (pc := 76) dX2_pass_76 gf_X2_11 (by omega) ?_
            refine V_iload_2 (pc := 79) dX2_pass_79 ?_
            refine V_aald_19 (pc := 80) dX2_pass_80 (by omega) (by omega) ?_
            refine V_iload_4 (pc := 81) dX2_pass_81 ?_
            refine V_iconst (pc := 83) dX2_pass_83 ?_
            refine V_iast (pc := 84) dX2_pass_84 sh_22 (by omega) (by omega) ?_
            refine V_iinc_4 (pc := 85) dX2_pass_85 ?_
            refine V_goto (pc := 88) 10 dX2_pass_88 (by decide) ?_
            refine V.sub (by simp only [subL, Option.some.injEq, Sum.inl.injEq, reduceCtorEq, true_or, or_true, false_or, true_and, and_true]; omega) (ih _ (LAY_step hL (by omega) (RowUp_sh hL.2.1) (by unfold BAS; rw [if_neg c_27, if_neg (fun q => by omega)]) (fun q => absurd q (by omega)) (by unfold BAS; rw [if_neg c_27, if_neg (fun q => by omega)]; exact hL.2.2.2 i (Int.le_refl _) (by omega))))
          · refine V_iload_2 (pc := 59) dX2_pass_59 ?_
            refine V_if_le (pc := 60) 75 dX2_pass_60 (by decide) (by omega) (fun c_60 => ?_) (fun c_60 => ?_)
            · refine V_aload_0 (pc := 75) dX2_pass_75 ?_
              refine V_gets (pc := 76) dX2_pass_76 gf_X2_11 (by omega) ?_
              refine V_iload_2 (pc := 79) dX2_pass_79 ?_
              refine V_aald_19 (pc := 80) dX2_pass_80 (by omega) (by omega) ?_
              refine V_iload_4 (pc := 81) dX2_pass_81 ?_
              refine V_iconst (pc := 83) dX2_pass_83 ?_
              refine V_iast (pc := 84) dX2_pass_84 sh_22 (by omega) (by omega) ?_
              refine V_iinc_4 (pc := 85) dX2_pass_85 ?_
              refine V_goto (pc := 88) 10 dX2_pass_88 (by decide) ?_
              refine V.sub (by simp only [subL, Option.some.injEq, Sum.inl.injEq, reduceCtorEq, true_or, or_true, false_or, true_and, and_true]; omega) (ih _ (LAY_step hL (by omega) (RowUp_sh hL.2.1) (by unfold BAS; rw [if_neg c_27, if_neg (fun q => by omega)]) (fun q => absurd q (by omega)) (by unfold BAS; rw [if_neg c_27, if_neg (fun q => by omega)]; exact hL.2.2.2 i (Int.le_refl _) (by omega))))
            · have hr9 := hL.1.row (j2 := j) (y2 := y - 1) (by omega) (by omega) (by omega)
              have hq9 := fun q => (hP q).1.2.1 i (by omega)
              have ht9 := fun q => (hP q).2 i (by omega)
              have hz9 : RS σi j y 2 i = 0 := hL.2.2.2 i (Int.le_refl _) (by omega)
              have hf9 : ∀ f, BAS B P y w f i = GON B P i y w (fun _ _ => 0) f i := fun f => by unfold BAS; rw [if_neg c_27, if_pos ⟨by omega, by omega⟩]
              refine V_aload_0 (pc := 63) dX2_pass_63 ?_
              refine V_aload_1 (pc := 64) dX2_pass_64 ?_
              refine V_iload_4 (pc := 65) dX2_pass_65 ?_
              refine V_iload_2 (pc := 67) dX2_pass_67 ?_
              refine V_iload_3 (pc := 68) dX2_pass_68 ?_
              refine V_callV4z (pc := 69) dX2_pass_69 kv_X2_49 rc_18 (by omega) (d - 1) (by omega) rfl (c_X2_goOn (by omega) (P := P) hj hb hBi hW (by omega) (by omega) hw hL.2.1 (by rw [hr9.2]; exact (hP (by omega)).1.1) ((congrFun (congrFun hr9.1 0) i).trans (hq9 (by omega)).1) ((congrFun (congrFun hr9.1 1) i).trans ((hq9 (by omega)).2.2 (by omega))) ((congrFun (congrFun hr9.1 2) i).trans (hq9 (by omega)).2.1) (ht9 (by omega)).1 ((ht9 (by omega)).2.2 (by omega))) (fun σ_69 h_69 => ?_)
              refine V_goto (pc := 72) 85 dX2_pass_72 (by decide) ?_
              refine V_iinc_4 (pc := 85) dX2_pass_85 ?_
              refine V_goto (pc := 88) 10 dX2_pass_88 (by decide) ?_
              refine V.sub (by simp only [subL, Option.some.injEq, Sum.inl.injEq, reduceCtorEq, true_or, or_true, false_or, true_and, and_true]; omega) (ih σ_69 ?_)
              have h8 := h_69
              unfold GON at h8
              by_cases hp2 : P 2 i = 1
              · rw [if_pos hp2] at h8
                refine LAY_step hL (by omega) h8 ?_ (fun _ => ?_) ?_
                · rw [hf9 0]; unfold GON; rw [if_pos hp2]; exact (upA_at _ _ _ _ _).1.symm
                · rw [hf9 1]; unfold GON; rw [if_pos hp2]; exact (upA_at _ _ _ _ _).2.1.symm
                · rw [hf9 2]; unfold GON; rw [if_pos hp2]; exact (upA_at _ _ _ _ _).2.2.symm
              · rw [if_neg hp2] at h8
                refine LAY_step hL (by omega) h8 ?_ (fun _ => ?_) ?_
                · rw [hf9 0]; unfold GON; rw [if_neg hp2]; exact (upA_at _ _ _ _ _).1.symm
                · rw [hf9 1]; unfold GON; rw [if_neg hp2]; exact (upA_at _ _ _ _ _).2.1.symm
                · rw [hf9 2]; unfold GON; rw [if_neg hp2, hz9]; exact (upA_at _ _ _ _ _).2.2.symm
        · refine V_aload_0 (pc := 30) dX2_pass_30 ?_
          refine V_aload_1 (pc := 31) dX2_pass_31 ?_
          refine V_iload_4 (pc := 32) dX2_pass_32 ?_
          refine V_aload_1 (pc := 34) dX2_pass_34 ?_
          refine V_gets (pc := 35) dX2_pass_35 gf_X2_43 (by omega) ?_
          refine V_iload_4 (pc := 38) dX2_pass_38 ?_
          refine V_iald (pc := 40) dX2_pass_40 sh_9 (by omega) (by omega) (hBi.a9 (by omega)) ?_
          refine V_iload_2 (pc := 41) dX2_pass_41 ?_
          refine V_callV4z (pc := 42) dX2_pass_42 kv_X2_45 rc_18 (by omega) (d - 1) (by omega) rfl (c_X2_inked (by omega) hj hb hBi hW (by omega) h1.2.1 hy hL.2.1) (fun σ_42 h_42 => ?_)
          refine V_goto (pc := 45) 85 dX2_pass_45 (by decide) ?_
          refine V_iinc_4 (pc := 85) dX2_pass_85 ?_
          refine V_goto (pc := 88) 10 dX2_pass_88 (by decide) ?_
          refine V.sub (by simp only [subL, Option.some.injEq, Sum.inl.injEq, reduceCtorEq, true_or, or_true, false_or, true_and, and_true]; omega) (ih σ_42 ?_)
          have hf9 : ∀ f, BAS B P y w f i = NEW B (fun _ _ => 0) i (B 12 i) f i := fun f => by unfold BAS; rw [if_pos c_27]
          refine LAY_step hL (by omega) h_42 ?_ (fun _ => ?_) ?_
          · rw [hf9 0]; exact (upA_at _ _ _ _ _).1.symm
          · rw [hf9 1]; exact (upA_at _ _ _ _ _).2.1.symm
          · rw [hf9 2]; exact (upA_at _ _ _ _ _).2.2.symm
  refine V_aload_0 (pc := 0) dX2_pass_0 ?_
  refine V_gets (pc := 1) dX2_pass_1 gf_X2_19 (by omega) ?_
  refine V_iload_2 (pc := 4) dX2_pass_4 ?_
  refine V_iconst (pc := 5) dX2_pass_5 ?_
  refine V_iast (pc := 6) dX2_pass_6 sh_21 (by omega) (by omega) ?_
  refine V_iconst (pc := 7) dX2_pass_7 ?_
  refine V_istore_4 (pc := 8) dX2_pass_8 ?_
  have e21 : (setI σ 21 j y 0) 21 j y = 0 := by simp [setI]
  refine V.sub (by simp only [subL, Option.some.injEq, Sum.inl.injEq, reduceCtorEq, true_or, or_true, false_or, true_and, and_true]; rfl) (loop1 0 (by omega) _ ⟨fun t k z a b c => by simp only [setI, c, if_false], by rw [e21]; omega, fun e he => absurd he (by omega), fun e he h0 => ?_⟩)
  rw [RS_2, e21]
  unfold bt
  rw [Int.zero_ediv]
  rfl
