set_option maxRecDepth 20000 in
set_option maxHeartbeats 1000000 in
theorem c_X0_add {d : Nat} (hd : 0 ≤ d) {σ : MM} {b e i y n : Int} (hb : 0 ≤ b ∧ b < 6) (hn : 0 ≤ n ∧ n < 40) (h0 : σ 14 b 3 = n) : V yX0_add cX0_add 4 none d (QZ (fun σ' => σ' = setI (setI (setI (setI σ 15 b n e) 16 b n i) 17 b n y) 14 b 3 (n + 1))) 0 [some (vR 14 b), some (vI e), some (vI i), some (vI y)] [] σ := by
  refine V_aload_0 (pc := 0) dX0_add_0 ?_
  refine V_geti (pc := 1) dX0_add_1 gf_X0_21 (by omega) (by first | exact h0 | (simp [setI_at]; exact h0)) ?_
  refine V_bipush (pc := 4) dX0_add_4 (by decide) ?_
  refine V_icmp_ge (pc := 6) 49 dX0_add_6 (by decide) (by omega) (by omega) (fun c_6 => ?_) (fun c_6 => ?_)
  · exact absurd c_6 (by omega)
  · refine V_aload_0 (pc := 9) dX0_add_9 ?_
    refine V_gets (pc := 10) dX0_add_10 gf_X0_11 (by omega) ?_
    refine V_aload_0 (pc := 13) dX0_add_13 ?_
    refine V_geti (pc := 14) dX0_add_14 gf_X0_21 (by omega) (by first | exact h0 | (simp [setI_at]; exact h0)) ?_
    refine V_iload_1 (pc := 17) dX0_add_17 ?_
    refine V_iast (pc := 18) dX0_add_18 sh_15 (by omega) (by omega) ?_
    refine V_aload_0 (pc := 19) dX0_add_19 ?_
    refine V_gets (pc := 20) dX0_add_20 gf_X0_15 (by omega) ?_
    refine V_aload_0 (pc := 23) dX0_add_23 ?_
    refine V_geti (pc := 24) dX0_add_24 gf_X0_21 (by omega) (by first | exact h0 | (simp [setI_at]; exact h0)) ?_
    refine V_iload_2 (pc := 27) dX0_add_27 ?_
    refine V_iast (pc := 28) dX0_add_28 sh_16 (by omega) (by omega) ?_
    refine V_aload_0 (pc := 29) dX0_add_29 ?_
    refine V_gets (pc := 30) dX0_add_30 gf_X0_18 (by omega) ?_
    refine V_aload_0 (pc := 33) dX0_add_33 ?_
    refine V_geti (pc := 34) dX0_add_34 gf_X0_21 (by omega) (by first | exact h0 | (simp [setI_at]; exact h0)) ?_
    refine V_iload_3 (pc := 37) dX0_add_37 ?_
    refine V_iast (pc := 38) dX0_add_38 sh_17 (by omega) (by omega) ?_
    refine V_aload_0 (pc := 39) dX0_add_39 ?_
    refine V_dup (pc := 40) dX0_add_40 rfl ?_
    refine V_geti (pc := 41) dX0_add_41 gf_X0_21 (by omega) (by first | exact h0 | (simp [setI_at]; exact h0)) ?_
    refine V_iconst (pc := 44) dX0_add_44 ?_
    refine V_iadd (pc := 45) dX0_add_45 ?_
    refine V_puti (pc := 46) dX0_add_46 gf_X0_21 (by omega) ?_
    refine V_vret (pc := 49) dX0_add_49 rfl ?_
    exact ⟨rfl, rfl⟩

set_option maxRecDepth 20000 in
set_option maxHeartbeats 1000000 in
theorem c_X0_copyFrom {d : Nat} (hd : 2 ≤ d) {σ : MM} {b b2 : Int} (hb : 0 ≤ b ∧ b < 6) (hb2 : 0 ≤ b2 ∧ b2 < 6) (hne : ¬ b2 = b) (hn : 0 ≤ σ 14 b2 3 ∧ σ 14 b2 3 ≤ 40) : V yX0_copyFrom cX0_copyFrom 2 none d (QZ (fun σ' => AcCp b b2 σ σ')) 0 [some (vR 14 b), some (vR 14 b2)] [] σ := by
  have hne2 : ¬ b = b2 := fun q => hne q.symm
  refine V_aload_0 (pc := 0) dX0_copyFrom_0 ?_
  refine V_aload_1 (pc := 1) dX0_copyFrom_1 ?_
  refine V_geti (pc := 2) dX0_copyFrom_2 gf_X0_21 (by omega) (v := σ 14 b2 3) (by first | rfl | (simp [setI_at, putI_at, hne]; done)) ?_
  refine V_puti (pc := 5) dX0_copyFrom_5 gf_X0_21 (by omega) ?_
  refine V_aload_1 (pc := 8) dX0_copyFrom_8 ?_
  refine V_gets (pc := 9) dX0_copyFrom_9 gf_X0_11 (by omega) ?_
  refine V_iconst (pc := 12) dX0_copyFrom_12 ?_
  refine V_aload_0 (pc := 13) dX0_copyFrom_13 ?_
  refine V_gets (pc := 14) dX0_copyFrom_14 gf_X0_11 (by omega) ?_
  refine V_iconst (pc := 17) dX0_copyFrom_17 ?_
  refine V_aload_1 (pc := 18) dX0_copyFrom_18 ?_
  refine V_geti (pc := 19) dX0_copyFrom_19 gf_X0_21 (by omega) (v := σ 14 b2 3) (by first | rfl | (simp [setI_at, putI_at, hne]; done)) ?_
  refine V_cpI (pc := 22) dX0_copyFrom_22 cpy_X0_25 (by omega) sh_15 sh_15 (by omega) (by omega) (by omega) (by omega) (by omega) (by omega) (by omega) ?_
  refine V_aload_1 (pc := 25) dX0_copyFrom_25 ?_
  refine V_gets (pc := 26) dX0_copyFrom_26 gf_X0_15 (by omega) ?_
  refine V_iconst (pc := 29) dX0_copyFrom_29 ?_
  refine V_aload_0 (pc := 30) dX0_copyFrom_30 ?_
  refine V_gets (pc := 31) dX0_copyFrom_31 gf_X0_15 (by omega) ?_
  refine V_iconst (pc := 34) dX0_copyFrom_34 ?_
  refine V_aload_1 (pc := 35) dX0_copyFrom_35 ?_
  refine V_geti (pc := 36) dX0_copyFrom_36 gf_X0_21 (by omega) (v := σ 14 b2 3) (by first | rfl | (simp [setI_at, putI_at, hne]; done)) ?_
  refine V_cpI (pc := 39) dX0_copyFrom_39 cpy_X0_25 (by omega) sh_16 sh_16 (by omega) (by omega) (by omega) (by omega) (by omega) (by omega) (by omega) ?_
  refine V_aload_1 (pc := 42) dX0_copyFrom_42 ?_
  refine V_gets (pc := 43) dX0_copyFrom_43 gf_X0_18 (by omega) ?_
  refine V_iconst (pc := 46) dX0_copyFrom_46 ?_
  refine V_aload_0 (pc := 47) dX0_copyFrom_47 ?_
  refine V_gets (pc := 48) dX0_copyFrom_48 gf_X0_18 (by omega) ?_
  refine V_iconst (pc := 51) dX0_copyFrom_51 ?_
  refine V_aload_1 (pc := 52) dX0_copyFrom_52 ?_
  refine V_geti (pc := 53) dX0_copyFrom_53 gf_X0_21 (by omega) (v := σ 14 b2 3) (by first | rfl | (simp [setI_at, putI_at, hne]; done)) ?_
  refine V_cpI (pc := 56) dX0_copyFrom_56 cpy_X0_25 (by omega) sh_17 sh_17 (by omega) (by omega) (by omega) (by omega) (by omega) (by omega) (by omega) ?_
  refine V_vret (pc := 59) dX0_copyFrom_59 rfl ?_
  refine ⟨rfl, by simp [setI_at, putI_at], fun i hi => ?_, fun t k z h => ?_⟩
  · have e : (0 ≤ i ∧ i < 0 + σ 14 b2 3) := by omega
    simp [setI_at, putI_at, cpy, hne, e]
    omega
  · have e15 : ¬ (t = 15 ∧ k = b) := by omega
    have e16 : ¬ (t = 16 ∧ k = b) := by omega
    have e17 : ¬ (t = 17 ∧ k = b) := by omega
    have e14 : ¬ (t = 14 ∧ k = b ∧ z = 3) := by omega
    simp only [setI_at, putI_at, e15, e16, e17, e14, if_false]

set_option maxRecDepth 20000 in
set_option maxHeartbeats 1000000 in
theorem c_X1_empty {d : Nat} (hd : 0 ≤ d) {σ : MM} {b : Int} (hb : 0 ≤ b ∧ b < 6) : V yX1_empty cX1_empty 1 none d (QZ (fun σ' => CB σ' b zB ∧ OffB b σ σ')) 0 [some (vR 3 b)] [] σ := by
  refine V_aload_0 (pc := 0) dX1_empty_0 ?_
  refine V_iconst (pc := 1) dX1_empty_1 ?_
  refine V_puti (pc := 2) dX1_empty_2 gf_X1_9 (by omega) ?_
  refine V_aload_0 (pc := 5) dX1_empty_5 ?_
  refine V_iconst (pc := 6) dX1_empty_6 ?_
  refine V_puti (pc := 7) dX1_empty_7 gf_X1_15 (by omega) ?_
  refine V_aload_0 (pc := 10) dX1_empty_10 ?_
  refine V_iconst (pc := 11) dX1_empty_11 ?_
  refine V_puti (pc := 12) dX1_empty_12 gf_X1_18 (by omega) ?_
  refine V_aload_0 (pc := 15) dX1_empty_15 ?_
  refine V_iconst (pc := 16) dX1_empty_16 ?_
  refine V_puti (pc := 17) dX1_empty_17 gf_X1_21 (by omega) ?_
  refine V_aload_0 (pc := 20) dX1_empty_20 ?_
  refine V_iconst (pc := 21) dX1_empty_21 ?_
  refine V_puti (pc := 22) dX1_empty_22 gf_X1_24 (by omega) ?_
  refine V_aload_0 (pc := 25) dX1_empty_25 ?_
  refine V_iconst (pc := 26) dX1_empty_26 ?_
  refine V_puti (pc := 27) dX1_empty_27 gf_X1_27 (by omega) ?_
  refine V_aload_0 (pc := 30) dX1_empty_30 ?_
  refine V_iconst (pc := 31) dX1_empty_31 ?_
  refine V_puti (pc := 32) dX1_empty_32 gf_X1_30 (by omega) ?_
  refine V_aload_0 (pc := 35) dX1_empty_35 ?_
  refine V_gets (pc := 36) dX1_empty_36 gf_X1_67 (by omega) ?_
  refine V_iconst (pc := 39) dX1_empty_39 ?_
  refine V_puti (pc := 40) dX1_empty_40 gf_X1_71 (by omega) ?_
  refine V_vret (pc := 43) dX1_empty_43 rfl ?_
  refine ⟨rfl, CB_z (fun z hz => ?_) (by simp [setI_at]), ((((((((OffB.set (by omega)).tr (OffB.set (by omega))).tr (OffB.set (by omega))).tr (OffB.set (by omega))).tr (OffB.set (by omega))).tr (OffB.set (by omega))).tr (OffB.set (by omega))).tr (OffB.set (by omega)))⟩
  have hz' : z = 0 ∨ z = 1 ∨ z = 2 ∨ z = 3 ∨ z = 4 ∨ z = 5 ∨ z = 6 := by omega
  rcases hz' with rfl | rfl | rfl | rfl | rfl | rfl | rfl <;> simp [setI_at]

set_option maxRecDepth 20000 in
set_option maxHeartbeats 1000000 in
theorem c_X1_copyFrom {d : Nat} (hd : 3 ≤ d) {σ : MM} {b b2 : Int} {B : BK} (hb : 0 ≤ b ∧ b < 6) (hb2 : 0 ≤ b2 ∧ b2 < 6) (hne : ¬ b2 = b) (hB : CB σ b2 B) (hs : WS B) : V yX1_copyFrom cX1_copyFrom 2 none d (QZ (fun σ' => CB σ' b B ∧ OffB b σ σ')) 0 [some (vR 3 b), some (vR 3 b2)] [] σ := by
  have hne2 : ¬ b = b2 := fun q => hne q.symm
  refine V_aload_0 (pc := 0) dX1_copyFrom_0 ?_
  refine V_aload_1 (pc := 1) dX1_copyFrom_1 ?_
  refine V_geti (pc := 2) dX1_copyFrom_2 gf_X1_9 (by omega) (v := σ 3 b2 0) (by first | rfl | (simp [setI_at, putI_at, hne]; done)) ?_
  refine V_puti (pc := 5) dX1_copyFrom_5 gf_X1_9 (by omega) ?_
  refine V_aload_0 (pc := 8) dX1_copyFrom_8 ?_
  refine V_aload_1 (pc := 9) dX1_copyFrom_9 ?_
  refine V_geti (pc := 10) dX1_copyFrom_10 gf_X1_15 (by omega) (v := σ 3 b2 1) (by first | rfl | (simp [setI_at, putI_at, hne]; done)) ?_
  refine V_puti (pc := 13) dX1_copyFrom_13 gf_X1_15 (by omega) ?_
  refine V_aload_0 (pc := 16) dX1_copyFrom_16 ?_
  refine V_aload_1 (pc := 17) dX1_copyFrom_17 ?_
  refine V_geti (pc := 18) dX1_copyFrom_18 gf_X1_18 (by omega) (v := σ 3 b2 2) (by first | rfl | (simp [setI_at, putI_at, hne]; done)) ?_
  refine V_puti (pc := 21) dX1_copyFrom_21 gf_X1_18 (by omega) ?_
  refine V_aload_0 (pc := 24) dX1_copyFrom_24 ?_
  refine V_aload_1 (pc := 25) dX1_copyFrom_25 ?_
  refine V_geti (pc := 26) dX1_copyFrom_26 gf_X1_21 (by omega) (v := σ 3 b2 3) (by first | rfl | (simp [setI_at, putI_at, hne]; done)) ?_
  refine V_puti (pc := 29) dX1_copyFrom_29 gf_X1_21 (by omega) ?_
  refine V_aload_0 (pc := 32) dX1_copyFrom_32 ?_
  refine V_aload_1 (pc := 33) dX1_copyFrom_33 ?_
  refine V_geti (pc := 34) dX1_copyFrom_34 gf_X1_24 (by omega) (v := σ 3 b2 4) (by first | rfl | (simp [setI_at, putI_at, hne]; done)) ?_
  refine V_puti (pc := 37) dX1_copyFrom_37 gf_X1_24 (by omega) ?_
  refine V_aload_0 (pc := 40) dX1_copyFrom_40 ?_
  refine V_aload_1 (pc := 41) dX1_copyFrom_41 ?_
  refine V_geti (pc := 42) dX1_copyFrom_42 gf_X1_27 (by omega) (v := σ 3 b2 5) (by first | rfl | (simp [setI_at, putI_at, hne]; done)) ?_
  refine V_puti (pc := 45) dX1_copyFrom_45 gf_X1_27 (by omega) ?_
  refine V_aload_0 (pc := 48) dX1_copyFrom_48 ?_
  refine V_aload_1 (pc := 49) dX1_copyFrom_49 ?_
  refine V_geti (pc := 50) dX1_copyFrom_50 gf_X1_30 (by omega) (v := σ 3 b2 6) (by first | rfl | (simp [setI_at, putI_at, hne]; done)) ?_
  refine V_puti (pc := 53) dX1_copyFrom_53 gf_X1_30 (by omega) ?_
  refine V_aload_1 (pc := 56) dX1_copyFrom_56 ?_
  refine V_gets (pc := 57) dX1_copyFrom_57 gf_X1_33 (by omega) ?_
  refine V_iconst (pc := 60) dX1_copyFrom_60 ?_
  refine V_aload_0 (pc := 61) dX1_copyFrom_61 ?_
  refine V_gets (pc := 62) dX1_copyFrom_62 gf_X1_33 (by omega) ?_
  refine V_iconst (pc := 65) dX1_copyFrom_65 ?_
  refine V_iconst (pc := 66) dX1_copyFrom_66 ?_
  refine V_cpI (pc := 67) dX1_copyFrom_67 cpy_X1_74 (by omega) sh_4 sh_4 (by omega) (by omega) (by omega) (by omega) (by omega) (by omega) (by omega) ?_
  refine V_aload_1 (pc := 70) dX1_copyFrom_70 ?_
  refine V_gets (pc := 71) dX1_copyFrom_71 gf_X1_37 (by omega) ?_
  refine V_iconst (pc := 74) dX1_copyFrom_74 ?_
  refine V_aload_0 (pc := 75) dX1_copyFrom_75 ?_
  refine V_gets (pc := 76) dX1_copyFrom_76 gf_X1_37 (by omega) ?_
  refine V_iconst (pc := 79) dX1_copyFrom_79 ?_
  refine V_iconst (pc := 80) dX1_copyFrom_80 ?_
  refine V_cpI (pc := 81) dX1_copyFrom_81 cpy_X1_74 (by omega) sh_5 sh_5 (by omega) (by omega) (by omega) (by omega) (by omega) (by omega) (by omega) ?_
  refine V_aload_1 (pc := 84) dX1_copyFrom_84 ?_
  refine V_gets (pc := 85) dX1_copyFrom_85 gf_X1_40 (by omega) ?_
  refine V_iconst (pc := 88) dX1_copyFrom_88 ?_
  refine V_aload_0 (pc := 89) dX1_copyFrom_89 ?_
  refine V_gets (pc := 90) dX1_copyFrom_90 gf_X1_40 (by omega) ?_
  refine V_iconst (pc := 93) dX1_copyFrom_93 ?_
  refine V_iconst (pc := 94) dX1_copyFrom_94 ?_
  refine V_cpI (pc := 95) dX1_copyFrom_95 cpy_X1_74 (by omega) sh_6 sh_6 (by omega) (by omega) (by omega) (by omega) (by omega) (by omega) (by omega) ?_
  refine V_aload_1 (pc := 98) dX1_copyFrom_98 ?_
  refine V_gets (pc := 99) dX1_copyFrom_99 gf_X1_43 (by omega) ?_
  refine V_iconst (pc := 102) dX1_copyFrom_102 ?_
  refine V_aload_0 (pc := 103) dX1_copyFrom_103 ?_
  refine V_gets (pc := 104) dX1_copyFrom_104 gf_X1_43 (by omega) ?_
  refine V_iconst (pc := 107) dX1_copyFrom_107 ?_
  refine V_iconst (pc := 108) dX1_copyFrom_108 ?_
  refine V_cpI (pc := 109) dX1_copyFrom_109 cpy_X1_74 (by omega) sh_7 sh_7 (by omega) (by omega) (by omega) (by omega) (by omega) (by omega) (by omega) ?_
  refine V_aload_1 (pc := 112) dX1_copyFrom_112 ?_
  refine V_gets (pc := 113) dX1_copyFrom_113 gf_X1_46 (by omega) ?_
  refine V_iconst (pc := 116) dX1_copyFrom_116 ?_
  refine V_aload_0 (pc := 117) dX1_copyFrom_117 ?_
  refine V_gets (pc := 118) dX1_copyFrom_118 gf_X1_46 (by omega) ?_
  refine V_iconst (pc := 121) dX1_copyFrom_121 ?_
  refine V_bipush (pc := 122) dX1_copyFrom_122 (by decide) ?_
  refine V_cpI (pc := 124) dX1_copyFrom_124 cpy_X1_74 (by omega) sh_8 sh_8 (by omega) (by omega) (by omega) (by omega) (by omega) (by omega) (by omega) ?_
  refine V_aload_1 (pc := 127) dX1_copyFrom_127 ?_
  refine V_gets (pc := 128) dX1_copyFrom_128 gf_X1_49 (by omega) ?_
  refine V_iconst (pc := 131) dX1_copyFrom_131 ?_
  refine V_aload_0 (pc := 132) dX1_copyFrom_132 ?_
  refine V_gets (pc := 133) dX1_copyFrom_133 gf_X1_49 (by omega) ?_
  refine V_iconst (pc := 136) dX1_copyFrom_136 ?_
  refine V_bipush (pc := 137) dX1_copyFrom_137 (by decide) ?_
  refine V_cpI (pc := 139) dX1_copyFrom_139 cpy_X1_74 (by omega) sh_9 sh_9 (by omega) (by omega) (by omega) (by omega) (by omega) (by omega) (by omega) ?_
  refine V_aload_1 (pc := 142) dX1_copyFrom_142 ?_
  refine V_gets (pc := 143) dX1_copyFrom_143 gf_X1_52 (by omega) ?_
  refine V_iconst (pc := 146) dX1_copyFrom_146 ?_
  refine V_aload_0 (pc := 147) dX1_copyFrom_147 ?_
  refine V_gets (pc := 148) dX1_copyFrom_148 gf_X1_52 (by omega) ?_
  refine V_iconst (pc := 151) dX1_copyFrom_151 ?_
  refine V_bipush (pc := 152) dX1_copyFrom_152 (by decide) ?_
  refine V_cpI (pc := 154) dX1_copyFrom_154 cpy_X1_74 (by omega) sh_10 sh_10 (by omega) (by omega) (by omega) (by omega) (by omega) (by omega) (by omega) ?_
  refine V_aload_1 (pc := 157) dX1_copyFrom_157 ?_
  refine V_gets (pc := 158) dX1_copyFrom_158 gf_X1_55 (by omega) ?_
  refine V_iconst (pc := 161) dX1_copyFrom_161 ?_
  refine V_aload_0 (pc := 162) dX1_copyFrom_162 ?_
  refine V_gets (pc := 163) dX1_copyFrom_163 gf_X1_55 (by omega) ?_
  refine V_iconst (pc := 166) dX1_copyFrom_166 ?_
  refine V_bipush (pc := 167) dX1_copyFrom_167 (by decide) ?_
  refine V_cpI (pc := 169) dX1_copyFrom_169 cpy_X1_74 (by omega) sh_11 sh_11 (by omega) (by omega) (by omega) (by omega) (by omega) (by omega) (by omega) ?_
  refine V_aload_1 (pc := 172) dX1_copyFrom_172 ?_
  refine V_gets (pc := 173) dX1_copyFrom_173 gf_X1_58 (by omega) ?_
  refine V_iconst (pc := 176) dX1_copyFrom_176 ?_
  refine V_aload_0 (pc := 177) dX1_copyFrom_177 ?_
  refine V_gets (pc := 178) dX1_copyFrom_178 gf_X1_58 (by omega) ?_
  refine V_iconst (pc := 181) dX1_copyFrom_181 ?_
  refine V_bipush (pc := 182) dX1_copyFrom_182 (by decide) ?_
  refine V_cpI (pc := 184) dX1_copyFrom_184 cpy_X1_74 (by omega) sh_12 sh_12 (by omega) (by omega) (by omega) (by omega) (by omega) (by omega) (by omega) ?_
  refine V_aload_1 (pc := 187) dX1_copyFrom_187 ?_
  refine V_gets (pc := 188) dX1_copyFrom_188 gf_X1_61 (by omega) ?_
  refine V_iconst (pc := 191) dX1_copyFrom_191 ?_
  refine V_aload_0 (pc := 192) dX1_copyFrom_192 ?_
  refine V_gets (pc := 193) dX1_copyFrom_193 gf_X1_61 (by omega) ?_
  refine V_iconst (pc := 196) dX1_copyFrom_196 ?_
  refine V_bipush (pc := 197) dX1_copyFrom_197 (by decide) ?_
  refine V_cpI (pc := 199) dX1_copyFrom_199 cpy_X1_74 (by omega) sh_13 sh_13 (by omega) (by omega) (by omega) (by omega) (by omega) (by omega) (by omega) ?_
  refine V_aload_0 (pc := 202) dX1_copyFrom_202 ?_
  refine V_gets (pc := 203) dX1_copyFrom_203 gf_X1_67 (by omega) ?_
  refine V_aload_1 (pc := 206) dX1_copyFrom_206 ?_
  refine V_gets (pc := 207) dX1_copyFrom_207 gf_X1_67 (by omega) ?_
  refine V_callV1z (pc := 210) dX1_copyFrom_210 kv_X1_80 rc_14 (by omega) (d - 1) (by omega) rfl (c_X0_copyFrom (by omega) hb hb2 hne (by simp [setI_at, putI_at, hB.dn]; omega)) (fun σ_210 h_210 => ?_)
  refine V_vret (pc := 213) dX1_copyFrom_213 rfl ?_
  obtain ⟨a1, a2, a3⟩ := h_210
  refine ⟨rfl, CB_cp hB hs (fun z hz => ?_) (by rw [a1]; simp [setI_at, putI_at]) (fun i hi => ?_) (fun t ht z hz => ?_), fun t k z h => ?_⟩
  · rw [a3 3 b z (by omega)]
    have hz' : z = 0 ∨ z = 1 ∨ z = 2 ∨ z = 3 ∨ z = 4 ∨ z = 5 ∨ z = 6 := by omega
    rcases hz' with rfl | rfl | rfl | rfl | rfl | rfl | rfl <;> simp [setI_at, putI_at]
  · have q := a2 i (by simpa [setI_at, putI_at] using hi)
    simpa [setI_at, putI_at] using q
  · rw [a3 t b z (by omega)]
    have ht' : t = 4 ∨ t = 5 ∨ t = 6 ∨ t = 7 ∨ t = 8 ∨ t = 9 ∨ t = 10 ∨ t = 11 ∨ t = 12 ∨ t = 13 := by omega
    rcases ht' with rfl | rfl | rfl | rfl | rfl | rfl | rfl | rfl | rfl | rfl <;> simp [setI_at, putI_at, cpy, hne] at hz ⊢ <;> omega
  · rw [a3 t k z (by omega)]
    by_cases hk : k = b
    · have ht : ∀ x : Nat, 3 ≤ x ∧ x ≤ 17 → ¬ t = x := fun x hx q => h ⟨by omega, by omega, hk⟩
      simp [setI_at, putI_at, ht 3 (by omega), ht 4 (by omega), ht 5 (by omega), ht 6 (by omega), ht 7 (by omega), ht 8 (by omega), ht 9 (by omega), ht 10 (by omega), ht 11 (by omega), ht 12 (by omega), ht 13 (by omega)]
    · simp [setI_at, putI_at, hk]

set_option maxRecDepth 20000 in
set_option maxHeartbeats 1000000 in
theorem c_X1_addInk {d : Nat} (hd : 0 ≤ d) {σ : MM} {b r t f : Int} {B : BK} (hb : 0 ≤ b ∧ b < 6) (hB : CB σ b B) (h4 : 0 ≤ B 4 0 ∧ B 4 0 < 4) : V yX1_addInk cX1_addInk 4 none d (QZ (fun σ' => CB σ' b (iB B r t f) ∧ OffB b σ σ')) 0 [some (vR 3 b), some (vI r), some (vI t), some (vI f)] [] σ := by
  refine V_aload_0 (pc := 0) dX1_addInk_0 ?_
  refine V_geti (pc := 1) dX1_addInk_1 gf_X1_24 (by omega) (by first | exact hB.s4 | (simp [setI_at, hB.s4]; done)) ?_
  refine V_iconst (pc := 4) dX1_addInk_4 ?_
  refine V_icmp_ge (pc := 5) 48 dX1_addInk_5 (by decide) (by omega) (by omega) (fun c_5 => ?_) (fun c_5 => ?_)
  · exact absurd c_5 (by omega)
  · refine V_aload_0 (pc := 8) dX1_addInk_8 ?_
    refine V_gets (pc := 9) dX1_addInk_9 gf_X1_33 (by omega) ?_
    refine V_aload_0 (pc := 12) dX1_addInk_12 ?_
    refine V_geti (pc := 13) dX1_addInk_13 gf_X1_24 (by omega) (by first | exact hB.s4 | (simp [setI_at, hB.s4]; done)) ?_
    refine V_iload_1 (pc := 16) dX1_addInk_16 ?_
    refine V_iast (pc := 17) dX1_addInk_17 sh_4 (by omega) (by omega) ?_
    refine V_aload_0 (pc := 18) dX1_addInk_18 ?_
    refine V_gets (pc := 19) dX1_addInk_19 gf_X1_37 (by omega) ?_
    refine V_aload_0 (pc := 22) dX1_addInk_22 ?_
    refine V_geti (pc := 23) dX1_addInk_23 gf_X1_24 (by omega) (by first | exact hB.s4 | (simp [setI_at, hB.s4]; done)) ?_
    refine V_iload_2 (pc := 26) dX1_addInk_26 ?_
    refine V_iast (pc := 27) dX1_addInk_27 sh_5 (by omega) (by omega) ?_
    refine V_aload_0 (pc := 28) dX1_addInk_28 ?_
    refine V_gets (pc := 29) dX1_addInk_29 gf_X1_40 (by omega) ?_
    refine V_aload_0 (pc := 32) dX1_addInk_32 ?_
    refine V_geti (pc := 33) dX1_addInk_33 gf_X1_24 (by omega) (by first | exact hB.s4 | (simp [setI_at, hB.s4]; done)) ?_
    refine V_iload_3 (pc := 36) dX1_addInk_36 ?_
    refine V_iast (pc := 37) dX1_addInk_37 sh_6 (by omega) (by omega) ?_
    refine V_aload_0 (pc := 38) dX1_addInk_38 ?_
    refine V_dup (pc := 39) dX1_addInk_39 rfl ?_
    refine V_geti (pc := 40) dX1_addInk_40 gf_X1_24 (by omega) (by first | exact hB.s4 | (simp [setI_at, hB.s4]; done)) ?_
    refine V_iconst (pc := 43) dX1_addInk_43 ?_
    refine V_iadd (pc := 44) dX1_addInk_44 ?_
    refine V_puti (pc := 45) dX1_addInk_45 gf_X1_24 (by omega) ?_
    refine V_vret (pc := 48) dX1_addInk_48 rfl ?_
    exact ⟨rfl, CB_ink hB, (((OffB.set (by omega)).tr (OffB.set (by omega))).tr (OffB.set (by omega))).tr (OffB.set (by omega))⟩

set_option maxRecDepth 20000 in
set_option maxHeartbeats 1000000 in
theorem c_X1_addPage {d : Nat} (hd : 0 ≤ d) {σ : MM} {b dm : Int} {B : BK} (hb : 0 ≤ b ∧ b < 6) (hB : CB σ b B) (h5 : 0 ≤ B 5 0 ∧ B 5 0 < 4) (hdm : dm = 0 ∨ dm = 1) : V yX1_addPage cX1_addPage 2 none d (QZ (fun σ' => CB σ' b (pB B dm) ∧ OffB b σ σ')) 0 [some (vR 3 b), some (vI dm)] [] σ := by
  refine V_aload_0 (pc := 0) dX1_addPage_0 ?_
  refine V_geti (pc := 1) dX1_addPage_1 gf_X1_27 (by omega) (by first | exact hB.s5 | (simp [setI_at, hB.s5]; done)) ?_
  refine V_iconst (pc := 4) dX1_addPage_4 ?_
  refine V_icmp_ge (pc := 5) 36 dX1_addPage_5 (by decide) (by omega) (by omega) (fun c_5 => ?_) (fun c_5 => ?_)
  · exact absurd c_5 (by omega)
  · refine V_aload_0 (pc := 8) dX1_addPage_8 ?_
    refine V_gets (pc := 9) dX1_addPage_9 gf_X1_43 (by omega) ?_
    refine V_aload_0 (pc := 12) dX1_addPage_12 ?_
    refine V_geti (pc := 13) dX1_addPage_13 gf_X1_27 (by omega) (by first | exact hB.s5 | (simp [setI_at, hB.s5]; done)) ?_
    refine V_iload_1 (pc := 16) dX1_addPage_16 ?_
    refine V_if_eq (pc := 17) 24 dX1_addPage_17 (by decide) (by omega) (fun c_17 => ?_) (fun c_17 => ?_)
    · refine V_iconst (pc := 24) dX1_addPage_24 ?_
      refine V_iast (pc := 25) dX1_addPage_25 sh_7 (by omega) (by omega) ?_
      refine V_aload_0 (pc := 26) dX1_addPage_26 ?_
      refine V_dup (pc := 27) dX1_addPage_27 rfl ?_
      refine V_geti (pc := 28) dX1_addPage_28 gf_X1_27 (by omega) (by first | exact hB.s5 | (simp [setI_at, hB.s5]; done)) ?_
      refine V_iconst (pc := 31) dX1_addPage_31 ?_
      refine V_iadd (pc := 32) dX1_addPage_32 ?_
      refine V_puti (pc := 33) dX1_addPage_33 gf_X1_27 (by omega) ?_
      refine V_vret (pc := 36) dX1_addPage_36 rfl ?_
      exact ⟨rfl, by rw [show dm = 0 by omega]; exact CB_page hB, (OffB.set (by omega)).tr (OffB.set (by omega))⟩
    · refine V_iconst (pc := 20) dX1_addPage_20 ?_
      refine V_goto (pc := 21) 25 dX1_addPage_21 (by decide) ?_
      refine V_iast (pc := 25) dX1_addPage_25 sh_7 (by omega) (by omega) ?_
      refine V_aload_0 (pc := 26) dX1_addPage_26 ?_
      refine V_dup (pc := 27) dX1_addPage_27 rfl ?_
      refine V_geti (pc := 28) dX1_addPage_28 gf_X1_27 (by omega) (by first | exact hB.s5 | (simp [setI_at, hB.s5]; done)) ?_
      refine V_iconst (pc := 31) dX1_addPage_31 ?_
      refine V_iadd (pc := 32) dX1_addPage_32 ?_
      refine V_puti (pc := 33) dX1_addPage_33 gf_X1_27 (by omega) ?_
      refine V_vret (pc := 36) dX1_addPage_36 rfl ?_
      exact ⟨rfl, by rw [show dm = 1 by omega]; exact CB_page hB, (OffB.set (by omega)).tr (OffB.set (by omega))⟩

set_option maxRecDepth 20000 in
set_option maxHeartbeats 1000000 in
theorem c_X1_placeLast {d : Nat} (hd : 0 ≤ d) {σ : MM} {b p i w s : Int} {B : BK} (hb : 0 ≤ b ∧ b < 6) (hs : 0 ≤ B 6 0 ∧ B 6 0 < 7) (hp : 0 ≤ p ∧ p < 4) (h6 : σ 3 b 6 = B 6 0) (h8 : ∀ x : Int, 0 ≤ x ∧ x < B 6 0 → σ 8 b x = B 11 x ∧ σ 12 b x = PLC B x ∧ σ 13 b x = FAC B x ∧ (0 ≤ B 11 x ∧ B 11 x < 4)) (h8n : σ 8 b (B 6 0) = p) : V yX1_placeLast cX1_placeLast 3 none d (QZ (fun σ' => PLD σ σ' b B p i w s)) 0 [some (vR 3 b), none, none] [] σ := by
  have loop2 : ∀ k : Nat, k ≤ (B 6 0).toNat → ∀ σi, σi 12 b (B 6 0) = PLC (eB B p i w s) (B 6 0) ∧ σi 13 b (B 6 0) = lst (MAT B p i w s) k ∧ (∀ x : Int, 0 ≤ x ∧ x < B 6 0 → σi 13 b x = if x < k ∧ MAT B p i w s x then B 6 0 else σ 13 b x) ∧ (∀ (t : Nat) (k z : Int), ¬ (t = 12 ∧ k = b ∧ z = B 6 0) → ¬ (t = 13 ∧ k = b) → σi t k z = σ t k z) → V yX1_placeLast cX1_placeLast 3 none d (QZ (fun σ' => PLD σ σ' b B p i w s)) 61 [some (vR 3 b), some (vI (PLC (eB B p i w s) (B 6 0))), some (vI (k : Int))] [] σi := by
    refine up_ind (P := fun k : Nat => ∀ σi, σi 12 b (B 6 0) = PLC (eB B p i w s) (B 6 0) ∧ σi 13 b (B 6 0) = lst (MAT B p i w s) k ∧ (∀ x : Int, 0 ≤ x ∧ x < B 6 0 → σi 13 b x = if x < k ∧ MAT B p i w s x then B 6 0 else σ 13 b x) ∧ (∀ (t : Nat) (k z : Int), ¬ (t = 12 ∧ k = b ∧ z = B 6 0) → ¬ (t = 13 ∧ k = b) → σi t k z = σ t k z) → V yX1_placeLast cX1_placeLast 3 none d (QZ (fun σ' => PLD σ σ' b B p i w s)) 61 [some (vR 3 b), some (vI (PLC (eB B p i w s) (B 6 0))), some (vI (k : Int))] [] σi) ?_ ?_
    · intro σi ⟨i1, i2, i3, i4⟩
      have i6 : σi 3 b 6 = B 6 0 := (i4 3 b 6 (by omega) (by omega)).trans h6
      refine V_iload_2 (pc := 61) dX1_placeLast_61 ?_
      refine V_aload_0 (pc := 62) dX1_placeLast_62 ?_
      refine V_geti (pc := 63) dX1_placeLast_63 gf_X1_30 (by omega) (v := B 6 0) (by first | exact i6 | (simp [setI_at, i6]; done)) ?_
      refine V_icmp_ge (pc := 66) 125 dX1_placeLast_66 (by decide) (by omega) (by omega) (fun c_66 => ?_) (fun c_66 => ?_)
      · refine V_vret (pc := 125) dX1_placeLast_125 rfl ?_
        refine ⟨rfl, i1, fun x hx => ?_, i4⟩
        by_cases q : x = B 6 0
        · subst q; rw [i2, eB_FACn (by omega)]
        · rw [i3 x (by omega), eB_FAC (by omega), (h8 x (by omega)).2.2.1]
          have this : x < (((B 6 0).toNat : Nat) : Int) := by omega
          by_cases hm : MAT B p i w s x
          · rw [if_pos ⟨this, hm⟩, if_pos hm]
          · rw [if_neg (fun z => hm z.2), if_neg hm]
      · exact absurd c_66 (by omega)
    · intro k hk ih σi ⟨i1, i2, i3, i4⟩
      have i6 : σi 3 b 6 = B 6 0 := (i4 3 b 6 (by omega) (by omega)).trans h6
      have i8k : σi 8 b k = B 11 k := (i4 8 b k (by omega) (by omega)).trans (h8 k (by omega)).1
      have i8n : σi 8 b (B 6 0) = p := (i4 8 b _ (by omega) (by omega)).trans h8n
      have i12 : σi 12 b k = PLC B k := (i4 12 b k (by omega) (by omega)).trans (h8 k (by omega)).2.1
      have hP := PLC_in (B := B) (k := (k : Int)) (by omega)
      have hPn := PLC_in (B := (eB B p i w s)) (k := B 6 0) (by omega)
      have hQ : 0 ≤ PFA p ∧ PFA p < 4 := by unfold PFA; split <;> omega
      have h11 := (h8 k (by omega)).2.2.2
      refine V_iload_2 (pc := 61) dX1_placeLast_61 ?_
      refine V_aload_0 (pc := 62) dX1_placeLast_62 ?_
      refine V_geti (pc := 63) dX1_placeLast_63 gf_X1_30 (by omega) (v := B 6 0) (by first | exact i6 | (simp [setI_at, i6]; done)) ?_
      refine V_icmp_ge (pc := 66) 125 dX1_placeLast_66 (by decide) (by omega) (by omega) (fun c_66 => ?_) (fun c_66 => ?_)
      · exact absurd c_66 (by omega)
      · refine V_aload_0 (pc := 69) dX1_placeLast_69 ?_
        refine V_gets (pc := 70) dX1_placeLast_70 gf_X1_46 (by omega) ?_
        refine V_iload_2 (pc := 73) dX1_placeLast_73 ?_
        refine V_iald (pc := 74) dX1_placeLast_74 sh_8 (by omega) (by omega) i8k ?_
        refine V_aload_0 (pc := 75) dX1_placeLast_75 ?_
        refine V_gets (pc := 76) dX1_placeLast_76 gf_X1_46 (by omega) ?_
        refine V_aload_0 (pc := 79) dX1_placeLast_79 ?_
        refine V_geti (pc := 80) dX1_placeLast_80 gf_X1_30 (by omega) (v := B 6 0) (by first | exact i6 | (simp [setI_at, i6]; done)) ?_
        refine V_iald (pc := 83) dX1_placeLast_83 sh_8 (by omega) (by omega) i8n ?_
        refine V_iconst (pc := 84) dX1_placeLast_84 ?_
        refine V_ixor (pc := 85) dX1_placeLast_85 (bw_x1 hp) ?_
        refine V_icmp_ne (pc := 86) 119 dX1_placeLast_86 (by decide) (by omega) (by omega) (fun c_86 => ?_) (fun c_86 => ?_)
        · refine V_iinc_2 (pc := 119) dX1_placeLast_119 ?_
          refine V_goto (pc := 122) 61 dX1_placeLast_122 (by decide) ?_
          have hno : ¬ MAT B p i w s k := fun q => c_86 q.1
          refine V.sub (by simp only [subL, Option.some.injEq, Sum.inl.injEq, reduceCtorEq, true_or, or_true, false_or, true_and, and_true]; omega) (ih σi ⟨i1, by rw [lst, if_neg hno]; exact i2, fun x hx => ?_, i4⟩)
          rw [i3 x hx]
          by_cases q : x = k
          · subst q; rw [if_neg (fun z => by omega), if_neg (fun z => hno z.2)]
          · have : x < ((k + 1 : Nat) : Int) ↔ x < k := by omega
            simp only [this]
        · refine V_aload_0 (pc := 89) dX1_placeLast_89 ?_
          refine V_gets (pc := 90) dX1_placeLast_90 gf_X1_58 (by omega) ?_
          refine V_iload_2 (pc := 93) dX1_placeLast_93 ?_
          refine V_iald (pc := 94) dX1_placeLast_94 sh_12 (by omega) (by omega) i12 ?_
          refine V_iload_1 (pc := 95) dX1_placeLast_95 ?_
          refine V_icmp_ne (pc := 96) 119 dX1_placeLast_96 (by decide) (by omega) (by omega) (fun c_96 => ?_) (fun c_96 => ?_)
          · refine V_iinc_2 (pc := 119) dX1_placeLast_119 ?_
            refine V_goto (pc := 122) 61 dX1_placeLast_122 (by decide) ?_
            have hno : ¬ MAT B p i w s k := fun q => c_96 q.2
            refine V.sub (by simp only [subL, Option.some.injEq, Sum.inl.injEq, reduceCtorEq, true_or, or_true, false_or, true_and, and_true]; omega) (ih σi ⟨i1, by rw [lst, if_neg hno]; exact i2, fun x hx => ?_, i4⟩)
            rw [i3 x hx]
            by_cases q : x = k
            · subst q; rw [if_neg (fun z => by omega), if_neg (fun z => hno z.2)]
            · have : x < ((k + 1 : Nat) : Int) ↔ x < k := by omega
              simp only [this]
          · refine V_aload_0 (pc := 99) dX1_placeLast_99 ?_
            refine V_gets (pc := 100) dX1_placeLast_100 gf_X1_61 (by omega) ?_
            refine V_aload_0 (pc := 103) dX1_placeLast_103 ?_
            refine V_geti (pc := 104) dX1_placeLast_104 gf_X1_30 (by omega) (v := B 6 0) (by first | exact i6 | (simp [setI_at, i6]; done)) ?_
            refine V_iload_2 (pc := 107) dX1_placeLast_107 ?_
            refine V_iast (pc := 108) dX1_placeLast_108 sh_13 (by omega) (by omega) ?_
            refine V_aload_0 (pc := 109) dX1_placeLast_109 ?_
            refine V_gets (pc := 110) dX1_placeLast_110 gf_X1_61 (by omega) ?_
            refine V_iload_2 (pc := 113) dX1_placeLast_113 ?_
            refine V_aload_0 (pc := 114) dX1_placeLast_114 ?_
            refine V_geti (pc := 115) dX1_placeLast_115 gf_X1_30 (by omega) (v := B 6 0) (by first | exact i6 | (simp [setI_at, i6]; done)) ?_
            refine V_iast (pc := 118) dX1_placeLast_118 sh_13 (by omega) (by omega) ?_
            refine V_iinc_2 (pc := 119) dX1_placeLast_119 ?_
            refine V_goto (pc := 122) 61 dX1_placeLast_122 (by decide) ?_
            have hm : MAT B p i w s k := ⟨c_86, c_96⟩
            refine V.sub (by simp only [subL, Option.some.injEq, Sum.inl.injEq, reduceCtorEq, true_or, or_true, false_or, true_and, and_true]; omega) (ih _ ⟨by simp [setI_at, i1], by have : ¬ B 6 0 = (k : Int) := (by omega); simp [setI_at, lst, hm, this], fun x hx => ?_, fun t k' z g1 g2 => ?_⟩)
            · have n6 : ¬ x = B 6 0 := by omega
              by_cases q : x = k
              · subst q
                have e : (k : Int) < ((k + 1 : Nat) : Int) ∧ MAT B p i w s k := ⟨by omega, hm⟩
                rw [if_pos e]
                simp [setI_at]
              · have : x < ((k + 1 : Nat) : Int) ↔ x < k := by omega
                simp only [this, setI_at, n6, q, and_false, if_false]
                exact i3 x hx
            · have g3 : ¬ (t = 13 ∧ k' = b ∧ z = B 6 0) := fun q => g2 ⟨q.1, q.2.1⟩
              have g4 : ¬ (t = 13 ∧ k' = b ∧ z = k) := fun q => g2 ⟨q.1, q.2.1⟩
              simp only [setI_at, g3, g4, if_false]
              exact i4 t k' z g1 g2
  have entry2 : V yX1_placeLast cX1_placeLast 3 none d (QZ (fun σ' => PLD σ σ' b B p i w s)) 39 [some (vR 3 b), some (vI (PLC (eB B p i w s) (B 6 0))), none] [] σ := by
    refine V_aload_0 (pc := 39) dX1_placeLast_39 ?_
    refine V_gets (pc := 40) dX1_placeLast_40 gf_X1_58 (by omega) ?_
    refine V_aload_0 (pc := 43) dX1_placeLast_43 ?_
    refine V_geti (pc := 44) dX1_placeLast_44 gf_X1_30 (by omega) (v := B 6 0) (by first | exact h6 | (simp [setI_at, h6]; done)) ?_
    refine V_iload_1 (pc := 47) dX1_placeLast_47 ?_
    refine V_iast (pc := 48) dX1_placeLast_48 sh_12 (by omega) (by omega) ?_
    refine V_aload_0 (pc := 49) dX1_placeLast_49 ?_
    refine V_gets (pc := 50) dX1_placeLast_50 gf_X1_61 (by omega) ?_
    refine V_aload_0 (pc := 53) dX1_placeLast_53 ?_
    refine V_geti (pc := 54) dX1_placeLast_54 gf_X1_30 (by omega) (v := B 6 0) (by first | exact h6 | (simp [setI_at, h6]; done)) ?_
    refine V_iconst (pc := 57) dX1_placeLast_57 ?_
    refine V_iast (pc := 58) dX1_placeLast_58 sh_13 (by omega) (by omega) ?_
    refine V_iconst (pc := 59) dX1_placeLast_59 ?_
    refine V_istore_2 (pc := 60) dX1_placeLast_60 ?_
    refine V.sub (by simp only [subL, Option.some.injEq, Sum.inl.injEq, reduceCtorEq, true_or, or_true, false_or, true_and, and_true]; rfl) (loop2 0 (by omega) _ ⟨by simp [setI_at], by simp [setI_at, lst], fun x hx => ?_, fun t k z g1 g2 => ?_⟩)
    · have : ¬ x = B 6 0 := by omega
      have h0 : ¬ x < 0 := by omega
      simp [setI_at, this, h0]
    · have g3 : ¬ (t = 13 ∧ k = b ∧ z = B 6 0) := fun q => g2 ⟨q.1, q.2.1⟩
      simp only [setI_at, g1, g3, if_false]
  have loop1 : ∀ k : Nat, k ≤ (B 6 0).toNat → V yX1_placeLast cX1_placeLast 3 none d (QZ (fun σ' => PLD σ σ' b B p i w s)) 4 [some (vR 3 b), some (vI (PLN (eB B p i w s) (B 6 0) k)), some (vI (k : Int))] [] σ := by
    refine up_ind (P := fun k : Nat => V yX1_placeLast cX1_placeLast 3 none d (QZ (fun σ' => PLD σ σ' b B p i w s)) 4 [some (vR 3 b), some (vI (PLN (eB B p i w s) (B 6 0) k)), some (vI (k : Int))] [] σ) ?_ ?_
    ·
      refine V_iload_2 (pc := 4) dX1_placeLast_4 ?_
      refine V_aload_0 (pc := 5) dX1_placeLast_5 ?_
      refine V_geti (pc := 6) dX1_placeLast_6 gf_X1_30 (by omega) h6 ?_
      refine V_icmp_ge (pc := 9) 39 dX1_placeLast_9 (by decide) (by omega) (by omega) (fun c_9 => ?_) (fun c_9 => ?_)
      · refine V.sub (by simp only [subL, Option.some.injEq, Sum.inl.injEq, reduceCtorEq, true_or, or_true, false_or, true_and, and_true]; unfold PLC; rfl) entry2
      · exact absurd c_9 (by omega)
    · intro k hk ih
      have h11 := (h8 k (by omega)).2.2.2
      refine V_iload_2 (pc := 4) dX1_placeLast_4 ?_
      refine V_aload_0 (pc := 5) dX1_placeLast_5 ?_
      refine V_geti (pc := 6) dX1_placeLast_6 gf_X1_30 (by omega) h6 ?_
      refine V_icmp_ge (pc := 9) 39 dX1_placeLast_9 (by decide) (by omega) (by omega) (fun c_9 => ?_) (fun c_9 => ?_)
      · exact absurd c_9 (by omega)
      · refine V_aload_0 (pc := 12) dX1_placeLast_12 ?_
        refine V_gets (pc := 13) dX1_placeLast_13 gf_X1_46 (by omega) ?_
        refine V_iload_2 (pc := 16) dX1_placeLast_16 ?_
        refine V_iald (pc := 17) dX1_placeLast_17 sh_8 (by omega) (by omega) (h8 k (by omega)).1 ?_
        refine V_aload_0 (pc := 18) dX1_placeLast_18 ?_
        refine V_gets (pc := 19) dX1_placeLast_19 gf_X1_46 (by omega) ?_
        refine V_aload_0 (pc := 22) dX1_placeLast_22 ?_
        refine V_geti (pc := 23) dX1_placeLast_23 gf_X1_30 (by omega) h6 ?_
        refine V_iald (pc := 26) dX1_placeLast_26 sh_8 (by omega) (by omega) h8n ?_
        refine V_icmp_ne (pc := 27) 33 dX1_placeLast_27 (by decide) (by omega) (by omega) (fun c_27 => ?_) (fun c_27 => ?_)
        · refine V_iinc_2 (pc := 33) dX1_placeLast_33 ?_
          refine V_goto (pc := 36) 4 dX1_placeLast_36 (by decide) ?_
          have e : PLN (eB B p i w s) (B 6 0) (k + 1) = PLN (eB B p i w s) (B 6 0) k + bI (B 11 k = p) := by rw [PLN, eB_11, eB_11, if_neg (by omega), if_pos rfl]
          refine V.sub (by simp only [subL, Option.some.injEq, Sum.inl.injEq, reduceCtorEq, true_or, or_true, false_or, true_and, and_true]; rw [e, bI_f c_27]; exact ⟨by omega, by omega⟩) ih
        · refine V_iinc_1 (pc := 30) dX1_placeLast_30 ?_
          refine V_iinc_2 (pc := 33) dX1_placeLast_33 ?_
          refine V_goto (pc := 36) 4 dX1_placeLast_36 (by decide) ?_
          have e : PLN (eB B p i w s) (B 6 0) (k + 1) = PLN (eB B p i w s) (B 6 0) k + bI (B 11 k = p) := by rw [PLN, eB_11, eB_11, if_neg (by omega), if_pos rfl]
          refine V.sub (by simp only [subL, Option.some.injEq, Sum.inl.injEq, reduceCtorEq, true_or, or_true, false_or, true_and, and_true]; rw [e, bI_t c_27]; exact ⟨by omega, by omega⟩) ih
  refine V_iconst (pc := 0) dX1_placeLast_0 ?_
  refine V_istore_1 (pc := 1) dX1_placeLast_1 ?_
  refine V_iconst (pc := 2) dX1_placeLast_2 ?_
  refine V_istore_2 (pc := 3) dX1_placeLast_3 ?_
  exact loop1 0 (by omega)

set_option maxRecDepth 20000 in
set_option maxHeartbeats 1000000 in
theorem c_X1_addEntry {d : Nat} (hd : 1 ≤ d) {σ : MM} {b p i w s : Int} {B : BK} (hb : 0 ≤ b ∧ b < 6) (hB : CB σ b B) (hs : 0 ≤ B 6 0 ∧ B 6 0 < 7) (hp : 0 ≤ p ∧ p < 4) (hB4 : ∀ x : Int, 0 ≤ x ∧ x < B 6 0 → 0 ≤ B 11 x ∧ B 11 x < 4) : V yX1_addEntry cX1_addEntry 5 none d (QZ (fun σ' => CB σ' b (eB B p i w s) ∧ OffB b σ σ')) 0 [some (vR 3 b), some (vI p), some (vI i), some (vI w), some (vI s)] [] σ := by
  refine V_aload_0 (pc := 0) dX1_addEntry_0 ?_
  refine V_geti (pc := 1) dX1_addEntry_1 gf_X1_30 (by omega) (v := B 6 0) (by first | exact hB.s6 | (simp [setI_at, hB.s6]; done)) ?_
  refine V_bipush (pc := 4) dX1_addEntry_4 (by decide) ?_
  refine V_icmp_lt (pc := 6) 10 dX1_addEntry_6 (by decide) (by omega) (by omega) (fun c_6 => ?_) (fun c_6 => ?_)
  · refine V_aload_0 (pc := 10) dX1_addEntry_10 ?_
    refine V_gets (pc := 11) dX1_addEntry_11 gf_X1_46 (by omega) ?_
    refine V_aload_0 (pc := 14) dX1_addEntry_14 ?_
    refine V_geti (pc := 15) dX1_addEntry_15 gf_X1_30 (by omega) (v := B 6 0) (by first | exact hB.s6 | (simp [setI_at, hB.s6]; done)) ?_
    refine V_iload_1 (pc := 18) dX1_addEntry_18 ?_
    refine V_iast (pc := 19) dX1_addEntry_19 sh_8 (by omega) (by omega) ?_
    refine V_aload_0 (pc := 20) dX1_addEntry_20 ?_
    refine V_gets (pc := 21) dX1_addEntry_21 gf_X1_49 (by omega) ?_
    refine V_aload_0 (pc := 24) dX1_addEntry_24 ?_
    refine V_geti (pc := 25) dX1_addEntry_25 gf_X1_30 (by omega) (v := B 6 0) (by first | exact hB.s6 | (simp [setI_at, hB.s6]; done)) ?_
    refine V_iload_2 (pc := 28) dX1_addEntry_28 ?_
    refine V_iast (pc := 29) dX1_addEntry_29 sh_9 (by omega) (by omega) ?_
    refine V_aload_0 (pc := 30) dX1_addEntry_30 ?_
    refine V_gets (pc := 31) dX1_addEntry_31 gf_X1_52 (by omega) ?_
    refine V_aload_0 (pc := 34) dX1_addEntry_34 ?_
    refine V_geti (pc := 35) dX1_addEntry_35 gf_X1_30 (by omega) (v := B 6 0) (by first | exact hB.s6 | (simp [setI_at, hB.s6]; done)) ?_
    refine V_iload_3 (pc := 38) dX1_addEntry_38 ?_
    refine V_iast (pc := 39) dX1_addEntry_39 sh_10 (by omega) (by omega) ?_
    refine V_aload_0 (pc := 40) dX1_addEntry_40 ?_
    refine V_gets (pc := 41) dX1_addEntry_41 gf_X1_55 (by omega) ?_
    refine V_aload_0 (pc := 44) dX1_addEntry_44 ?_
    refine V_geti (pc := 45) dX1_addEntry_45 gf_X1_30 (by omega) (v := B 6 0) (by first | exact hB.s6 | (simp [setI_at, hB.s6]; done)) ?_
    refine V_iload_4 (pc := 48) dX1_addEntry_48 ?_
    refine V_iast (pc := 50) dX1_addEntry_50 sh_11 (by omega) (by omega) ?_
    refine V_aload_0 (pc := 51) dX1_addEntry_51 ?_
    refine V_callV0z (pc := 52) dX1_addEntry_52 kv_X1_84 rc_3 (by omega) (d - 1) (by omega) rfl (c_X1_placeLast (by omega) (p := p) (i := i) (w := w) (s := s) hb hs hp (by simp [setI_at, hB.s6]) (fun x hx => by have n6 : ¬ x = B 6 0 := (by omega); simp only [setI_at, n6]; simp [hB.a8 hx, hB.a12 hx, hB.a13 hx]; exact hB4 x hx) (by simp [setI_at])) (fun σ_52 h_52 => ?_)
    refine V_aload_0 (pc := 55) dX1_addEntry_55 ?_
    refine V_dup (pc := 56) dX1_addEntry_56 rfl ?_
    refine V_geti (pc := 57) dX1_addEntry_57 gf_X1_30 (by omega) (v := B 6 0) (by rw [h_52.2.2 3 b 6 (by omega) (by omega)]; simp [setI_at, hB.s6]) ?_
    refine V_iconst (pc := 60) dX1_addEntry_60 ?_
    refine V_iadd (pc := 61) dX1_addEntry_61 ?_
    refine V_puti (pc := 62) dX1_addEntry_62 gf_X1_30 (by omega) ?_
    refine V_vret (pc := 65) dX1_addEntry_65 rfl ?_
    refine ⟨rfl, CB_entry hB hs.1 h_52, fun t k z h => ?_⟩
    have g0 : ¬ (t = 3 ∧ k = b ∧ z = 6) := fun q => h ⟨by omega, by omega, q.2.1⟩
    have g1 : ¬ (t = 8 ∧ k = b ∧ z = B 6 0) := fun q => h ⟨by omega, by omega, q.2.1⟩
    have g2 : ¬ (t = 9 ∧ k = b ∧ z = B 6 0) := fun q => h ⟨by omega, by omega, q.2.1⟩
    have g3 : ¬ (t = 10 ∧ k = b ∧ z = B 6 0) := fun q => h ⟨by omega, by omega, q.2.1⟩
    have g4 : ¬ (t = 11 ∧ k = b ∧ z = B 6 0) := fun q => h ⟨by omega, by omega, q.2.1⟩
    simp only [setI_at, g0, if_false]
    rw [h_52.2.2 t k z (fun q => h ⟨by omega, by omega, q.2.1⟩) (fun q => h ⟨by omega, by omega, q.2⟩)]
    simp only [setI_at, g1, g2, g3, g4, if_false]
  · exact absurd c_6 (by omega)
