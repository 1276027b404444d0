set_option maxRecDepth 20000 in
set_option maxHeartbeats 1000000 in
theorem c_X0_add {d : Nat} (hd : 0 ≤ d) {σ : MM} {b e i y n : Int} (hb : 0 ≤ b ∧ b < 6) (hn : 0 ≤ n ∧ n < 40) (h0 : σ 14 b 3 = n) : V yX0_add cX0_add 4 none d (QZ (fun σ' => σ' = setI (setI (setI (setI σ 15 b n e) 16 b n i) 17 b n y) 14 b 3 (n + 1))) 0 [some (vR 14 b), some (vI e), some (vI i), some (vI y)] [] σ := by
  refine V_aload_0 (pc := 0) dX0_add_0 ?_
  refine V_geti (pc := 1) dX0_add_1 gf_X0_21 (by omega) (by first | exact h0 | (simp [setI_at]; exact h0)) ?_
  refine V_bipush (pc := 4) dX0_add_4 (by decide) ?_
  refine V_icmp_ge (pc := 6) 49 dX0_add_6 (by decide) (by omega) (by omega) (fun c_6 => ?_) (fun c_6 => ?_)
  · exact absurd c_6 (by omega)
  · refine V_aload_0 (pc := 9) dX0_add_9 ?_
    refine V_gets (pc := 10) dX0_add_10 gf_X0_11 (by omega) ?_
    refine V_aload_0 (pc := 13) dX0_add_13 ?_
    refine V_geti (pc := 14) dX0_add_14 gf_X0_21 (by omega) (by first | exact h0 | (simp [setI_at]; exact h0)) ?_
    refine V_iload_1 (pc := 17) dX0_add_17 ?_
    refine V_iast (pc := 18) dX0_add_18 sh_15 (by omega) (by omega) ?_
    refine V_aload_0 (pc := 19) dX0_add_19 ?_
    refine V_gets (pc := 20) dX0_add_20 gf_X0_15 (by omega) ?_
    refine V_aload_0 (pc := 23) dX0_add_23 ?_
    refine V_geti (pc := 24) dX0_add_24 gf_X0_21 (by omega) (by first | exact h0 | (simp [setI_at]; exact h0)) ?_
    refine V_iload_2 (pc := 27) dX0_add_27 ?_
    refine V_iast (pc := 28) dX0_add_28 sh_16 (by omega) (by omega) ?_
    refine V_aload_0 (pc := 29) dX0_add_29 ?_
    refine V_gets (pc := 30) dX0_add_30 gf_X0_18 (by omega) ?_
    refine V_aload_0 (pc := 33) dX0_add_33 ?_
    refine V_geti (pc := 34) dX0_add_34 gf_X0_21 (by omega) (by first | exact h0 | (simp [setI_at]; exact h0)) ?_
    refine V_iload_3 (pc := 37) dX0_add_37 ?_
    refine V_iast (pc := 38) dX0_add_38 sh_17 (by omega) (by omega) ?_
    refine V_aload_0 (pc := 39) dX0_add_39 ?_
    refine V_dup (pc := 40) dX0_add_40 rfl ?_
    refine V_geti (pc := 41) dX0_add_41 gf_X0_21 (by omega) (by first | exact h0 | (simp [setI_at]; exact h0)) ?_
    refine V_iconst (pc := 44) dX0_add_44 ?_
    refine V_iadd (pc := 45) dX0_add_45 ?_
    refine V_puti (pc := 46) dX0_add_46 gf_X0_21 (by omega) ?_
    refine V_vret (pc := 49) dX0_add_49 rfl ?_
    exact ⟨rfl, rfl⟩

set_option maxRecDepth 20000 in
set_option maxHeartbeats 1000000 in
theorem c_X0_copyFrom {d : Nat} (hd : 2 ≤ d) {σ : MM} {b b2 : Int} (hb : 0 ≤ b ∧ b < 6) (hb2 : 0 ≤ b2 ∧ b2 < 6) (hne : ¬ b2 = b) (hn : 0 ≤ σ 14 b2 3 ∧ σ 14 b2 3 ≤ 40) : V yX0_copyFrom cX0_copyFrom 2 none d (QZ (fun σ' => AcCp b b2 σ σ')) 0 [some (vR 14 b), some (vR 14 b2)] [] σ := by
  have hne2 : ¬ b = b2 := fun q => hne q.symm
  refine V_aload_0 (pc := 0) dX0_copyFrom_0 ?_
  refine V_aload_1 (pc := 1) dX0_copyFrom_1 ?_
  refine V_geti (pc := 2) dX0_copyFrom_2 gf_X0_21 (by omega) (v := σ 14 b2 3) (by first | rfl | (simp [setI_at, putI_at, hne]; done)) ?_
  refine V_puti (pc := 5) dX0_copyFrom_5 gf_X0_21 (by omega) ?_
  refine V_aload_1 (pc := 8) dX0_copyFrom_8 ?_
  refine V_gets (pc := 9) dX0_copyFrom_9 gf_X0_11 (by omega) ?_
  refine V_iconst (pc := 12) dX0_copyFrom_12 ?_
  refine V_aload_0 (pc := 13) dX0_copyFrom_13 ?_
  refine V_gets (pc := 14) dX0_copyFrom_14 gf_X0_11 (by omega) ?_
  refine V_iconst (pc := 17) dX0_copyFrom_17 ?_
  refine V_aload_1 (pc := 18) dX0_copyFrom_18 ?_
  refine V_geti (pc := 19) dX0_copyFrom_19 gf_X0_21 (by omega) (v := σ 14 b2 3) (by first | rfl | (simp [setI_at, putI_at, hne]; done)) ?_
  refine V_cpI (pc := 22) dX0_copyFrom_22 cpy_X0_25 (by omega) sh_15 sh_15 (by omega) (by omega) (by omega) (by omega) (by omega) (by omega) (by omega) ?_
  refine V_aload_1 (pc := 25) dX0_copyFrom_25 ?_
  refine V_gets (pc := 26) dX0_copyFrom_26 gf_X0_15 (by omega) ?_
  refine V_iconst (pc := 29) dX0_copyFrom_29 ?_
  refine V_aload_0 (pc := 30) dX0_copyFrom_30 ?_
  refine V_gets (pc := 31) dX0_copyFrom_31 gf_X0_15 (by omega) ?_
  refine V_iconst (pc := 34) dX0_copyFrom_34 ?_
  refine V_aload_1 (pc := 35) dX0_copyFrom_35 ?_
  refine V_geti (pc := 36) dX0_copyFrom_36 gf_X0_21 (by omega) (v := σ 14 b2 3) (by first | rfl | (simp [setI_at, putI_at, hne]; done)) ?_
  refine V_cpI (pc := 39) dX0_copyFrom_39 cpy_X0_25 (by omega) sh_16 sh_16 (by omega) (by omega) (by omega) (by omega) (by omega) (by omega) (by omega) ?_
  refine V_aload_1 (pc := 42) dX0_copyFrom_42 ?_
  refine V_gets (pc := 43) dX0_copyFrom_43 gf_X0_18 (by omega) ?_
  refine V_iconst (pc := 46) dX0_copyFrom_46 ?_
  refine V_aload_0 (pc := 47) dX0_copyFrom_47 ?_
  refine V_gets (pc := 48) dX0_copyFrom_48 gf_X0_18 (by omega) ?_
  refine V_iconst (pc := 51) dX0_copyFrom_51 ?_
  refine V_aload_1 (pc := 52) dX0_copyFrom_52 ?_
  refine V_geti (pc := 53) dX0_copyFrom_53 gf_X0_21 (by omega) (v := σ 14 b2 3) (by first | rfl | (simp [setI_at, putI_at, hne]; done)) ?_
  refine V_cpI (pc := 56) dX0_copyFrom_56 cpy_X0_25 (by omega) sh_17 sh_17 (by omega) (by omega) (by omega) (by omega) (by omega) (by omega) (by omega) ?_
  refine V_vret (pc := 59) dX0_copyFrom_59 rfl ?_
  refine ⟨rfl, by simp [setI_at, putI_at], fun i hi => ?_, fun t k z h => ?_⟩
  · have e : (0 ≤ i ∧ i < 0 + σ 14 b2 3) := by omega
    simp [setI_at, putI_at, cpy, hne, e]
    omega
  · have e15 : ¬ (t = 15 ∧ k = b) := by omega
    have e16 : ¬ (t = 16 ∧ k = b) := by omega
    have e17 : ¬ (t = 17 ∧ k = b) := by omega
    have e14 : ¬ (t = 14 ∧ k = b ∧ z = 3) := by omega
    simp only [setI_at, putI_at, e15, e16, e17, e14, if_false]
