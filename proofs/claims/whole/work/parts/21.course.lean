set_option maxRecDepth 20000 in
set_option maxHeartbeats 1000000 in
theorem c_X5_hasBit {d : Nat} (hd : 0 ≤ d) {σ : MM} {r i : Int} (hr : 0 ≤ r ∧ r ≤ 2147483647) (hi : 0 ≤ i ∧ i < 31) : V yX5_hasBit cX5_hasBit 2 (some .boolean) d (QI (fun v σ' => v = bI (bt r i = 1) ∧ σ' = σ)) 0 [some (vI r), some (vI i)] [] σ := by
  have hq : 0 ≤ r / p2 i := Int.ediv_nonneg hr.1 (by have := p2_pos i; omega)
  refine V_iload_0 (pc := 0) dX5_hasBit_0 ?_
  refine V_iload_1 (pc := 1) dX5_hasBit_1 ?_
  refine V_ishr_p (pc := 2) dX5_hasBit_2 (by omega) (by omega) ?_
  refine V_iconst (pc := 3) dX5_hasBit_3 ?_
  refine V_iand_1 (pc := 4) dX5_hasBit_4 (by omega) ?_
  refine V_iconst (pc := 5) dX5_hasBit_5 ?_
  refine V_icmp_ne (pc := 6) 13 dX5_hasBit_6 (by decide) (by omega) (by omega) (fun c_6 => ?_) (fun c_6 => ?_)
  · refine V_iconst (pc := 13) dX5_hasBit_13 ?_
    refine V_iretZ (pc := 14) dX5_hasBit_14 rfl (by omega) ?_
    exact ⟨_, rfl, by unfold bI bt; split <;> omega, rfl⟩
  · refine V_iconst (pc := 9) dX5_hasBit_9 ?_
    refine V_goto (pc := 10) 14 dX5_hasBit_10 (by decide) ?_
    refine V_iretZ (pc := 14) dX5_hasBit_14 rfl (by omega) ?_
    exact ⟨_, rfl, by unfold bI bt; split <;> omega, rfl⟩

set_option maxRecDepth 20000 in
set_option maxHeartbeats 1000000 in
theorem c_X2_setShade {d : Nat} (hd : 0 ≤ d) {σ : MM} {j e y n top : Int} (hj : 0 ≤ j ∧ j < 2) (he : 0 ≤ e ∧ e < 7) (hy : 0 ≤ y ∧ y < 21) (hn : IR n) (ht : IR top) (hr : 0 ≤ σ 21 j y ∧ σ 21 j y < p2 7) : V yX2_setShade cX2_setShade 5 none d (QZ (fun σ' => RowUp σ σ' j y (upA (RS σ j y) e n (RS σ j y 1 e) (bI (n < top))))) 0 [some (vR 18 j), some (vI e), some (vI y), some (vI n), some (vI top)] [] σ := by
  refine V_aload_0 (pc := 0) dX2_setShade_0 ?_
  refine V_gets (pc := 1) dX2_setShade_1 gf_X2_11 (by omega) ?_
  refine V_iload_2 (pc := 4) dX2_setShade_4 ?_
  refine V_aald_19 (pc := 5) dX2_setShade_5 (by omega) (by omega) ?_
  refine V_iload_1 (pc := 6) dX2_setShade_6 ?_
  refine V_iload_3 (pc := 7) dX2_setShade_7 ?_
  refine V_iast (pc := 8) dX2_setShade_8 sh_22 (by omega) (by omega) ?_
  refine V_iload_3 (pc := 9) dX2_setShade_9 ?_
  refine V_iload_4 (pc := 10) dX2_setShade_10 ?_
  refine V_icmp_ge (pc := 12) 30 dX2_setShade_12 (by decide) (by omega) (by omega) (fun c_12 => ?_) (fun c_12 => ?_)
  · refine V_aload_0 (pc := 30) dX2_setShade_30 ?_
    refine V_gets (pc := 31) dX2_setShade_31 gf_X2_19 (by omega) ?_
    refine V_iload_2 (pc := 34) dX2_setShade_34 ?_
    refine V_dup2 (pc := 35) dX2_setShade_35 rfl rfl ?_
    refine V_iald (pc := 36) dX2_setShade_36 sh_21 (by omega) (by omega) (by rw [setI_tag (by decide)]) ?_
    refine V_iconst (pc := 37) dX2_setShade_37 ?_
    refine V_iload_1 (pc := 38) dX2_setShade_38 ?_
    refine V_ishl_1 (pc := 39) dX2_setShade_39 (by omega) ?_
    refine V_iconst (pc := 40) dX2_setShade_40 ?_
    refine V_ixor_m1 (pc := 41) dX2_setShade_41 ?_
    refine V_iand_clr (pc := 42) dX2_setShade_42 (by omega) (by omega) ?_
    refine V_iast (pc := 43) dX2_setShade_43 sh_21 (by omega) (by omega) ?_
    refine V_vret (pc := 44) dX2_setShade_44 rfl ?_
    exact ⟨rfl, RowUp_mk (clrB_in (n := 7) hr) (fun x hx => by rw [bt_clrB hr.1 he.1 hx, bI_f (by omega)])⟩
  · refine V_aload_0 (pc := 15) dX2_setShade_15 ?_
    refine V_gets (pc := 16) dX2_setShade_16 gf_X2_19 (by omega) ?_
    refine V_iload_2 (pc := 19) dX2_setShade_19 ?_
    refine V_dup2 (pc := 20) dX2_setShade_20 rfl rfl ?_
    refine V_iald (pc := 21) dX2_setShade_21 sh_21 (by omega) (by omega) (by rw [setI_tag (by decide)]) ?_
    refine V_iconst (pc := 22) dX2_setShade_22 ?_
    refine V_iload_1 (pc := 23) dX2_setShade_23 ?_
    refine V_ishl_1 (pc := 24) dX2_setShade_24 (by omega) ?_
    refine V_ior_set (pc := 25) dX2_setShade_25 (by omega) (by omega) ?_
    refine V_iast (pc := 26) dX2_setShade_26 sh_21 (by omega) (by omega) ?_
    refine V_goto (pc := 27) 44 dX2_setShade_27 (by decide) ?_
    refine V_vret (pc := 44) dX2_setShade_44 rfl ?_
    exact ⟨rfl, RowUp_mk (setB_in (n := 7) hr he) (fun x hx => by rw [bt_setB hr.1 he.1 hx, bI_t (by omega)])⟩

set_option maxRecDepth 20000 in
set_option maxHeartbeats 1000000 in
theorem c_X2_inked {d : Nat} (hd : 2 ≤ d) {σ : MM} {j b : Int} {B : BK} {e i y : Int} (hj : 0 ≤ j ∧ j < 2) (hb : 0 ≤ b ∧ b < 6) (hB : CB σ b B) (hW : WB B) (he : 0 ≤ e ∧ e < B 6 0) (hi : 0 ≤ i ∧ i < B 4 0) (hy : 0 ≤ y ∧ y < 21) (hr : 0 ≤ σ 21 j y ∧ σ 21 j y < p2 7) : V yX2_inked cX2_inked 5 none d (QZ (fun σ' => RowUp σ σ' j y (NEW B (RS σ j y) e i))) 0 [some (vR 18 j), some (vR 3 b), some (vI e), some (vI i), some (vI y)] [] σ := by
  have hs := hW.s
  have h1 := hW.i hi
  have hU := RowUp_ik (σ := σ) (j := j) (y := y) (e := e) (n := i) hr
  have hB1 := hU.2.2.CB hB
  refine V_aload_0 (pc := 0) dX2_inked_0 ?_
  refine V_gets (pc := 1) dX2_inked_1 gf_X2_16 (by omega) ?_
  refine V_iload_4 (pc := 4) dX2_inked_4 ?_
  refine V_aald_20 (pc := 6) dX2_inked_6 (by omega) (by omega) ?_
  refine V_iload_2 (pc := 7) dX2_inked_7 ?_
  refine V_iload_3 (pc := 8) dX2_inked_8 ?_
  refine V_iast (pc := 9) dX2_inked_9 sh_23 (by omega) (by omega) ?_
  refine V_aload_0 (pc := 10) dX2_inked_10 ?_
  refine V_iload_2 (pc := 11) dX2_inked_11 ?_
  refine V_iload_4 (pc := 12) dX2_inked_12 ?_
  refine V_aload_1 (pc := 14) dX2_inked_14 ?_
  refine V_iconst (pc := 15) dX2_inked_15 ?_
  refine V_iload_3 (pc := 16) dX2_inked_16 ?_
  refine V_callV2p (pc := 17) dX2_inked_17 kv_X2_82 rc_3 (by omega) (d - 1) (by omega) rfl (c_X1_risen (by omega) hb hB1 hW hi (by omega)) ?_
  refine V_aload_1 (pc := 20) dX2_inked_20 ?_
  refine V_gets (pc := 21) dX2_inked_21 gf_X2_86 (by omega) ?_
  refine V_iload_3 (pc := 24) dX2_inked_24 ?_
  refine V_iald (pc := 25) dX2_inked_25 sh_5 (by omega) (by omega) (hB1.a5 hi) ?_
  refine V_callV4z (pc := 26) dX2_inked_26 kv_X2_89 rc_18 (by omega) (d - 1) (by omega) rfl (c_X2_setShade (by omega) hj (by omega) hy (by omega) (by omega) hU.1) (fun σ_26 h_26 => ?_)
  refine V_vret (pc := 29) dX2_inked_29 rfl ?_
  refine ⟨rfl, (hU.tr h_26).cong (fun f x hx => ?_)⟩
  rw [Int.zero_add]
  have e1 := hU.2.1
  unfold NEW
  rw [e1 1 e he.1]
  rw [upA_cong e1 f x hx, upA_upA]
  simp [upA]
