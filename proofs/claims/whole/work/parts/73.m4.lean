theorem TOT_sum {B E : BK} (h1 : E 1 0 = B 1 0) (h6 : E 6 0 = B 6 0) : sumN (fun e => SHD E (bt 0) (B 1 0) e) (B 6 0).toNat = TOT E := by
  unfold TOT ALS SHD
  rw [h1, h6]
theorem c_allT {d : Nat} (hd : 1 ≤ d) {σ : MM} {B E : BK} (hM : MB σ 0 B) (hW : WB B) (hL : LD σ B E 0) (hS : SHM σ B E 0) : V yX6_allAt cX6_allAt 4 (some .int) d (QI (fun v σ' => v = TOT E ∧ σ' = σ)) 0 [some (vR 34 0), some (vI (B 1 0)), none, none] [] σ := by
  have h := c_X6_allAt hd hM hW hL hS (y := B 1 0) (by have := hW.s; omega)
  rw [TOT_sum hL.s1 hL.s6] at h
  exact h

set_option maxRecDepth 20000 in
set_option maxHeartbeats 1000000 in
theorem c_X6_allBy {d : Nat} (hd : 4 ≤ d) {σ : MM} {B : BK} {l : Int} (hM : MB σ 0 B) (hW : WB B) (hl : 0 ≤ l ∧ l ≤ 3) : V yX6_allBy cX6_allBy 2 (some .int) d (QI (fun v σ' => v = TOT (sB B 2 0 l) ∧ (MB σ' 0 B ∧ LD σ' B (sB B 2 0 l) 0 ∧ SHM σ' B (sB B 2 0 l) 0) ∧ KM σ σ')) 0 [some (vR 34 0), some (vI l)] [] σ := by
  have hs := hW.s
  have hM0 := hM
  refine V_aload_0 (pc := 0) dX6_allBy_0 ?_
  refine V_callV0z (pc := 1) dX6_allBy_1 kv_X6_315 rc_34 (by omega) (d - 1) (by omega) rfl (c_X6_lays (by omega) hM hW) (fun σ_1 h_1 => ?_)
  obtain ⟨hL, hKl⟩ := h_1
  have hK := KM.rf.tr hKl
  have hM := hK.mb hM0
  refine V_aload_0 (pc := 4) dX6_allBy_4 ?_
  refine V_iload_1 (pc := 5) dX6_allBy_5 ?_
  refine V_puti (pc := 6) dX6_allBy_6 gf_X6_252 (by omega) ?_
  refine V_aload_0 (pc := 9) dX6_allBy_9 ?_
  have hL := hL.p_law hl
  have hK := hK.tr (KM.set (t := 34) (k := 0) (z := 23) (v := l) (by unfold SCM; omega))
  have hM := hK.mb hM0
  refine V_callV0z (pc := 10) dX6_allBy_10 kv_X6_318 rc_34 (by omega) (d - 1) (by omega) rfl (c_X6_runs (by omega) hM hW hL) (fun σ_10 h_10 => ?_)
  obtain ⟨hS, hR_⟩ := h_10
  have hL := hR_.ld hL
  have hK := hK.tr hR_.km
  have hM := hK.mb hM0
  refine V_aload_0 (pc := 13) dX6_allBy_13 ?_
  refine V_aload_0 (pc := 14) dX6_allBy_14 ?_
  refine V_callV0p (pc := 15) dX6_allBy_15 kv_X6_243 rc_34 (by omega) (d - 1) (by omega) rfl (c_X6_years (by omega) hM hW) ?_
  refine V_callV1p (pc := 18) dX6_allBy_18 kv_X6_346 rc_34 (by omega) (d - 1) (by omega) rfl (c_allT (by omega) hM hW hL hS) ?_
  refine V_iretI (pc := 21) dX6_allBy_21 rfl ?_
  exact ⟨_, rfl, rfl, ⟨hM, hL, hS⟩, hK⟩

set_option maxRecDepth 20000 in
set_option maxHeartbeats 1000000 in
theorem c_X6_by {d : Nat} (hd : 5 ≤ d) {σ : MM} {B : BK} {l : Int} (hM : MB σ 0 B) (hG : GB B) (hl : IR l) : V yX6_by cX6_by 2 (some .int) d (QI (fun v σ' => v = q_by B l ∧ KM σ σ')) 0 [some (vR 34 0), some (vI l)] [] σ := by
  have hW := hG.w
  have hs := hW.s
  have hM0 := hM
  refine V_aload_0 (pc := 0) dX6_by_0 ?_
  refine V_iconst (pc := 1) dX6_by_1 ?_
  refine V_puti (pc := 2) dX6_by_2 gf_X6_74 (by omega) ?_
  have hM := (KM.set (σ := σ) (t := 34) (k := 0) (z := 0) (v := 0) (by unfold SCM; omega)).mb hM
  refine V_aload_0 (pc := 5) dX6_by_5 ?_
  refine V_callV0p (pc := 6) dX6_by_6 kv_X6_240 rc_34 (by omega) (d - 1) (by omega) rfl (c_X6_isBook (by omega) hM hW) ?_
  refine V_if_eq_b (pc := 9) 32 dX6_by_9 (by decide) (fun c_9 => ?_) (fun c_9 => ?_)
  · refine V_bipush (pc := 32) dX6_by_32 (by decide) ?_
    refine V_iretI (pc := 34) dX6_by_34 rfl ?_
    first | exact ⟨_, rfl, by unfold q_by; rw [if_pos (by omega)], (KM.set (σ := σ) (t := 34) (k := 0) (z := 0) (v := 0) (by unfold SCM; omega))⟩ | exact ⟨_, rfl, by unfold q_by; rw [if_neg (by omega)]; exact h_26.1, (KM.set (σ := σ) (t := 34) (k := 0) (z := 0) (v := 0) (by unfold SCM; omega)).tr h_26.2.2⟩
  · refine V_iload_1 (pc := 12) dX6_by_12 ?_
    refine V_i2l (pc := 13) dX6_by_13 (by omega) ?_
    refine V_lconst (pc := 14) dX6_by_14 (z := 0) rfl ?_
    refine V_ldc2 (pc := 15) dX6_by_15 (z := 3) ldc_X6_77 ?_
    refine V_callS3p (pc := 18) dX6_by_18 kv_X6_79 (d - 1) (by omega) rfl (c_X6_in (by omega) (by omega) (by omega) (by omega)) ?_
    refine V_if_eq_b (pc := 21) 32 dX6_by_21 (by decide) (fun c_21 => ?_) (fun c_21 => ?_)
    · refine V_bipush (pc := 32) dX6_by_32 (by decide) ?_
      refine V_iretI (pc := 34) dX6_by_34 rfl ?_
      first | exact ⟨_, rfl, by unfold q_by; rw [if_pos (by omega)], (KM.set (σ := σ) (t := 34) (k := 0) (z := 0) (v := 0) (by unfold SCM; omega))⟩ | exact ⟨_, rfl, by unfold q_by; rw [if_neg (by omega)]; exact h_26.1, (KM.set (σ := σ) (t := 34) (k := 0) (z := 0) (v := 0) (by unfold SCM; omega)).tr h_26.2.2⟩
    · refine V_aload_0 (pc := 24) dX6_by_24 ?_
      refine V_iload_1 (pc := 25) dX6_by_25 ?_
      refine V_callV1i (pc := 26) dX6_by_26 kv_X6_390 rc_34 (by omega) (d - 1) (by omega) rfl (c_X6_allBy (by omega) hM hW (by omega)) (fun v_26 σ_26 h_26 => ?_)
      refine V_goto (pc := 29) 34 dX6_by_29 (by decide) ?_
      refine V_iretI (pc := 34) dX6_by_34 rfl ?_
      first | exact ⟨_, rfl, by unfold q_by; rw [if_pos (by omega)], (KM.set (σ := σ) (t := 34) (k := 0) (z := 0) (v := 0) (by unfold SCM; omega))⟩ | exact ⟨_, rfl, by unfold q_by; rw [if_neg (by omega)]; exact h_26.1, (KM.set (σ := σ) (t := 34) (k := 0) (z := 0) (v := 0) (by unfold SCM; omega)).tr h_26.2.2⟩

set_option maxRecDepth 20000 in
set_option maxHeartbeats 1000000 in
theorem c_X6_law {d : Nat} (hd : 5 ≤ d) {σ : MM} {B : BK} (hM : MB σ 0 B) (hG : GB B) : V yX6_law cX6_law 3 (some .int) d (QI (fun v σ' => v = q_law B ∧ KM σ σ')) 0 [some (vR 34 0), none, none] [] σ := by
  have hW := hG.w
  have hs := hW.s
  have hM0 := hM
  have loop : (¬ B 0 0 = 0) → ∀ i : Nat, i ≤ 3 → ∀ σi : MM, (KM σ σi) → V yX6_law cX6_law 3 (some .int) d (QI (fun v σ' => v = q_law B ∧ KM σ σ')) 19 [some (vR 34 0), some (vI (mxN (fun l => TOT (sB B 2 0 l)) i)), some (vI ((i : Int) + 1))] [] σi := by
    intro hR
    refine up_ind (P := fun i : Nat => ∀ σi : MM, (KM σ σi) → V yX6_law cX6_law 3 (some .int) d (QI (fun v σ' => v = q_law B ∧ KM σ σ')) 19 [some (vR 34 0), some (vI (mxN (fun l => TOT (sB B 2 0 l)) i)), some (vI ((i : Int) + 1))] [] σi) ?_ ?_
    · intro σi hI
      have hK := hI
      have hM := hK.mb hM0
      refine V_iload_2 (pc := 19) dX6_law_19 ?_
      refine V_iconst (pc := 20) dX6_law_20 ?_
      refine V_icmp_ge (pc := 21) 45 dX6_law_21 (by decide) (by omega) (by omega) (fun c_21 => ?_) (fun c_21 => ?_)
      · refine V_iload_1 (pc := 45) dX6_law_45 ?_
        refine V_iretI (pc := 46) dX6_law_46 rfl ?_
        exact ⟨_, rfl, by unfold q_law; rw [if_neg (by omega)], hK⟩
      · exact absurd c_21 (by omega)
    · intro i hi ih σi hI
      have hK := hI
      have hM := hK.mb hM0
      have h0 := mxN_in (fun l => TOT (sB B 2 0 l)) i
      have t1 := TOT_in (WB_law (v := mxN (fun l => TOT (sB B 2 0 l)) i) hW (by omega))
      have t2 := TOT_in (WB_law (v := (i : Int) + 1) hW (by omega))
      have hS_ : mxN (fun l => TOT (sB B 2 0 l)) (i + 1) = if TOT (sB B 2 0 (mxN (fun l => TOT (sB B 2 0 l)) i)) < TOT (sB B 2 0 ((i : Int) + 1)) then (i : Int) + 1 else mxN (fun l => TOT (sB B 2 0 l)) i := rfl
      refine V_iload_2 (pc := 19) dX6_law_19 ?_
      refine V_iconst (pc := 20) dX6_law_20 ?_
      refine V_icmp_ge (pc := 21) 45 dX6_law_21 (by decide) (by omega) (by omega) (fun c_21 => ?_) (fun c_21 => ?_)
      · exact absurd c_21 (by omega)
      · refine V_aload_0 (pc := 24) dX6_law_24 ?_
        refine V_iload_2 (pc := 25) dX6_law_25 ?_
        refine V_callV1i (pc := 26) dX6_law_26 kv_X6_390 rc_34 (by omega) (d - 1) (by omega) rfl (c_X6_allBy (by omega) hM hW (by omega)) (fun v_26 σ_26 h_26 => ?_)
        obtain ⟨e1, ⟨hM, _, _⟩, hK1⟩ := h_26
        have hK := hK.tr hK1
        refine V_aload_0 (pc := 29) dX6_law_29 ?_
        refine V_iload_1 (pc := 30) dX6_law_30 ?_
        refine V_callV1i (pc := 31) dX6_law_31 kv_X6_390 rc_34 (by omega) (d - 1) (by omega) rfl (c_X6_allBy (by omega) hM hW (by omega)) (fun v_31 σ_31 h_31 => ?_)
        obtain ⟨e2, _, hK2⟩ := h_31
        have hK := hK.tr hK2
        refine V_icmp_le (pc := 34) 39 dX6_law_34 (by decide) (by omega) (by omega) (fun c_34 => ?_) (fun c_34 => ?_)
        · refine V_iinc_2 (pc := 39) dX6_law_39 ?_
          refine V_goto (pc := 42) 19 dX6_law_42 (by decide) ?_
          refine V.sub (by simp only [subL, Option.some.injEq, Sum.inl.injEq, Sum.inr.injEq, reduceCtorEq, true_or, or_true, false_or, true_and, and_true]; first | (rw [hS_, if_pos (by omega)]; exact ⟨rfl, by omega⟩) | (rw [hS_, if_neg (by omega)]; exact ⟨rfl, by omega⟩)) (ih _ hK)
        · refine V_iload_2 (pc := 37) dX6_law_37 ?_
          refine V_istore_1 (pc := 38) dX6_law_38 ?_
          refine V_iinc_2 (pc := 39) dX6_law_39 ?_
          refine V_goto (pc := 42) 19 dX6_law_42 (by decide) ?_
          refine V.sub (by simp only [subL, Option.some.injEq, Sum.inl.injEq, Sum.inr.injEq, reduceCtorEq, true_or, or_true, false_or, true_and, and_true]; first | (rw [hS_, if_pos (by omega)]; exact ⟨rfl, by omega⟩) | (rw [hS_, if_neg (by omega)]; exact ⟨rfl, by omega⟩)) (ih _ hK)
  refine V_aload_0 (pc := 0) dX6_law_0 ?_
  refine V_iconst (pc := 1) dX6_law_1 ?_
  refine V_puti (pc := 2) dX6_law_2 gf_X6_74 (by omega) ?_
  have hM := (KM.set (σ := σ) (t := 34) (k := 0) (z := 0) (v := 0) (by unfold SCM; omega)).mb hM
  refine V_aload_0 (pc := 5) dX6_law_5 ?_
  refine V_callV0p (pc := 6) dX6_law_6 kv_X6_240 rc_34 (by omega) (d - 1) (by omega) rfl (c_X6_isBook (by omega) hM hW) ?_
  refine V_if_ne_b (pc := 9) 15 dX6_law_9 (by decide) (fun c_9 => ?_) (fun c_9 => ?_)
  · refine V_iconst (pc := 15) dX6_law_15 ?_
    refine V_istore_1 (pc := 16) dX6_law_16 ?_
    refine V_iconst (pc := 17) dX6_law_17 ?_
    refine V_istore_2 (pc := 18) dX6_law_18 ?_
    exact loop (by omega) 0 (by omega) _ (KM.set (σ := σ) (t := 34) (k := 0) (z := 0) (v := 0) (by unfold SCM; omega))
  · refine V_bipush (pc := 12) dX6_law_12 (by decide) ?_
    refine V_iretI (pc := 14) dX6_law_14 rfl ?_
    exact ⟨_, rfl, by unfold q_law; rw [if_pos (by omega)], (KM.set (σ := σ) (t := 34) (k := 0) (z := 0) (v := 0) (by unfold SCM; omega))⟩

set_option maxRecDepth 20000 in
set_option maxHeartbeats 1000000 in
theorem c_X6_later {d : Nat} (hd : 4 ≤ d) {σ : MM} {B : BK} {e n : Int} (hM : MB σ 0 B) (hG : GB B) (he : IR e) (hn : IR n) : V yX6_later cX6_later 3 (some .int) d (QI (fun v σ' => v = q_later B e n ∧ KM σ σ')) 0 [some (vR 34 0), some (vI e), some (vI n)] [] σ := by
  have hW := hG.w
  have hs := hW.s
  have hM0 := hM
  have hwe := fun q : 0 ≤ e ∧ e < B 6 0 => hW.e q
  have hne := fun q : 0 ≤ e ∧ e < B 6 0 => hG.n q
  refine V_aload_0 (pc := 0) dX6_later_0 ?_
  refine V_iconst (pc := 1) dX6_later_1 ?_
  refine V_puti (pc := 2) dX6_later_2 gf_X6_74 (by omega) ?_
  have hM := (KM.set (σ := σ) (t := 34) (k := 0) (z := 0) (v := 0) (by unfold SCM; omega)).mb hM
  have hwe := fun q : 0 ≤ e ∧ e < B 6 0 => hW.e q
  refine V_aload_0 (pc := 5) dX6_later_5 ?_
  refine V_iload_1 (pc := 6) dX6_later_6 ?_
  refine V_i2l (pc := 7) dX6_later_7 (by omega) ?_
  refine V_callV1p (pc := 8) dX6_later_8 kv_X6_246 rc_34 (by omega) (d - 1) (by omega) rfl (c_X6_isEntry (by omega) hM hW (by omega)) ?_
  refine V_if_eq_b (pc := 11) 26 dX6_later_11 (by decide) (fun c_11 => ?_) (fun c_11 => ?_)
  · refine V_bipush (pc := 26) dX6_later_26 (by decide) ?_
    refine V_iretI (pc := 28) dX6_later_28 rfl ?_
    first | exact ⟨_, rfl, by unfold q_later; rw [if_pos (by omega)], (KM.set (σ := σ) (t := 34) (k := 0) (z := 0) (v := 0) (by unfold SCM; omega))⟩ | exact ⟨_, rfl, by unfold q_later; rw [if_neg (by omega)]; rfl, hK⟩
  · refine V_iload_2 (pc := 14) dX6_later_14 ?_
    refine V_i2l (pc := 15) dX6_later_15 (by omega) ?_
    refine V_lconst (pc := 16) dX6_later_16 (z := 0) rfl ?_
    refine V_ldc2 (pc := 17) dX6_later_17 (z := 20) ldc_X6_396 ?_
    refine V_callS3p (pc := 20) dX6_later_20 kv_X6_79 (d - 1) (by omega) rfl (c_X6_in (by omega) (by omega) (by omega) (by omega)) ?_
    refine V_if_ne_b (pc := 23) 29 dX6_later_23 (by decide) (fun c_23 => ?_) (fun c_23 => ?_)
    · refine V_aload_0 (pc := 29) dX6_later_29 ?_
      refine V_callV0z (pc := 30) dX6_later_30 kv_X6_315 rc_34 (by omega) (d - 1) (by omega) rfl (c_X6_lays (by omega) hM hW) (fun σ_30 h_30 => ?_)
      obtain ⟨hL, hKl⟩ := h_30
      have hK := (KM.set (σ := σ) (t := 34) (k := 0) (z := 0) (v := 0) (by unfold SCM; omega)).tr hKl
      have hM := hK.mb hM0
      refine V_aload_0 (pc := 33) dX6_later_33 ?_
      refine V_getc (pc := 34) dX6_later_34 gf_X6_53 (by omega) ?_
      refine V_iload_1 (pc := 37) dX6_later_37 ?_
      refine V_dup2 (pc := 38) dX6_later_38 rfl rfl ?_
      refine V_iald (pc := 39) dX6_later_39 sh_47 (by omega) (by omega) (hL.w47 hG.n99 _ (by omega)) ?_
      refine V_iload_2 (pc := 40) dX6_later_40 ?_
      refine V_iadd (pc := 41) dX6_later_41 ?_
      refine V_iast (pc := 42) dX6_later_42 sh_47 (by omega) (by omega) ?_
      refine V_aload_0 (pc := 43) dX6_later_43 ?_
      have hL := hL.p_wrote (e := e) (v := B 13 e + n) (hG.n99 e (by omega)) (by omega)
      have hK := hK.tr (KM.set (t := 47) (k := 0) (z := e) (v := B 13 e + n) (by unfold SCM; omega))
      have hM := hK.mb hM0
      refine V_callV0z (pc := 44) dX6_later_44 kv_X6_318 rc_34 (by omega) (d - 1) (by omega) rfl (c_X6_runs (by omega) hM hW hL) (fun σ_44 h_44 => ?_)
      obtain ⟨hS, hR_⟩ := h_44
      have hL := hR_.ld hL
      have hK := hK.tr hR_.km
      have hM := hK.mb hM0
      refine V_aload_0 (pc := 47) dX6_later_47 ?_
      refine V_iload_1 (pc := 48) dX6_later_48 ?_
      refine V_callV1p (pc := 49) dX6_later_49 kv_X6_398 rc_34 (by omega) (d - 1) (by omega) rfl (c_X6_lastOf (by omega) hM hW hL hS (by omega)) ?_
      refine V_iretI (pc := 52) dX6_later_52 rfl ?_
      first | exact ⟨_, rfl, by unfold q_later; rw [if_pos (by omega)], (KM.set (σ := σ) (t := 34) (k := 0) (z := 0) (v := 0) (by unfold SCM; omega))⟩ | exact ⟨_, rfl, by unfold q_later; rw [if_neg (by omega)]; rfl, hK⟩
    · refine V_bipush (pc := 26) dX6_later_26 (by decide) ?_
      refine V_iretI (pc := 28) dX6_later_28 rfl ?_
      first | exact ⟨_, rfl, by unfold q_later; rw [if_pos (by omega)], (KM.set (σ := σ) (t := 34) (k := 0) (z := 0) (v := 0) (by unfold SCM; omega))⟩ | exact ⟨_, rfl, by unfold q_later; rw [if_neg (by omega)]; rfl, hK⟩

set_option maxRecDepth 20000 in
set_option maxHeartbeats 1000000 in
theorem c_X6_other {d : Nat} (hd : 4 ≤ d) {σ : MM} {B : BK} {e i : Int} (hM : MB σ 0 B) (hG : GB B) (he : IR e) (hi : IR i) : V yX6_other cX6_other 3 (some .int) d (QI (fun v σ' => v = q_other B e i ∧ KM σ σ')) 0 [some (vR 34 0), some (vI e), some (vI i)] [] σ := by
  have hW := hG.w
  have hs := hW.s
  have hM0 := hM
  have hwe := fun q : 0 ≤ e ∧ e < B 6 0 => hW.e q
  have hne := fun q : 0 ≤ e ∧ e < B 6 0 => hG.n q
  refine V_aload_0 (pc := 0) dX6_other_0 ?_
  refine V_iconst (pc := 1) dX6_other_1 ?_
  refine V_puti (pc := 2) dX6_other_2 gf_X6_74 (by omega) ?_
  have hM := (KM.set (σ := σ) (t := 34) (k := 0) (z := 0) (v := 0) (by unfold SCM; omega)).mb hM
  have hwe := fun q : 0 ≤ e ∧ e < B 6 0 => hW.e q
  refine V_aload_0 (pc := 5) dX6_other_5 ?_
  refine V_iload_1 (pc := 6) dX6_other_6 ?_
  refine V_i2l (pc := 7) dX6_other_7 (by omega) ?_
  refine V_callV1p (pc := 8) dX6_other_8 kv_X6_246 rc_34 (by omega) (d - 1) (by omega) rfl (c_X6_isEntry (by omega) hM hW (by omega)) ?_
  refine V_if_eq_b (pc := 11) 22 dX6_other_11 (by decide) (fun c_11 => ?_) (fun c_11 => ?_)
  · refine V_bipush (pc := 22) dX6_other_22 (by decide) ?_
    refine V_iretI (pc := 24) dX6_other_24 rfl ?_
    first | exact ⟨_, rfl, by unfold q_other; rw [if_pos (by omega)], (KM.set (σ := σ) (t := 34) (k := 0) (z := 0) (v := 0) (by unfold SCM; omega))⟩ | exact ⟨_, rfl, by unfold q_other; rw [if_neg (by omega)]; rfl, hK⟩
  · refine V_aload_0 (pc := 14) dX6_other_14 ?_
    refine V_iload_2 (pc := 15) dX6_other_15 ?_
    refine V_callV1p (pc := 16) dX6_other_16 kv_X6_321 rc_34 (by omega) (d - 1) (by omega) rfl (c_X6_isInk (by omega) hM hW (by omega)) ?_
    refine V_if_ne_b (pc := 19) 25 dX6_other_19 (by decide) (fun c_19 => ?_) (fun c_19 => ?_)
    · refine V_aload_0 (pc := 25) dX6_other_25 ?_
      refine V_callV0z (pc := 26) dX6_other_26 kv_X6_315 rc_34 (by omega) (d - 1) (by omega) rfl (c_X6_lays (by omega) hM hW) (fun σ_26 h_26 => ?_)
      obtain ⟨hL, hKl⟩ := h_26
      have hK := (KM.set (σ := σ) (t := 34) (k := 0) (z := 0) (v := 0) (by unfold SCM; omega)).tr hKl
      have hM := hK.mb hM0
      refine V_aload_0 (pc := 29) dX6_other_29 ?_
      refine V_getc (pc := 30) dX6_other_30 gf_X6_56 (by omega) ?_
      refine V_iload_1 (pc := 33) dX6_other_33 ?_
      refine V_iload_2 (pc := 34) dX6_other_34 ?_
      refine V_iast (pc := 35) dX6_other_35 sh_48 (by omega) (by omega) ?_
      refine V_aload_0 (pc := 36) dX6_other_36 ?_
      have hL := hL.p_ink (e := e) (v := i) (by omega)
      have hK := hK.tr (KM.set (t := 48) (k := 0) (z := e) (v := i) (by unfold SCM; omega))
      have hM := hK.mb hM0
      refine V_callV0z (pc := 37) dX6_other_37 kv_X6_318 rc_34 (by omega) (d - 1) (by omega) rfl (c_X6_runs (by omega) hM hW hL) (fun σ_37 h_37 => ?_)
      obtain ⟨hS, hR_⟩ := h_37
      have hL := hR_.ld hL
      have hK := hK.tr hR_.km
      have hM := hK.mb hM0
      refine V_aload_0 (pc := 40) dX6_other_40 ?_
      refine V_iload_1 (pc := 41) dX6_other_41 ?_
      refine V_callV1p (pc := 42) dX6_other_42 kv_X6_398 rc_34 (by omega) (d - 1) (by omega) rfl (c_X6_lastOf (by omega) hM hW hL hS (by omega)) ?_
      refine V_iretI (pc := 45) dX6_other_45 rfl ?_
      first | exact ⟨_, rfl, by unfold q_other; rw [if_pos (by omega)], (KM.set (σ := σ) (t := 34) (k := 0) (z := 0) (v := 0) (by unfold SCM; omega))⟩ | exact ⟨_, rfl, by unfold q_other; rw [if_neg (by omega)]; rfl, hK⟩
    · refine V_bipush (pc := 22) dX6_other_22 (by decide) ?_
      refine V_iretI (pc := 24) dX6_other_24 rfl ?_
      first | exact ⟨_, rfl, by unfold q_other; rw [if_pos (by omega)], (KM.set (σ := σ) (t := 34) (k := 0) (z := 0) (v := 0) (by unfold SCM; omega))⟩ | exact ⟨_, rfl, by unfold q_other; rw [if_neg (by omega)]; rfl, hK⟩

set_option maxRecDepth 20000 in
set_option maxHeartbeats 1000000 in
theorem c_X6_hide {d : Nat} (hd : 4 ≤ d) {σ : MM} {B : BK} {e y : Int} (hM : MB σ 0 B) (hG : GB B) (he : IR e) (hy : IR y) : V yX6_hide cX6_hide 4 (some .int) d (QI (fun v σ' => v = q_hide B e y ∧ KM σ σ')) 0 [some (vR 34 0), some (vI e), some (vI y), none] [] σ := by
  have hW := hG.w
  have hs := hW.s
  have hM0 := hM
  have loop : (¬ ((e < 0 ∨ B 6 0 ≤ e) ∨ (B 0 0 = 0 ∨ y < 0 ∨ B 1 0 < y))) → ∀ i : Nat, i ≤ 10 → ∀ σi : MM, (KM σ σi ∧ (∀ x : Int, 0 ≤ x ∧ x < (i : Int) → ¬ (SHD (ITB B e y x.toNat) (bt 0) (B 1 0) e < 5))) → V yX6_hide cX6_hide 4 (some .int) d (QI (fun v σ' => v = q_hide B e y ∧ KM σ σ')) 19 [some (vR 34 0), some (vI e), some (vI y), some (vI (i : Int))] [] σi := by
    intro hR
    refine up_ind (P := fun i : Nat => ∀ σi : MM, (KM σ σi ∧ (∀ x : Int, 0 ≤ x ∧ x < (i : Int) → ¬ (SHD (ITB B e y x.toNat) (bt 0) (B 1 0) e < 5))) → V yX6_hide cX6_hide 4 (some .int) d (QI (fun v σ' => v = q_hide B e y ∧ KM σ σ')) 19 [some (vR 34 0), some (vI e), some (vI y), some (vI (i : Int))] [] σi) ?_ ?_
    · intro σi hI
      obtain ⟨hK, hJ⟩ := hI
      have hM := hK.mb hM0
      refine V_iload_3 (pc := 19) dX6_hide_19 ?_
      refine V_bipush (pc := 20) dX6_hide_20 (by decide) ?_
      refine V_icmp_gt (pc := 22) 65 dX6_hide_22 (by decide) (by omega) (by omega) (fun c_22 => ?_) (fun c_22 => ?_)
      · refine V_iconst (pc := 65) dX6_hide_65 ?_
        refine V_iretI (pc := 66) dX6_hide_66 rfl ?_
        exact ⟨_, rfl, by unfold q_hide; rw [if_neg (by omega)]; exact (fst_no (p := (fun t => SHD (ITB B e y t.toNat) (bt 0) (B 1 0) e < 5)) 10 0 (fun x hx => hJ x (by omega))).symm, hK⟩
      · exact absurd c_22 (by omega)
    · intro i hi ih σi hI
      obtain ⟨hK, hJ⟩ := hI
      have hM := hK.mb hM0
      have he0 : 0 ≤ e ∧ e < B 6 0 := by omega
      have hy0 : 0 ≤ y ∧ y ≤ B 1 0 := by omega
      have hWI := WB_ITB hW hG.2.2.1 he0 hy0 i (by omega)
      have e6 : ITB B e y i 6 = B 6 := ITB_at (by decide) i
      have hsh := SHD_in (r := 0) (y := B 1 0) hWI (e := e) (by rw [e6]; exact he0)
      refine V_iload_3 (pc := 19) dX6_hide_19 ?_
      refine V_bipush (pc := 20) dX6_hide_20 (by decide) ?_
      refine V_icmp_gt (pc := 22) 65 dX6_hide_22 (by decide) (by omega) (by omega) (fun c_22 => ?_) (fun c_22 => ?_)
      · exact absurd c_22 (by omega)
      · refine V_aload_0 (pc := 25) dX6_hide_25 ?_
        refine V_callV0z (pc := 26) dX6_hide_26 kv_X6_315 rc_34 (by omega) (d - 1) (by omega) rfl (c_X6_lays (by omega) hM hW) (fun σ_26 h_26 => ?_)
        obtain ⟨hL, hKl⟩ := h_26
        have hK := hK.tr hKl
        have hM := hK.mb hM0
        refine V_aload_0 (pc := 29) dX6_hide_29 ?_
        refine V_iload_1 (pc := 30) dX6_hide_30 ?_
        refine V_puti (pc := 31) dX6_hide_31 gf_X6_261 (by omega) ?_
        refine V_aload_0 (pc := 34) dX6_hide_34 ?_
        refine V_iload_2 (pc := 35) dX6_hide_35 ?_
        refine V_puti (pc := 36) dX6_hide_36 gf_X6_303 (by omega) ?_
        refine V_aload_0 (pc := 39) dX6_hide_39 ?_
        refine V_iload_3 (pc := 40) dX6_hide_40 ?_
        refine V_puti (pc := 41) dX6_hide_41 gf_X6_264 (by omega) ?_
        refine V_aload_0 (pc := 44) dX6_hide_44 ?_
        have hL := hL.p_hide hG.2.2.1 he0 hy0 (n := i) (by omega)
        have hK := hK.tr ((KM.set (t := 34) (k := 0) (z := 26) (v := e) (by unfold SCM; omega)).tr ((KM.set (t := 34) (k := 0) (z := 27) (v := y) (by unfold SCM; omega)).tr (KM.set (t := 34) (k := 0) (z := 28) (v := (i : Int)) (by unfold SCM; omega))))
        have hM := hK.mb hM0
        refine V_callV0z (pc := 45) dX6_hide_45 kv_X6_318 rc_34 (by omega) (d - 1) (by omega) rfl (c_X6_runs (by omega) hM hW hL) (fun σ_45 h_45 => ?_)
        obtain ⟨hS, hR_⟩ := h_45
        have hL := hR_.ld hL
        have hK := hK.tr hR_.km
        have hM := hK.mb hM0
        refine V_aload_0 (pc := 48) dX6_hide_48 ?_
        refine V_iload_1 (pc := 49) dX6_hide_49 ?_
        refine V_callV1p (pc := 50) dX6_hide_50 kv_X6_398 rc_34 (by omega) (d - 1) (by omega) rfl (c_X6_lastOf (by omega) hM hW hL hS (by omega)) ?_
        refine V_iconst (pc := 53) dX6_hide_53 ?_
        refine V_icmp_ge (pc := 54) 59 dX6_hide_54 (by decide) (by omega) (by omega) (fun c_54 => ?_) (fun c_54 => ?_)
        · refine V_iinc_3 (pc := 59) dX6_hide_59 ?_
          refine V_goto (pc := 62) 19 dX6_hide_62 (by decide) ?_
          refine V.sub (by simp only [subL, Option.some.injEq, Sum.inl.injEq, Sum.inr.injEq, reduceCtorEq, true_or, or_true, false_or, true_and, and_true]; omega) (ih _ ⟨hK, nx_step hJ (fun q => absurd (show SHD (ITB B e y i) (bt 0) (B 1 0) e < 5 from q) (by omega)) (by omega)⟩)
        · refine V_iload_3 (pc := 57) dX6_hide_57 ?_
          refine V_iretI (pc := 58) dX6_hide_58 rfl ?_
          exact ⟨_, rfl, by unfold q_hide; rw [if_neg (by omega)]; exact (fst_is (p := (fun t => SHD (ITB B e y t.toNat) (bt 0) (B 1 0) e < 5)) (x := (i : Int)) (by assumption) 10 0 (by omega) (fun x hx => hJ x (by omega))).symm, hK⟩
  refine V_aload_0 (pc := 0) dX6_hide_0 ?_
  refine V_iconst (pc := 1) dX6_hide_1 ?_
  refine V_puti (pc := 2) dX6_hide_2 gf_X6_74 (by omega) ?_
  have hM := (KM.set (σ := σ) (t := 34) (k := 0) (z := 0) (v := 0) (by unfold SCM; omega)).mb hM
  refine V_aload_0 (pc := 5) dX6_hide_5 ?_
  refine V_iload_1 (pc := 6) dX6_hide_6 ?_
  refine V_iload_2 (pc := 7) dX6_hide_7 ?_
  refine V_callV2p (pc := 8) dX6_hide_8 kv_X6_334 rc_34 (by omega) (d - 1) (by omega) rfl (c_X6_isThen (by omega) hM hW (by omega) (by omega)) ?_
  refine V_if_ne_b (pc := 11) 17 dX6_hide_11 (by decide) (fun c_11 => ?_) (fun c_11 => ?_)
  · refine V_iconst (pc := 17) dX6_hide_17 ?_
    refine V_istore_3 (pc := 18) dX6_hide_18 ?_
    exact loop (by omega) 0 (by omega) _ ⟨(KM.set (σ := σ) (t := 34) (k := 0) (z := 0) (v := 0) (by unfold SCM; omega)), fun x hx => by omega⟩
  · refine V_bipush (pc := 14) dX6_hide_14 (by decide) ?_
    refine V_iretI (pc := 16) dX6_hide_16 rfl ?_
    exact ⟨_, rfl, by unfold q_hide; rw [if_pos (by omega)], (KM.set (σ := σ) (t := 34) (k := 0) (z := 0) (v := 0) (by unfold SCM; omega))⟩

set_option maxRecDepth 20000 in
set_option maxHeartbeats 1000000 in
theorem c_X6_save {d : Nat} (hd : 4 ≤ d) {σ : MM} {B : BK} {e : Int} (hM : MB σ 0 B) (hG : GB B) (he : IR e) : V yX6_save cX6_save 3 (some .int) d (QI (fun v σ' => v = q_save B e ∧ KM σ σ')) 0 [some (vR 34 0), some (vI e), none] [] σ := by
  have hW := hG.w
  have hs := hW.s
  have hM0 := hM
  have loop : (¬ (e < 0 ∨ B 6 0 ≤ e)) → ∀ i : Nat, i ≤ (B 1 0 + 1).toNat → ∀ σi : MM, (KM σ σi ∧ (∀ x : Int, 0 ≤ x ∧ x < (i : Int) → ¬ (B 13 e ≤ x ∧ 5 ≤ SHD (aB B e (B 12 e) x) (bt 0) (B 1 0) e))) → V yX6_save cX6_save 3 (some .int) d (QI (fun v σ' => v = q_save B e ∧ KM σ σ')) 19 [some (vR 34 0), some (vI e), some (vI (i : Int))] [] σi := by
    intro hR
    refine up_ind (P := fun i : Nat => ∀ σi : MM, (KM σ σi ∧ (∀ x : Int, 0 ≤ x ∧ x < (i : Int) → ¬ (B 13 e ≤ x ∧ 5 ≤ SHD (aB B e (B 12 e) x) (bt 0) (B 1 0) e))) → V yX6_save cX6_save 3 (some .int) d (QI (fun v σ' => v = q_save B e ∧ KM σ σ')) 19 [some (vR 34 0), some (vI e), some (vI (i : Int))] [] σi) ?_ ?_
    · intro σi hI
      obtain ⟨hK, hJ⟩ := hI
      have hM := hK.mb hM0
      refine V_iload_2 (pc := 19) dX6_save_19 ?_
      refine V_aload_0 (pc := 20) dX6_save_20 ?_
      refine V_callV0p (pc := 21) dX6_save_21 kv_X6_243 rc_34 (by omega) (d - 1) (by omega) rfl (c_X6_years (by omega) hM hW) ?_
      refine V_icmp_gt (pc := 24) 74 dX6_save_24 (by decide) (by omega) (by omega) (fun c_24 => ?_) (fun c_24 => ?_)
      · refine V_iconst (pc := 74) dX6_save_74 ?_
        refine V_iretI (pc := 75) dX6_save_75 rfl ?_
        exact ⟨_, rfl, by unfold q_save; rw [if_neg (by omega)]; exact (fst_no (p := (fun y => B 13 e ≤ y ∧ 5 ≤ SHD (aB B e (B 12 e) y) (bt 0) (B 1 0) e)) _ 0 (fun x hx => hJ x (by omega))).symm, hK⟩
      · exact absurd c_24 (by omega)
    · intro i hi ih σi hI
      obtain ⟨hK, hJ⟩ := hI
      have hM := hK.mb hM0
      have he0 : 0 ≤ e ∧ e < B 6 0 := by omega
      have h1 := hW.e he0
      have hWT := WB_act (e := e) (i := B 12 e) (y := (i : Int)) hW (by have := hG.2.2.1; omega) he0 (by omega) (by omega)
      have e6 : aB B e (B 12 e) (i : Int) 6 = B 6 := aB_at (by decide)
      have hsh := SHD_in (r := 0) (y := B 1 0) hWT (e := e) (by rw [e6]; exact he0)
      refine V_iload_2 (pc := 19) dX6_save_19 ?_
      refine V_aload_0 (pc := 20) dX6_save_20 ?_
      refine V_callV0p (pc := 21) dX6_save_21 kv_X6_243 rc_34 (by omega) (d - 1) (by omega) rfl (c_X6_years (by omega) hM hW) ?_
      refine V_icmp_gt (pc := 24) 74 dX6_save_24 (by decide) (by omega) (by omega) (fun c_24 => ?_) (fun c_24 => ?_)
      · exact absurd c_24 (by omega)
      · refine V_aload_0 (pc := 27) dX6_save_27 ?_
        refine V_callV0z (pc := 28) dX6_save_28 kv_X6_315 rc_34 (by omega) (d - 1) (by omega) rfl (c_X6_lays (by omega) hM hW) (fun σ_28 h_28 => ?_)
        obtain ⟨hL, hKl⟩ := h_28
        have hK := hK.tr hKl
        have hM := hK.mb hM0
        refine V_aload_0 (pc := 31) dX6_save_31 ?_
        refine V_iload_1 (pc := 32) dX6_save_32 ?_
        refine V_iload_2 (pc := 33) dX6_save_33 ?_
        refine V_callV2p (pc := 34) dX6_save_34 kv_X6_293 rc_34 (by omega) (d - 1) (by omega) rfl (c_X6_isThere (by omega) hM hW hL (by omega) (by omega)) ?_
        refine V_if_ne_b (pc := 37) 43 dX6_save_37 (by decide) (fun c_37 => ?_) (fun c_37 => ?_)
        · refine V_aload_0 (pc := 43) dX6_save_43 ?_
          refine V_iload_1 (pc := 44) dX6_save_44 ?_
          refine V_puti (pc := 45) dX6_save_45 gf_X6_267 (by omega) ?_
          refine V_aload_0 (pc := 48) dX6_save_48 ?_
          refine V_iload_2 (pc := 49) dX6_save_49 ?_
          refine V_puti (pc := 50) dX6_save_50 gf_X6_306 (by omega) ?_
          refine V_aload_0 (pc := 53) dX6_save_53 ?_
          have hL := hL.p_save hG.2.2.1 he0 (y := (i : Int)) (by omega)
          have hK := hK.tr ((KM.set (t := 34) (k := 0) (z := 29) (v := e) (by unfold SCM; omega)).tr (KM.set (t := 34) (k := 0) (z := 30) (v := (i : Int)) (by unfold SCM; omega)))
          have hM := hK.mb hM0
          refine V_callV0z (pc := 54) dX6_save_54 kv_X6_318 rc_34 (by omega) (d - 1) (by omega) rfl (c_X6_runs (by omega) hM hW hL) (fun σ_54 h_54 => ?_)
          obtain ⟨hS, hR_⟩ := h_54
          have hL := hR_.ld hL
          have hK := hK.tr hR_.km
          have hM := hK.mb hM0
          refine V_aload_0 (pc := 57) dX6_save_57 ?_
          refine V_iload_1 (pc := 58) dX6_save_58 ?_
          refine V_callV1p (pc := 59) dX6_save_59 kv_X6_398 rc_34 (by omega) (d - 1) (by omega) rfl (c_X6_lastOf (by omega) hM hW hL hS (by omega)) ?_
          refine V_iconst (pc := 62) dX6_save_62 ?_
          refine V_icmp_lt (pc := 63) 68 dX6_save_63 (by decide) (by omega) (by omega) (fun c_63 => ?_) (fun c_63 => ?_)
          · refine V_iinc_2 (pc := 68) dX6_save_68 ?_
            refine V_goto (pc := 71) 19 dX6_save_71 (by decide) ?_
            refine V.sub (by simp only [subL, Option.some.injEq, Sum.inl.injEq, Sum.inr.injEq, reduceCtorEq, true_or, or_true, false_or, true_and, and_true]; omega) (ih _ ⟨hK, nx_step hJ (by omega) (by omega)⟩)
          · refine V_iload_2 (pc := 66) dX6_save_66 ?_
            refine V_iretI (pc := 67) dX6_save_67 rfl ?_
            exact ⟨_, rfl, by unfold q_save; rw [if_neg (by omega)]; exact (fst_is (p := (fun y => B 13 e ≤ y ∧ 5 ≤ SHD (aB B e (B 12 e) y) (bt 0) (B 1 0) e)) (x := (i : Int)) (by omega) _ 0 (by omega) (fun x hx => hJ x (by omega))).symm, hK⟩
        · refine V_goto (pc := 40) 68 dX6_save_40 (by decide) ?_
          refine V_iinc_2 (pc := 68) dX6_save_68 ?_
          refine V_goto (pc := 71) 19 dX6_save_71 (by decide) ?_
          refine V.sub (by simp only [subL, Option.some.injEq, Sum.inl.injEq, Sum.inr.injEq, reduceCtorEq, true_or, or_true, false_or, true_and, and_true]; omega) (ih _ ⟨hK, nx_step hJ (by omega) (by omega)⟩)
  refine V_aload_0 (pc := 0) dX6_save_0 ?_
  refine V_iconst (pc := 1) dX6_save_1 ?_
  refine V_puti (pc := 2) dX6_save_2 gf_X6_74 (by omega) ?_
  have hM := (KM.set (σ := σ) (t := 34) (k := 0) (z := 0) (v := 0) (by unfold SCM; omega)).mb hM
  refine V_aload_0 (pc := 5) dX6_save_5 ?_
  refine V_iload_1 (pc := 6) dX6_save_6 ?_
  refine V_i2l (pc := 7) dX6_save_7 (by omega) ?_
  refine V_callV1p (pc := 8) dX6_save_8 kv_X6_246 rc_34 (by omega) (d - 1) (by omega) rfl (c_X6_isEntry (by omega) hM hW (by omega)) ?_
  refine V_if_ne_b (pc := 11) 17 dX6_save_11 (by decide) (fun c_11 => ?_) (fun c_11 => ?_)
  · refine V_iconst (pc := 17) dX6_save_17 ?_
    refine V_istore_2 (pc := 18) dX6_save_18 ?_
    exact loop (by omega) 0 (by omega) _ ⟨(KM.set (σ := σ) (t := 34) (k := 0) (z := 0) (v := 0) (by unfold SCM; omega)), fun x hx => by omega⟩
  · refine V_bipush (pc := 14) dX6_save_14 (by decide) ?_
    refine V_iretI (pc := 16) dX6_save_16 rfl ?_
    exact ⟨_, rfl, by unfold q_save; rw [if_pos (by omega)], (KM.set (σ := σ) (t := 34) (k := 0) (z := 0) (v := 0) (by unfold SCM; omega))⟩

set_option maxRecDepth 20000 in
set_option maxHeartbeats 1000000 in
theorem c_X6_heavy {d : Nat} (hd : 5 ≤ d) {σ : MM} {B : BK} (hM : MB σ 0 B) (hG : GB B) : V yX6_heavy cX6_heavy 4 (some .int) d (QI (fun v σ' => v = q_heavy B ∧ KM σ σ')) 0 [some (vR 34 0), none, none, none] [] σ := by
  have hW := hG.w
  have hs := hW.s
  have hM0 := hM
  have loop : (¬ B 0 0 = 0) → ∀ i : Nat, i ≤ (B 6 0).toNat → ∀ σi : MM, (KM σ σi) → V yX6_heavy cX6_heavy 4 (some .int) d (QI (fun v σ' => v = q_heavy B ∧ KM σ σ')) 32 [some (vR 34 0), some (vI ((HVY B i).1)), some (vI ((HVY B i).2)), some (vI (i : Int))] [] σi := by
    intro hR
    refine up_ind (P := fun i : Nat => ∀ σi : MM, (KM σ σi) → V yX6_heavy cX6_heavy 4 (some .int) d (QI (fun v σ' => v = q_heavy B ∧ KM σ σ')) 32 [some (vR 34 0), some (vI ((HVY B i).1)), some (vI ((HVY B i).2)), some (vI (i : Int))] [] σi) ?_ ?_
    · intro σi hI
      have hK := hI
      have hM := hK.mb hM0
      refine V_iload_3 (pc := 32) dX6_heavy_32 ?_
      refine V_aload_0 (pc := 33) dX6_heavy_33 ?_
      refine V_callV0p (pc := 34) dX6_heavy_34 kv_X6_236 rc_34 (by omega) (d - 1) (by omega) rfl (c_X6_entries (by omega) hM hW) ?_
      refine V_icmp_ge (pc := 37) 87 dX6_heavy_37 (by decide) (by omega) (by omega) (fun c_37 => ?_) (fun c_37 => ?_)
      · refine V_iload_1 (pc := 87) dX6_heavy_87 ?_
        refine V_iretI (pc := 88) dX6_heavy_88 rfl ?_
        exact ⟨_, rfl, by unfold q_heavy; rw [if_neg (by omega)], hK⟩
      · exact absurd c_37 (by omega)
    · intro i hi ih σi hI
      have hK := hI
      have hM := hK.mb hM0
      have t1 := TOT_in (WB_wrote (k := (i : Int)) (v := 99) hW (by omega))
      have t2 := HVY_in hW i
      have hS_ : HVY B (i + 1) = if TOT (sB B 13 i 99) < (HVY B i).2 then ((i : Int), TOT (sB B 13 i 99)) else HVY B i := rfl
      refine V_iload_3 (pc := 32) dX6_heavy_32 ?_
      refine V_aload_0 (pc := 33) dX6_heavy_33 ?_
      refine V_callV0p (pc := 34) dX6_heavy_34 kv_X6_236 rc_34 (by omega) (d - 1) (by omega) rfl (c_X6_entries (by omega) hM hW) ?_
      refine V_icmp_ge (pc := 37) 87 dX6_heavy_37 (by decide) (by omega) (by omega) (fun c_37 => ?_) (fun c_37 => ?_)
      · exact absurd c_37 (by omega)
      · refine V_aload_0 (pc := 40) dX6_heavy_40 ?_
        refine V_callV0z (pc := 41) dX6_heavy_41 kv_X6_315 rc_34 (by omega) (d - 1) (by omega) rfl (c_X6_lays (by omega) hM hW) (fun σ_41 h_41 => ?_)
        obtain ⟨hL, hKl⟩ := h_41
        have hK := hK.tr hKl
        have hM := hK.mb hM0
        refine V_aload_0 (pc := 44) dX6_heavy_44 ?_
        refine V_iconst (pc := 45) dX6_heavy_45 ?_
        refine V_iload_3 (pc := 46) dX6_heavy_46 ?_
        refine V_ishl_1 (pc := 47) dX6_heavy_47 (by omega) ?_
        refine V_puti (pc := 48) dX6_heavy_48 gf_X6_258 (by omega) ?_
        refine V_aload_0 (pc := 51) dX6_heavy_51 ?_
        have hL := hL.p_never (e := (i : Int)) (by omega) hG.n99
        have hK := hK.tr (KM.set (t := 34) (k := 0) (z := 25) (v := p2 (i : Int)) (by unfold SCM; omega))
        have hM := hK.mb hM0
        refine V_callV0z (pc := 52) dX6_heavy_52 kv_X6_318 rc_34 (by omega) (d - 1) (by omega) rfl (c_X6_runs (by omega) hM hW hL) (fun σ_52 h_52 => ?_)
        obtain ⟨hS, hR_⟩ := h_52
        have hL := hR_.ld hL
        have hK := hK.tr hR_.km
        have hM := hK.mb hM0
        refine V_aload_0 (pc := 55) dX6_heavy_55 ?_
        refine V_aload_0 (pc := 56) dX6_heavy_56 ?_
        refine V_callV0p (pc := 57) dX6_heavy_57 kv_X6_243 rc_34 (by omega) (d - 1) (by omega) rfl (c_X6_years (by omega) hM hW) ?_
        refine V_callV1p (pc := 60) dX6_heavy_60 kv_X6_346 rc_34 (by omega) (d - 1) (by omega) rfl (c_allT (by omega) hM hW hL hS) ?_
        refine V_iload_2 (pc := 63) dX6_heavy_63 ?_
        refine V_icmp_lt (pc := 64) 70 dX6_heavy_64 (by decide) (by omega) (by omega) (fun c_64 => ?_) (fun c_64 => ?_)
        · refine V_iload_3 (pc := 70) dX6_heavy_70 ?_
          refine V_istore_1 (pc := 71) dX6_heavy_71 ?_
          refine V_aload_0 (pc := 72) dX6_heavy_72 ?_
          refine V_aload_0 (pc := 73) dX6_heavy_73 ?_
          refine V_callV0p (pc := 74) dX6_heavy_74 kv_X6_243 rc_34 (by omega) (d - 1) (by omega) rfl (c_X6_years (by omega) hM hW) ?_
          refine V_callV1p (pc := 77) dX6_heavy_77 kv_X6_346 rc_34 (by omega) (d - 1) (by omega) rfl (c_allT (by omega) hM hW hL hS) ?_
          refine V_istore_2 (pc := 80) dX6_heavy_80 ?_
          refine V_iinc_3 (pc := 81) dX6_heavy_81 ?_
          refine V_goto (pc := 84) 32 dX6_heavy_84 (by decide) ?_
          refine V.sub (by simp only [subL, Option.some.injEq, Sum.inl.injEq, Sum.inr.injEq, reduceCtorEq, true_or, or_true, false_or, true_and, and_true]; first | (rw [hS_, if_pos (by omega)]; exact ⟨rfl, rfl, by omega⟩) | (rw [hS_, if_neg (by omega)]; exact ⟨rfl, rfl, by omega⟩)) (ih _ hK)
        · refine V_goto (pc := 67) 81 dX6_heavy_67 (by decide) ?_
          refine V_iinc_3 (pc := 81) dX6_heavy_81 ?_
          refine V_goto (pc := 84) 32 dX6_heavy_84 (by decide) ?_
          refine V.sub (by simp only [subL, Option.some.injEq, Sum.inl.injEq, Sum.inr.injEq, reduceCtorEq, true_or, or_true, false_or, true_and, and_true]; first | (rw [hS_, if_pos (by omega)]; exact ⟨rfl, rfl, by omega⟩) | (rw [hS_, if_neg (by omega)]; exact ⟨rfl, rfl, by omega⟩)) (ih _ hK)
  refine V_aload_0 (pc := 0) dX6_heavy_0 ?_
  refine V_iconst (pc := 1) dX6_heavy_1 ?_
  refine V_puti (pc := 2) dX6_heavy_2 gf_X6_74 (by omega) ?_
  have hM := (KM.set (σ := σ) (t := 34) (k := 0) (z := 0) (v := 0) (by unfold SCM; omega)).mb hM
  refine V_aload_0 (pc := 5) dX6_heavy_5 ?_
  refine V_callV0p (pc := 6) dX6_heavy_6 kv_X6_240 rc_34 (by omega) (d - 1) (by omega) rfl (c_X6_isBook (by omega) hM hW) ?_
  refine V_if_ne_b (pc := 9) 15 dX6_heavy_9 (by decide) (fun c_9 => ?_) (fun c_9 => ?_)
  · refine V_aload_0 (pc := 15) dX6_heavy_15 ?_
    refine V_callV0z (pc := 16) dX6_heavy_16 kv_X6_337 rc_34 (by omega) (d - 1) (by omega) rfl (c_X6_laysNow (by omega) hM hW) (fun σ_16 h_16 => ?_)
    obtain ⟨hL, hS, hKn⟩ := h_16
    have hK := (KM.set (σ := σ) (t := 34) (k := 0) (z := 0) (v := 0) (by unfold SCM; omega)).tr hKn
    have hM := hK.mb hM0
    refine V_iconst (pc := 19) dX6_heavy_19 ?_
    refine V_istore_1 (pc := 20) dX6_heavy_20 ?_
    refine V_aload_0 (pc := 21) dX6_heavy_21 ?_
    refine V_aload_0 (pc := 22) dX6_heavy_22 ?_
    refine V_callV0p (pc := 23) dX6_heavy_23 kv_X6_243 rc_34 (by omega) (d - 1) (by omega) rfl (c_X6_years (by omega) hM hW) ?_
    refine V_callV1p (pc := 26) dX6_heavy_26 kv_X6_346 rc_34 (by omega) (d - 1) (by omega) rfl (c_allT (by omega) hM hW hL hS) ?_
    refine V_istore_2 (pc := 29) dX6_heavy_29 ?_
    refine V_iconst (pc := 30) dX6_heavy_30 ?_
    refine V_istore_3 (pc := 31) dX6_heavy_31 ?_
    exact loop (by omega) 0 (by omega) _ hK
  · refine V_bipush (pc := 12) dX6_heavy_12 (by decide) ?_
    refine V_iretI (pc := 14) dX6_heavy_14 rfl ?_
    exact ⟨_, rfl, by unfold q_heavy; rw [if_pos (by omega)], (KM.set (σ := σ) (t := 34) (k := 0) (z := 0) (v := 0) (by unfold SCM; omega))⟩

set_option maxRecDepth 20000 in
set_option maxHeartbeats 1000000 in
theorem c_X6_getsBy {d : Nat} (hd : 4 ≤ d) {σ : MM} {B : BK} {z p o x y : Int} (hM : MB σ 0 B) (hW : WB B) (hz : IR z) (hp : 0 ≤ p ∧ p < B 5 0) (ho : 0 ≤ o ∧ o < B 5 0) (hpo : p ≠ o) (hx : x = 0 ∨ x = 1) (hy : y = 0 ∨ y = 1) : V yX6_getsBy cX6_getsBy 8 (some .int) d (QI (fun v σ' => v = GAI B (TRN B p o x y) z (if z = p then x else y) ∧ KM σ σ')) 0 [some (vR 34 0), some (vI z), some (vI p), some (vI o), some (vI x), some (vI y), none, none] [] σ := by
  have hs := hW.s
  have hM0 := hM
  have hdp := hW.p hp
  have hdo := hW.p ho
  have loop : ∀ i : Nat, i ≤ (B 6 0).toNat → ∀ σi : MM, (MB σi 0 B ∧ LD σi B (TRN B p o x y) 0 ∧ SHM σi B (TRN B p o x y) 0 ∧ KM σ σi) → V yX6_getsBy cX6_getsBy 8 (some .int) d (QI (fun v σ' => v = GAI B (TRN B p o x y) z (if z = p then x else y) ∧ KM σ σ')) 36 [some (vR 34 0), some (vI z), some (vI p), some (vI o), some (vI x), some (vI y), some (vI (3 * sumN (fun e => bI (5 ≤ SHD (TRN B p o x y) (bt 0) (B 1 0) e ∧ B 11 e = z)) i)), some (vI (i : Int))] [] σi := by
    refine up_ind (P := fun i : Nat => ∀ σi : MM, (MB σi 0 B ∧ LD σi B (TRN B p o x y) 0 ∧ SHM σi B (TRN B p o x y) 0 ∧ KM σ σi) → V yX6_getsBy cX6_getsBy 8 (some .int) d (QI (fun v σ' => v = GAI B (TRN B p o x y) z (if z = p then x else y) ∧ KM σ σ')) 36 [some (vR 34 0), some (vI z), some (vI p), some (vI o), some (vI x), some (vI y), some (vI (3 * sumN (fun e => bI (5 ≤ SHD (TRN B p o x y) (bt 0) (B 1 0) e ∧ B 11 e = z)) i)), some (vI (i : Int))] [] σi) ?_ ?_
    · intro σi hI
      obtain ⟨hM, hL, hS, hK⟩ := hI
      refine V_iload_7 (pc := 36) dX6_getsBy_36 ?_
      refine V_aload_0 (pc := 38) dX6_getsBy_38 ?_
      refine V_callV0p (pc := 39) dX6_getsBy_39 kv_X6_236 rc_34 (by omega) (d - 1) (by omega) rfl (c_X6_entries (by omega) hM hW) ?_
      refine V_icmp_ge (pc := 42) 84 dX6_getsBy_42 (by decide) (by omega) (by omega) (fun c_42 => ?_) (fun c_42 => ?_)
      · refine V_iload_6 (pc := 84) dX6_getsBy_84 ?_
        refine V_iload_1 (pc := 86) dX6_getsBy_86 ?_
        refine V_iload_2 (pc := 87) dX6_getsBy_87 ?_
        refine V_icmp_ne (pc := 88) 96 dX6_getsBy_88 (by decide) (by omega) (by omega) (fun c_88 => ?_) (fun c_88 => ?_)
        · refine V_iload_5 (pc := 96) dX6_getsBy_96 ?_
          refine V_isub (pc := 98) dX6_getsBy_98 ?_
          refine V_iretI (pc := 99) dX6_getsBy_99 rfl ?_
          exact ⟨_, rfl, by unfold GAI; first | rw [if_pos (by omega)] | rw [if_neg (by omega)], hK⟩
        · refine V_iload_4 (pc := 91) dX6_getsBy_91 ?_
          refine V_goto (pc := 93) 98 dX6_getsBy_93 (by decide) ?_
          refine V_isub (pc := 98) dX6_getsBy_98 ?_
          refine V_iretI (pc := 99) dX6_getsBy_99 rfl ?_
          exact ⟨_, rfl, by unfold GAI; first | rw [if_pos (by omega)] | rw [if_neg (by omega)], hK⟩
      · exact absurd c_42 (by omega)
    · intro i hi ih σi hI
      obtain ⟨hM, hL, hS, hK⟩ := hI
      have h1 := hW.e (i := (i : Int)) (by omega)
      have e6 : (TRN B p o x y) 6 = B 6 := TRN_0 (by decide)
      have hsh := SHD_in (r := 0) (y := B 1 0) (WB_TRN (p := p) (o := o) (x := x) (y := y) hW) (e := (i : Int)) (by rw [e6]; omega)
      have hS_ := sumN_i (fun e => bI (5 ≤ SHD (TRN B p o x y) (bt 0) (B 1 0) e ∧ B 11 e = z)) i
      have hbt := fun q : 5 ≤ SHD (TRN B p o x y) (bt 0) (B 1 0) i ∧ B 11 i = z => bI_t q
      have hbf := fun q : ¬ (5 ≤ SHD (TRN B p o x y) (bt 0) (B 1 0) i ∧ B 11 i = z) => bI_f q
      refine V_iload_7 (pc := 36) dX6_getsBy_36 ?_
      refine V_aload_0 (pc := 38) dX6_getsBy_38 ?_
      refine V_callV0p (pc := 39) dX6_getsBy_39 kv_X6_236 rc_34 (by omega) (d - 1) (by omega) rfl (c_X6_entries (by omega) hM hW) ?_
      refine V_icmp_ge (pc := 42) 84 dX6_getsBy_42 (by decide) (by omega) (by omega) (fun c_42 => ?_) (fun c_42 => ?_)
      · exact absurd c_42 (by omega)
      · refine V_iload_6 (pc := 45) dX6_getsBy_45 ?_
        refine V_aload_0 (pc := 47) dX6_getsBy_47 ?_
        refine V_getc (pc := 48) dX6_getsBy_48 gf_X6_43 (by omega) ?_
        refine V_iconst (pc := 51) dX6_getsBy_51 ?_
        refine V_iload_7 (pc := 52) dX6_getsBy_52 ?_
        refine V_imul (pc := 54) dX6_getsBy_54 ?_
        refine V_iald (pc := 55) dX6_getsBy_55 sh_44 (by omega) (by omega) (hM.t0 (by omega)) ?_
        refine V_iload_1 (pc := 56) dX6_getsBy_56 ?_
        refine V_icmp_ne (pc := 57) 74 dX6_getsBy_57 (by decide) (by omega) (by omega) (fun c_57 => ?_) (fun c_57 => ?_)
        · refine V_iconst (pc := 74) dX6_getsBy_74 ?_
          refine V_iadd (pc := 75) dX6_getsBy_75 ?_
          refine V_istore_6 (pc := 76) dX6_getsBy_76 ?_
          refine V_iinc_7 (pc := 78) dX6_getsBy_78 ?_
          refine V_goto (pc := 81) 36 dX6_getsBy_81 (by decide) ?_
          refine V.sub (by simp only [subL, Option.some.injEq, Sum.inl.injEq, Sum.inr.injEq, reduceCtorEq, true_or, or_true, false_or, true_and, and_true]; first | (rw [hS_, bI_t (by omega)]; refine ⟨by omega, by omega⟩) | (rw [hS_, bI_f (by omega)]; refine ⟨by omega, by omega⟩)) (ih _ ⟨hM, hL, hS, hK⟩)
        · refine V_aload_0 (pc := 60) dX6_getsBy_60 ?_
          refine V_iload_7 (pc := 61) dX6_getsBy_61 ?_
          refine V_callV1p (pc := 63) dX6_getsBy_63 kv_X6_398 rc_34 (by omega) (d - 1) (by omega) rfl (c_X6_lastOf (by omega) hM hW hL hS (by omega)) ?_
          refine V_iconst (pc := 66) dX6_getsBy_66 ?_
          refine V_icmp_lt (pc := 67) 74 dX6_getsBy_67 (by decide) (by omega) (by omega) (fun c_67 => ?_) (fun c_67 => ?_)
          · refine V_iconst (pc := 74) dX6_getsBy_74 ?_
            refine V_iadd (pc := 75) dX6_getsBy_75 ?_
            refine V_istore_6 (pc := 76) dX6_getsBy_76 ?_
            refine V_iinc_7 (pc := 78) dX6_getsBy_78 ?_
            refine V_goto (pc := 81) 36 dX6_getsBy_81 (by decide) ?_
            refine V.sub (by simp only [subL, Option.some.injEq, Sum.inl.injEq, Sum.inr.injEq, reduceCtorEq, true_or, or_true, false_or, true_and, and_true]; first | (rw [hS_, bI_t (by omega)]; refine ⟨by omega, by omega⟩) | (rw [hS_, bI_f (by omega)]; refine ⟨by omega, by omega⟩)) (ih _ ⟨hM, hL, hS, hK⟩)
          · refine V_iconst (pc := 70) dX6_getsBy_70 ?_
            refine V_goto (pc := 71) 75 dX6_getsBy_71 (by decide) ?_
            refine V_iadd (pc := 75) dX6_getsBy_75 ?_
            refine V_istore_6 (pc := 76) dX6_getsBy_76 ?_
            refine V_iinc_7 (pc := 78) dX6_getsBy_78 ?_
            refine V_goto (pc := 81) 36 dX6_getsBy_81 (by decide) ?_
            refine V.sub (by simp only [subL, Option.some.injEq, Sum.inl.injEq, Sum.inr.injEq, reduceCtorEq, true_or, or_true, false_or, true_and, and_true]; first | (rw [hS_, bI_t (by omega)]; refine ⟨by omega, by omega⟩) | (rw [hS_, bI_f (by omega)]; refine ⟨by omega, by omega⟩)) (ih _ ⟨hM, hL, hS, hK⟩)
  refine V_aload_0 (pc := 0) dX6_getsBy_0 ?_
  refine V_callV0z (pc := 1) dX6_getsBy_1 kv_X6_315 rc_34 (by omega) (d - 1) (by omega) rfl (c_X6_lays (by omega) hM hW) (fun σ_1 h_1 => ?_)
  obtain ⟨hL, hKl⟩ := h_1
  have hK := KM.rf.tr hKl
  have hM := hK.mb hM0
  refine V_aload_0 (pc := 4) dX6_getsBy_4 ?_
  refine V_getc (pc := 5) dX6_getsBy_5 gf_X6_59 (by omega) ?_
  refine V_iload_2 (pc := 8) dX6_getsBy_8 ?_
  refine V_dup2 (pc := 9) dX6_getsBy_9 rfl rfl ?_
  refine V_iald (pc := 10) dX6_getsBy_10 sh_49 (by omega) (by omega) (hL.dp hp) ?_
  refine V_iload_4 (pc := 11) dX6_getsBy_11 ?_
  refine V_ixor (pc := 13) dX6_getsBy_13 (bw_x01 (by omega) (by omega)) ?_
  refine V_iast (pc := 14) dX6_getsBy_14 sh_49 (by omega) (by omega) ?_
  refine V_aload_0 (pc := 15) dX6_getsBy_15 ?_
  refine V_getc (pc := 16) dX6_getsBy_16 gf_X6_59 (by omega) ?_
  refine V_iload_3 (pc := 19) dX6_getsBy_19 ?_
  refine V_dup2 (pc := 20) dX6_getsBy_20 rfl rfl ?_
  refine V_iald (pc := 21) dX6_getsBy_21 sh_49 (by omega) (by omega) ((setI_x (Ne.symm hpo)).trans (hL.dp ho)) ?_
  refine V_iload_5 (pc := 22) dX6_getsBy_22 ?_
  refine V_ixor (pc := 24) dX6_getsBy_24 (bw_x01 (by omega) (by omega)) ?_
  refine V_iast (pc := 25) dX6_getsBy_25 sh_49 (by omega) (by omega) ?_
  refine V_aload_0 (pc := 26) dX6_getsBy_26 ?_
  have hL := (hL.p_damp (p := p) (v := (B 10 p + x) % 2) (by omega)).p_damp (p := o) (v := (B 10 o + y) % 2) (by omega)
  have hK := hK.tr ((KM.set (t := 49) (k := 0) (z := p) (v := (B 10 p + x) % 2) (by unfold SCM; omega)).tr (KM.set (t := 49) (k := 0) (z := o) (v := (B 10 o + y) % 2) (by unfold SCM; omega)))
  have hM := hK.mb hM0
  refine V_callV0z (pc := 27) dX6_getsBy_27 kv_X6_318 rc_34 (by omega) (d - 1) (by omega) rfl (c_X6_runs (by omega) hM hW hL) (fun σ_27 h_27 => ?_)
  obtain ⟨hS, hR_⟩ := h_27
  have hL := hR_.ld hL
  have hK := hK.tr hR_.km
  have hM := hK.mb hM0
  refine V_iconst (pc := 30) dX6_getsBy_30 ?_
  refine V_istore_6 (pc := 31) dX6_getsBy_31 ?_
  refine V_iconst (pc := 33) dX6_getsBy_33 ?_
  refine V_istore_7 (pc := 34) dX6_getsBy_34 ?_
  exact loop 0 (by omega) _ ⟨hM, hL, hS, hK⟩

theorem c_getsP {d : Nat} (hd : 4 ≤ d) {σ : MM} {B : BK} {p o x y : Int} (hM : MB σ 0 B) (hW : WB B) (hp : 0 ≤ p ∧ p < B 5 0) (ho : 0 ≤ o ∧ o < B 5 0) (hpo : p ≠ o) (hx : x = 0 ∨ x = 1) (hy : y = 0 ∨ y = 1) : V yX6_getsBy cX6_getsBy 8 (some .int) d (QI (fun v σ' => v = GAI B (TRN B p o x y) p x ∧ KM σ σ')) 0 [some (vR 34 0), some (vI p), some (vI p), some (vI o), some (vI x), some (vI y), none, none] [] σ := by
  have h := c_X6_getsBy hd hM hW (z := p) (by have := hW.s; omega) hp ho hpo hx hy
  rw [if_pos rfl] at h
  exact h

theorem c_getsO {d : Nat} (hd : 4 ≤ d) {σ : MM} {B : BK} {p o x y : Int} (hM : MB σ 0 B) (hW : WB B) (hp : 0 ≤ p ∧ p < B 5 0) (ho : 0 ≤ o ∧ o < B 5 0) (hpo : p ≠ o) (hx : x = 0 ∨ x = 1) (hy : y = 0 ∨ y = 1) : V yX6_getsBy cX6_getsBy 8 (some .int) d (QI (fun v σ' => v = GAI B (TRN B p o x y) o y ∧ KM σ σ')) 0 [some (vR 34 0), some (vI o), some (vI p), some (vI o), some (vI x), some (vI y), none, none] [] σ := by
  have h := c_X6_getsBy hd hM hW (z := o) (by have := hW.s; omega) hp ho hpo hx hy
  rw [if_neg (Ne.symm hpo)] at h
  exact h

set_option maxRecDepth 20000 in
set_option maxHeartbeats 1000000 in
theorem c_X6_gets {d : Nat} (hd : 5 ≤ d) {σ : MM} {B : BK} {p o x y : Int} (hM : MB σ 0 B) (hG : GB B) (hp : IR p) (ho : IR o) (hx : IR x) (hy : IR y) : V yX6_gets cX6_gets 5 (some .int) d (QI (fun v σ' => v = q_gets B p o x y ∧ KM σ σ')) 0 [some (vR 34 0), some (vI p), some (vI o), some (vI x), some (vI y)] [] σ := by
  have hW := hG.w
  have hs := hW.s
  have hM0 := hM
  refine V_aload_0 (pc := 0) dX6_gets_0 ?_
  refine V_iconst (pc := 1) dX6_gets_1 ?_
  refine V_puti (pc := 2) dX6_gets_2 gf_X6_74 (by omega) ?_
  have hM := (KM.set (σ := σ) (t := 34) (k := 0) (z := 0) (v := 0) (by unfold SCM; omega)).mb hM
  refine V_aload_0 (pc := 5) dX6_gets_5 ?_
  refine V_iload_1 (pc := 6) dX6_gets_6 ?_
  refine V_iload_2 (pc := 7) dX6_gets_7 ?_
  refine V_callV2p (pc := 8) dX6_gets_8 kv_X6_415 rc_34 (by omega) (d - 1) (by omega) rfl (c_X6_areTwo (by omega) hM hW (by omega) (by omega)) ?_
  refine V_if_eq_b (pc := 11) 42 dX6_gets_11 (by decide) (fun c_11 => ?_) (fun c_11 => ?_)
  · refine V_sipush (pc := 42) dX6_gets_42 (by decide) ?_
    refine V_iretI (pc := 45) dX6_gets_45 rfl ?_
    first | exact ⟨_, rfl, by unfold q_gets; rw [if_pos (by omega)], (KM.set (σ := σ) (t := 34) (k := 0) (z := 0) (v := 0) (by unfold SCM; omega))⟩ | exact ⟨_, rfl, by unfold q_gets; rw [if_neg (by omega)]; exact h_36.1, (KM.set (σ := σ) (t := 34) (k := 0) (z := 0) (v := 0) (by unfold SCM; omega)).tr h_36.2⟩
  · refine V_iload_3 (pc := 14) dX6_gets_14 ?_
    refine V_callS1p (pc := 15) dX6_gets_15 kv_X6_408 (d - 1) (by omega) rfl (c_X6_isHalf (by omega) (by omega)) ?_
    refine V_if_eq_b (pc := 18) 42 dX6_gets_18 (by decide) (fun c_18 => ?_) (fun c_18 => ?_)
    · refine V_sipush (pc := 42) dX6_gets_42 (by decide) ?_
      refine V_iretI (pc := 45) dX6_gets_45 rfl ?_
      first | exact ⟨_, rfl, by unfold q_gets; rw [if_pos (by omega)], (KM.set (σ := σ) (t := 34) (k := 0) (z := 0) (v := 0) (by unfold SCM; omega))⟩ | exact ⟨_, rfl, by unfold q_gets; rw [if_neg (by omega)]; exact h_36.1, (KM.set (σ := σ) (t := 34) (k := 0) (z := 0) (v := 0) (by unfold SCM; omega)).tr h_36.2⟩
    · refine V_iload_4 (pc := 21) dX6_gets_21 ?_
      refine V_callS1p (pc := 23) dX6_gets_23 kv_X6_408 (d - 1) (by omega) rfl (c_X6_isHalf (by omega) (by omega)) ?_
      refine V_if_eq_b (pc := 26) 42 dX6_gets_26 (by decide) (fun c_26 => ?_) (fun c_26 => ?_)
      · refine V_sipush (pc := 42) dX6_gets_42 (by decide) ?_
        refine V_iretI (pc := 45) dX6_gets_45 rfl ?_
        first | exact ⟨_, rfl, by unfold q_gets; rw [if_pos (by omega)], (KM.set (σ := σ) (t := 34) (k := 0) (z := 0) (v := 0) (by unfold SCM; omega))⟩ | exact ⟨_, rfl, by unfold q_gets; rw [if_neg (by omega)]; exact h_36.1, (KM.set (σ := σ) (t := 34) (k := 0) (z := 0) (v := 0) (by unfold SCM; omega)).tr h_36.2⟩
      · refine V_aload_0 (pc := 29) dX6_gets_29 ?_
        refine V_iload_1 (pc := 30) dX6_gets_30 ?_
        refine V_iload_1 (pc := 31) dX6_gets_31 ?_
        refine V_iload_2 (pc := 32) dX6_gets_32 ?_
        refine V_iload_3 (pc := 33) dX6_gets_33 ?_
        refine V_iload_4 (pc := 34) dX6_gets_34 ?_
        refine V_callV5i (pc := 36) dX6_gets_36 kv_X6_418 rc_34 (by omega) (d - 1) (by omega) rfl (c_getsP (by omega) hM hW (by omega) (by omega) (by omega) (by omega) (by omega)) (fun v_36 σ_36 h_36 => ?_)
        refine V_goto (pc := 39) 45 dX6_gets_39 (by decide) ?_
        refine V_iretI (pc := 45) dX6_gets_45 rfl ?_
        first | exact ⟨_, rfl, by unfold q_gets; rw [if_pos (by omega)], (KM.set (σ := σ) (t := 34) (k := 0) (z := 0) (v := 0) (by unfold SCM; omega))⟩ | exact ⟨_, rfl, by unfold q_gets; rw [if_neg (by omega)]; exact h_36.1, (KM.set (σ := σ) (t := 34) (k := 0) (z := 0) (v := 0) (by unfold SCM; omega)).tr h_36.2⟩

set_option maxRecDepth 20000 in
set_option maxHeartbeats 1000000 in
theorem c_X6_rests {d : Nat} (hd : 5 ≤ d) {σ : MM} {B : BK} {p o : Int} (hM : MB σ 0 B) (hG : GB B) (hp : IR p) (ho : IR o) : V yX6_rests cX6_rests 8 (some .int) d (QI (fun v σ' => v = q_rests B p o ∧ KM σ σ')) 0 [some (vR 34 0), some (vI p), some (vI o), none, none, none, none, none] [] σ := by
  have hW := hG.w
  have hs := hW.s
  have hM0 := hM
  have loop : (¬ ((p < 0 ∨ B 5 0 ≤ p) ∨ (o < 0 ∨ B 5 0 ≤ o) ∨ p = o)) → ∀ i : Nat, i ≤ 4 → ∀ σi : MM, (KM σ σi) → V yX6_rests cX6_rests 8 (some .int) d (QI (fun v σ' => v = q_rests B p o ∧ KM σ σ')) 22 [some (vR 34 0), some (vI p), some (vI o), some (vI (bsN (fun c => bI (GAI B (TRN B p o (1 - c % 2) (c / 2)) p (1 - c % 2) ≤ GAI B (TRN B p o (c % 2) (c / 2)) p (c % 2) ∧ GAI B (TRN B p o (c % 2) (1 - c / 2)) o (1 - c / 2) ≤ GAI B (TRN B p o (c % 2) (c / 2)) o (c / 2))) i)), some (vI (i : Int)), none, none, none] [] σi := by
    intro hR
    refine up_ind (P := fun i : Nat => ∀ σi : MM, (KM σ σi) → V yX6_rests cX6_rests 8 (some .int) d (QI (fun v σ' => v = q_rests B p o ∧ KM σ σ')) 22 [some (vR 34 0), some (vI p), some (vI o), some (vI (bsN (fun c => bI (GAI B (TRN B p o (1 - c % 2) (c / 2)) p (1 - c % 2) ≤ GAI B (TRN B p o (c % 2) (c / 2)) p (c % 2) ∧ GAI B (TRN B p o (c % 2) (1 - c / 2)) o (1 - c / 2) ≤ GAI B (TRN B p o (c % 2) (c / 2)) o (c / 2))) i)), some (vI (i : Int)), none, none, none] [] σi) ?_ ?_
    · intro σi hI
      have hK := hI
      have hM := hK.mb hM0
      refine V_iload_4 (pc := 22) dX6_rests_22 ?_
      refine V_iconst (pc := 24) dX6_rests_24 ?_
      refine V_icmp_ge (pc := 25) 123 dX6_rests_25 (by decide) (by omega) (by omega) (fun c_25 => ?_) (fun c_25 => ?_)
      · refine V_iload_3 (pc := 123) dX6_rests_123 ?_
        refine V_iretI (pc := 124) dX6_rests_124 rfl ?_
        exact ⟨_, rfl, by unfold q_rests; rw [if_neg (by omega)], hK⟩
      · exact absurd c_25 (by omega)
    · intro i hi ih σi hI
      have hK := hI
      have hM := hK.mb hM0
      have h61 := hs.2.2.2.2.2.2.1.2
      have k1 := GAI_in B (TRN B p o (1 - (i : Int) % 2) ((i : Int) / 2)) p (1 - (i : Int) % 2) h61 (by omega)
      have k2 := GAI_in B (TRN B p o ((i : Int) % 2) ((i : Int) / 2)) p ((i : Int) % 2) h61 (by omega)
      have k3 := GAI_in B (TRN B p o ((i : Int) % 2) (1 - (i : Int) / 2)) o (1 - (i : Int) / 2) h61 (by omega)
      have k4 := GAI_in B (TRN B p o ((i : Int) % 2) ((i : Int) / 2)) o ((i : Int) / 2) h61 (by omega)
      have hb := bsI_in (fun c => (GAI B (TRN B p o (1 - c % 2) (c / 2)) p (1 - c % 2) ≤ GAI B (TRN B p o (c % 2) (c / 2)) p (c % 2) ∧ GAI B (TRN B p o (c % 2) (1 - c / 2)) o (1 - c / 2) ≤ GAI B (TRN B p o (c % 2) (c / 2)) o (c / 2))) i
      have hS_ := bsN_S (fun c => bI (GAI B (TRN B p o (1 - c % 2) (c / 2)) p (1 - c % 2) ≤ GAI B (TRN B p o (c % 2) (c / 2)) p (c % 2) ∧ GAI B (TRN B p o (c % 2) (1 - c / 2)) o (1 - c / 2) ≤ GAI B (TRN B p o (c % 2) (c / 2)) o (c / 2))) i
      refine V_iload_4 (pc := 22) dX6_rests_22 ?_
      refine V_iconst (pc := 24) dX6_rests_24 ?_
      refine V_icmp_ge (pc := 25) 123 dX6_rests_25 (by decide) (by omega) (by omega) (fun c_25 => ?_) (fun c_25 => ?_)
      · exact absurd c_25 (by omega)
      · refine V_iload_4 (pc := 28) dX6_rests_28 ?_
        refine V_iconst (pc := 30) dX6_rests_30 ?_
        refine V_irem_p (pc := 31) dX6_rests_31 (by omega) (by omega) ?_
        refine V_istore_5 (pc := 32) dX6_rests_32 ?_
        refine V_iload_4 (pc := 34) dX6_rests_34 ?_
        refine V_iconst (pc := 36) dX6_rests_36 ?_
        refine V_idiv_p (pc := 37) dX6_rests_37 (by omega) (by omega) ?_
        refine V_istore_6 (pc := 38) dX6_rests_38 ?_
        refine V_aload_0 (pc := 40) dX6_rests_40 ?_
        refine V_iload_1 (pc := 41) dX6_rests_41 ?_
        refine V_iload_1 (pc := 42) dX6_rests_42 ?_
        refine V_iload_2 (pc := 43) dX6_rests_43 ?_
        refine V_iconst (pc := 44) dX6_rests_44 ?_
        refine V_iload_5 (pc := 45) dX6_rests_45 ?_
        refine V_isub (pc := 47) dX6_rests_47 ?_
        refine V_iload_6 (pc := 48) dX6_rests_48 ?_
        refine V_callV5i (pc := 50) dX6_rests_50 kv_X6_418 rc_34 (by omega) (d - 1) (by omega) rfl (c_getsP (by omega) hM hW (by omega) (by omega) (by omega) (by omega) (by omega)) (fun v_50 σ_50 h_50 => ?_)
        obtain ⟨e0, hK0⟩ := h_50
        have hK := hK.tr hK0
        have hM := hK.mb hM0
        refine V_aload_0 (pc := 53) dX6_rests_53 ?_
        refine V_iload_1 (pc := 54) dX6_rests_54 ?_
        refine V_iload_1 (pc := 55) dX6_rests_55 ?_
        refine V_iload_2 (pc := 56) dX6_rests_56 ?_
        refine V_iload_5 (pc := 57) dX6_rests_57 ?_
        refine V_iload_6 (pc := 59) dX6_rests_59 ?_
        refine V_callV5i (pc := 61) dX6_rests_61 kv_X6_418 rc_34 (by omega) (d - 1) (by omega) rfl (c_getsP (by omega) hM hW (by omega) (by omega) (by omega) (by omega) (by omega)) (fun v_61 σ_61 h_61 => ?_)
        obtain ⟨e1, hK1⟩ := h_61
        have hK := hK.tr hK1
        have hM := hK.mb hM0
        refine V_icmp_gt (pc := 64) 98 dX6_rests_64 (by decide) (by omega) (by omega) (fun c_64 => ?_) (fun c_64 => ?_)
        · refine V_iconst (pc := 98) dX6_rests_98 ?_
          refine V_istore_7 (pc := 99) dX6_rests_99 ?_
          refine V_iload_3 (pc := 101) dX6_rests_101 ?_
          refine V_iload_7 (pc := 102) dX6_rests_102 ?_
          refine V_if_eq (pc := 104) 114 dX6_rests_104 (by decide) (by omega) (fun c_104 => ?_) (fun c_104 => ?_)
          · refine V_iconst (pc := 114) dX6_rests_114 ?_
            first
              | refine V_ior_add (pc := 115) dX6_rests_115 (by assumption) ?_
              | refine V_ior_0 (pc := 115) dX6_rests_115 ?_
            refine V_istore_3 (pc := 116) dX6_rests_116 ?_
            refine V_iinc_4 (pc := 117) dX6_rests_117 ?_
            refine V_goto (pc := 120) 22 dX6_rests_120 (by decide) ?_
            first | (exfalso; omega) | refine V.sub (by simp only [subL, Option.some.injEq, Sum.inl.injEq, Sum.inr.injEq, reduceCtorEq, true_or, or_true, false_or, true_and, and_true]; first | (rw [hS_, bI_t (by omega)]; refine ⟨by omega, by omega⟩) | (rw [hS_, bI_f (by omega)]; refine ⟨by omega, by omega⟩)) (ih _ hK)
          · refine V_iconst (pc := 107) dX6_rests_107 ?_
            refine V_iload_4 (pc := 108) dX6_rests_108 ?_
            refine V_ishl_1 (pc := 110) dX6_rests_110 (by omega) ?_
            refine V_goto (pc := 111) 115 dX6_rests_111 (by decide) ?_
            first
              | refine V_ior_add (pc := 115) dX6_rests_115 (by assumption) ?_
              | refine V_ior_0 (pc := 115) dX6_rests_115 ?_
            refine V_istore_3 (pc := 116) dX6_rests_116 ?_
            refine V_iinc_4 (pc := 117) dX6_rests_117 ?_
            refine V_goto (pc := 120) 22 dX6_rests_120 (by decide) ?_
            first | (exfalso; omega) | refine V.sub (by simp only [subL, Option.some.injEq, Sum.inl.injEq, Sum.inr.injEq, reduceCtorEq, true_or, or_true, false_or, true_and, and_true]; first | (rw [hS_, bI_t (by omega)]; refine ⟨by omega, by omega⟩) | (rw [hS_, bI_f (by omega)]; refine ⟨by omega, by omega⟩)) (ih _ hK)
        · refine V_aload_0 (pc := 67) dX6_rests_67 ?_
          refine V_iload_2 (pc := 68) dX6_rests_68 ?_
          refine V_iload_1 (pc := 69) dX6_rests_69 ?_
          refine V_iload_2 (pc := 70) dX6_rests_70 ?_
          refine V_iload_5 (pc := 71) dX6_rests_71 ?_
          refine V_iconst (pc := 73) dX6_rests_73 ?_
          refine V_iload_6 (pc := 74) dX6_rests_74 ?_
          refine V_isub (pc := 76) dX6_rests_76 ?_
          refine V_callV5i (pc := 77) dX6_rests_77 kv_X6_418 rc_34 (by omega) (d - 1) (by omega) rfl (c_getsO (by omega) hM hW (by omega) (by omega) (by omega) (by omega) (by omega)) (fun v_77 σ_77 h_77 => ?_)
          obtain ⟨e2, hK2⟩ := h_77
          have hK := hK.tr hK2
          have hM := hK.mb hM0
          refine V_aload_0 (pc := 80) dX6_rests_80 ?_
          refine V_iload_2 (pc := 81) dX6_rests_81 ?_
          refine V_iload_1 (pc := 82) dX6_rests_82 ?_
          refine V_iload_2 (pc := 83) dX6_rests_83 ?_
          refine V_iload_5 (pc := 84) dX6_rests_84 ?_
          refine V_iload_6 (pc := 86) dX6_rests_86 ?_
          refine V_callV5i (pc := 88) dX6_rests_88 kv_X6_418 rc_34 (by omega) (d - 1) (by omega) rfl (c_getsO (by omega) hM hW (by omega) (by omega) (by omega) (by omega) (by omega)) (fun v_88 σ_88 h_88 => ?_)
          obtain ⟨e3, hK3⟩ := h_88
          have hK := hK.tr hK3
          have hM := hK.mb hM0
          refine V_icmp_gt (pc := 91) 98 dX6_rests_91 (by decide) (by omega) (by omega) (fun c_91 => ?_) (fun c_91 => ?_)
          · refine V_iconst (pc := 98) dX6_rests_98 ?_
            refine V_istore_7 (pc := 99) dX6_rests_99 ?_
            refine V_iload_3 (pc := 101) dX6_rests_101 ?_
            refine V_iload_7 (pc := 102) dX6_rests_102 ?_
            refine V_if_eq (pc := 104) 114 dX6_rests_104 (by decide) (by omega) (fun c_104 => ?_) (fun c_104 => ?_)
            · refine V_iconst (pc := 114) dX6_rests_114 ?_
              first
                | refine V_ior_add (pc := 115) dX6_rests_115 (by assumption) ?_
                | refine V_ior_0 (pc := 115) dX6_rests_115 ?_
              refine V_istore_3 (pc := 116) dX6_rests_116 ?_
              refine V_iinc_4 (pc := 117) dX6_rests_117 ?_
              refine V_goto (pc := 120) 22 dX6_rests_120 (by decide) ?_
              first | (exfalso; omega) | refine V.sub (by simp only [subL, Option.some.injEq, Sum.inl.injEq, Sum.inr.injEq, reduceCtorEq, true_or, or_true, false_or, true_and, and_true]; first | (rw [hS_, bI_t (by omega)]; refine ⟨by omega, by omega⟩) | (rw [hS_, bI_f (by omega)]; refine ⟨by omega, by omega⟩)) (ih _ hK)
            · refine V_iconst (pc := 107) dX6_rests_107 ?_
              refine V_iload_4 (pc := 108) dX6_rests_108 ?_
              refine V_ishl_1 (pc := 110) dX6_rests_110 (by omega) ?_
              refine V_goto (pc := 111) 115 dX6_rests_111 (by decide) ?_
              first
                | refine V_ior_add (pc := 115) dX6_rests_115 (by assumption) ?_
                | refine V_ior_0 (pc := 115) dX6_rests_115 ?_
              refine V_istore_3 (pc := 116) dX6_rests_116 ?_
              refine V_iinc_4 (pc := 117) dX6_rests_117 ?_
              refine V_goto (pc := 120) 22 dX6_rests_120 (by decide) ?_
              first | (exfalso; omega) | refine V.sub (by simp only [subL, Option.some.injEq, Sum.inl.injEq, Sum.inr.injEq, reduceCtorEq, true_or, or_true, false_or, true_and, and_true]; first | (rw [hS_, bI_t (by omega)]; refine ⟨by omega, by omega⟩) | (rw [hS_, bI_f (by omega)]; refine ⟨by omega, by omega⟩)) (ih _ hK)
          · refine V_iconst (pc := 94) dX6_rests_94 ?_
            refine V_goto (pc := 95) 99 dX6_rests_95 (by decide) ?_
            refine V_istore_7 (pc := 99) dX6_rests_99 ?_
            refine V_iload_3 (pc := 101) dX6_rests_101 ?_
            refine V_iload_7 (pc := 102) dX6_rests_102 ?_
            refine V_if_eq (pc := 104) 114 dX6_rests_104 (by decide) (by omega) (fun c_104 => ?_) (fun c_104 => ?_)
            · refine V_iconst (pc := 114) dX6_rests_114 ?_
              first
                | refine V_ior_add (pc := 115) dX6_rests_115 (by assumption) ?_
                | refine V_ior_0 (pc := 115) dX6_rests_115 ?_
              refine V_istore_3 (pc := 116) dX6_rests_116 ?_
              refine V_iinc_4 (pc := 117) dX6_rests_117 ?_
              refine V_goto (pc := 120) 22 dX6_rests_120 (by decide) ?_
              first | (exfalso; omega) | refine V.sub (by simp only [subL, Option.some.injEq, Sum.inl.injEq, Sum.inr.injEq, reduceCtorEq, true_or, or_true, false_or, true_and, and_true]; first | (rw [hS_, bI_t (by omega)]; refine ⟨by omega, by omega⟩) | (rw [hS_, bI_f (by omega)]; refine ⟨by omega, by omega⟩)) (ih _ hK)
            · refine V_iconst (pc := 107) dX6_rests_107 ?_
              refine V_iload_4 (pc := 108) dX6_rests_108 ?_
              refine V_ishl_1 (pc := 110) dX6_rests_110 (by omega) ?_
              refine V_goto (pc := 111) 115 dX6_rests_111 (by decide) ?_
              first
                | refine V_ior_add (pc := 115) dX6_rests_115 (by assumption) ?_
                | refine V_ior_0 (pc := 115) dX6_rests_115 ?_
              refine V_istore_3 (pc := 116) dX6_rests_116 ?_
              refine V_iinc_4 (pc := 117) dX6_rests_117 ?_
              refine V_goto (pc := 120) 22 dX6_rests_120 (by decide) ?_
              first | (exfalso; omega) | refine V.sub (by simp only [subL, Option.some.injEq, Sum.inl.injEq, Sum.inr.injEq, reduceCtorEq, true_or, or_true, false_or, true_and, and_true]; first | (rw [hS_, bI_t (by omega)]; refine ⟨by omega, by omega⟩) | (rw [hS_, bI_f (by omega)]; refine ⟨by omega, by omega⟩)) (ih _ hK)
  refine V_aload_0 (pc := 0) dX6_rests_0 ?_
  refine V_iconst (pc := 1) dX6_rests_1 ?_
  refine V_puti (pc := 2) dX6_rests_2 gf_X6_74 (by omega) ?_
  have hM := (KM.set (σ := σ) (t := 34) (k := 0) (z := 0) (v := 0) (by unfold SCM; omega)).mb hM
  refine V_aload_0 (pc := 5) dX6_rests_5 ?_
  refine V_iload_1 (pc := 6) dX6_rests_6 ?_
  refine V_iload_2 (pc := 7) dX6_rests_7 ?_
  refine V_callV2p (pc := 8) dX6_rests_8 kv_X6_415 rc_34 (by omega) (d - 1) (by omega) rfl (c_X6_areTwo (by omega) hM hW (by omega) (by omega)) ?_
  refine V_if_ne_b (pc := 11) 17 dX6_rests_11 (by decide) (fun c_11 => ?_) (fun c_11 => ?_)
  · refine V_iconst (pc := 17) dX6_rests_17 ?_
    refine V_istore_3 (pc := 18) dX6_rests_18 ?_
    refine V_iconst (pc := 19) dX6_rests_19 ?_
    refine V_istore_4 (pc := 20) dX6_rests_20 ?_
    exact loop (by omega) 0 (by omega) _ (KM.set (σ := σ) (t := 34) (k := 0) (z := 0) (v := 0) (by unfold SCM; omega))
  · refine V_bipush (pc := 14) dX6_rests_14 (by decide) ?_
    refine V_iretI (pc := 16) dX6_rests_16 rfl ?_
    exact ⟨_, rfl, by unfold q_rests; rw [if_pos (by omega)], (KM.set (σ := σ) (t := 34) (k := 0) (z := 0) (v := 0) (by unfold SCM; omega))⟩
