set_option maxRecDepth 20000 in
set_option maxHeartbeats 1000000 in
theorem c_X5_totalByLaw {d : Nat} (hd : 6 ≤ d) {σ : MM} {B : BK} {l : Int} (hB : CB σ 1 B) (hG : GB B) (hl : 0 ≤ l ∧ l ≤ 3) : V yX5_totalByLaw cX5_totalByLaw 2 (some .int) d (QI (fun v σ' => v = TOT (sB B 2 0 l) ∧ Keep σ σ')) 0 [some (vR 0 0), some (vI l)] [] σ := by
  have hW := hG.w
  have hs := hW.s
  have hys : 0 ≤ B 1 0 ∧ B 1 0 ≤ B 1 0 := by omega
  refine V_aload_0 (pc := 0) dX5_totalByLaw_0 ?_
  refine V_getc (pc := 1) dX5_totalByLaw_1 gf_X5_26 (by omega) ?_
  refine V_aload_0 (pc := 4) dX5_totalByLaw_4 ?_
  refine V_getc (pc := 5) dX5_totalByLaw_5 gf_X5_23 (by omega) ?_
  refine V_callV1z (pc := 8) dX5_totalByLaw_8 kv_X5_96 rc_3 (by omega) (d - 1) (by omega) rfl (c_X1_copyFrom (by omega) (by omega) (by omega) (by omega) hB hs) (fun σ_8 h_8 => ?_)
  have hT := CB_put (k := 2) (v := l) h_8.1 (Or.inl ⟨rfl, rfl, rfl, rfl⟩)
  have hWT := WB_law hW hl
  refine V_aload_0 (pc := 11) dX5_totalByLaw_11 ?_
  refine V_getc (pc := 12) dX5_totalByLaw_12 gf_X5_26 (by omega) ?_
  refine V_iload_1 (pc := 15) dX5_totalByLaw_15 ?_
  refine V_puti (pc := 16) dX5_totalByLaw_16 gf_X5_249 (by omega) ?_
  refine V_aload_0 (pc := 19) dX5_totalByLaw_19 ?_
  refine V_getc (pc := 20) dX5_totalByLaw_20 gf_X5_36 (by omega) ?_
  refine V_aload_0 (pc := 23) dX5_totalByLaw_23 ?_
  refine V_getc (pc := 24) dX5_totalByLaw_24 gf_X5_26 (by omega) ?_
  refine V_iconst (pc := 27) dX5_totalByLaw_27 ?_
  refine V_callV2z (pc := 28) dX5_totalByLaw_28 kv_X5_99 rc_18 (by omega) (d - 1) (by omega) rfl (c_X2_follow (by omega) (by omega) (by omega) hT hWT (by omega)) (fun σ_28 h_28 => ?_)
  have K := (h_8.2.keep (Or.inl rfl)).tr ((Keep.set (t := 3) (k := 2) (z := 2) (v := l) (by decide)).tr h_28.2.keep)
  have hB2 := K.CB (Or.inl rfl) hB
  have hT2 := h_28.2.CB hT
  refine V_aload_0 (pc := 31) dX5_totalByLaw_31 ?_
  refine V_getc (pc := 32) dX5_totalByLaw_32 gf_X5_36 (by omega) ?_
  refine V_aload_0 (pc := 35) dX5_totalByLaw_35 ?_
  refine V_getc (pc := 36) dX5_totalByLaw_36 gf_X5_26 (by omega) ?_
  refine V_aload_0 (pc := 39) dX5_totalByLaw_39 ?_
  refine V_getc (pc := 40) dX5_totalByLaw_40 gf_X5_23 (by omega) ?_
  refine V_geti (pc := 43) dX5_totalByLaw_43 gf_X5_175 (by omega) hB2.s1 ?_
  refine V_callV2p (pc := 46) dX5_totalByLaw_46 kv_X5_196 rc_18 (by omega) (d - 1) (by omega) rfl (c_X2_total (by omega) (by omega) (by omega) hT2 hWT (by omega) (h_28.1.rk (y := B 1 0) hys)) ?_
  refine V_iretI (pc := 49) dX5_totalByLaw_49 rfl ?_
  exact ⟨_, rfl, rfl, K⟩

set_option maxRecDepth 20000 in
set_option maxHeartbeats 1000000 in
theorem c_X5_by {d : Nat} (hd : 7 ≤ d) {σ : MM} {B : BK} {l : Int} (hB : CB σ 1 B) (hG : GB B) (hl : IR l) : V yX5_by cX5_by 2 (some .int) d (QI (fun v σ' => v = q_by B l ∧ Keep σ σ')) 0 [some (vR 0 0), some (vI l)] [] σ := by
  have hW := hG.w
  have hs := hW.s
  refine V_aload_0 (pc := 0) dX5_by_0 ?_
  refine V_callV0p (pc := 1) dX5_by_1 kv_X5_155 rc_0 (by omega) (d - 1) (by omega) rfl (c_X5_noBook (by omega) hB hs) ?_
  refine V_if_ne_b (pc := 4) 16 dX5_by_4 (by decide) (fun c_4 => ?_) (fun c_4 => ?_)
  · refine V_bipush (pc := 16) dX5_by_16 (by decide) ?_
    refine V_goto (pc := 18) 26 dX5_by_18 (by decide) ?_
    refine V_iretI (pc := 26) dX5_by_26 rfl ?_
    first | exact ⟨_, rfl, by unfold q_by; rw [if_pos (by omega)], Keep.rf⟩ | exact ⟨_, rfl, by unfold q_by; rw [if_neg (by omega)]; exact h_23.1, h_23.2⟩
  · refine V_iload_1 (pc := 7) dX5_by_7 ?_
    refine V_if_lt (pc := 8) 16 dX5_by_8 (by decide) (by omega) (fun c_8 => ?_) (fun c_8 => ?_)
    · refine V_bipush (pc := 16) dX5_by_16 (by decide) ?_
      refine V_goto (pc := 18) 26 dX5_by_18 (by decide) ?_
      refine V_iretI (pc := 26) dX5_by_26 rfl ?_
      first | exact ⟨_, rfl, by unfold q_by; rw [if_pos (by omega)], Keep.rf⟩ | exact ⟨_, rfl, by unfold q_by; rw [if_neg (by omega)]; exact h_23.1, h_23.2⟩
    · refine V_iload_1 (pc := 11) dX5_by_11 ?_
      refine V_iconst (pc := 12) dX5_by_12 ?_
      refine V_icmp_lt (pc := 13) 21 dX5_by_13 (by decide) (by omega) (by omega) (fun c_13 => ?_) (fun c_13 => ?_)
      · refine V_aload_0 (pc := 21) dX5_by_21 ?_
        refine V_iload_1 (pc := 22) dX5_by_22 ?_
        refine V_callV1i (pc := 23) dX5_by_23 kv_X5_252 rc_0 (by omega) (d - 1) (by omega) rfl (c_X5_totalByLaw (by omega) hB hG (by omega)) (fun v_23 σ_23 h_23 => ?_)
        refine V_iretI (pc := 26) dX5_by_26 rfl ?_
        first | exact ⟨_, rfl, by unfold q_by; rw [if_pos (by omega)], Keep.rf⟩ | exact ⟨_, rfl, by unfold q_by; rw [if_neg (by omega)]; exact h_23.1, h_23.2⟩
      · refine V_bipush (pc := 16) dX5_by_16 (by decide) ?_
        refine V_goto (pc := 18) 26 dX5_by_18 (by decide) ?_
        refine V_iretI (pc := 26) dX5_by_26 rfl ?_
        first | exact ⟨_, rfl, by unfold q_by; rw [if_pos (by omega)], Keep.rf⟩ | exact ⟨_, rfl, by unfold q_by; rw [if_neg (by omega)]; exact h_23.1, h_23.2⟩

set_option maxRecDepth 20000 in
set_option maxHeartbeats 1000000 in
theorem c_X5_law {d : Nat} (hd : 7 ≤ d) {σ : MM} {B : BK} (hB : CB σ 1 B) (hG : GB B) : V yX5_law cX5_law 5 (some .int) d (QI (fun v σ' => v = q_law B ∧ Keep σ σ')) 0 [some (vR 0 0), none, none, none, none] [] σ := by
  have hW := hG.w
  have hs := hW.s
  have loop : (¬ B 0 0 = 0) → ∀ i : Nat, i ≤ 3 → ∀ σi : MM, (Keep σ σi) → V yX5_law cX5_law 5 (some .int) d (QI (fun v σ' => v = q_law B ∧ Keep σ σ')) 20 [some (vR 0 0), some (vI (mxN (fun l => TOT (sB B 2 0 l)) i)), some (vI (TOT (sB B 2 0 (mxN (fun l => TOT (sB B 2 0 l)) i)))), some (vI ((i : Int) + 1)), none] [] σi := by
    intro hR
    refine up_ind (P := fun i : Nat => ∀ σi : MM, (Keep σ σi) → V yX5_law cX5_law 5 (some .int) d (QI (fun v σ' => v = q_law B ∧ Keep σ σ')) 20 [some (vR 0 0), some (vI (mxN (fun l => TOT (sB B 2 0 l)) i)), some (vI (TOT (sB B 2 0 (mxN (fun l => TOT (sB B 2 0 l)) i)))), some (vI ((i : Int) + 1)), none] [] σi) ?_ ?_
    · intro σi hI
      refine V_iload_3 (pc := 20) dX5_law_20 ?_
      refine V_iconst (pc := 21) dX5_law_21 ?_
      refine V_icmp_ge (pc := 22) 49 dX5_law_22 (by decide) (by omega) (by omega) (fun c_22 => ?_) (fun c_22 => ?_)
      · refine V_iload_1 (pc := 49) dX5_law_49 ?_
        refine V_iretI (pc := 50) dX5_law_50 rfl ?_
        exact ⟨_, rfl, by unfold q_law; rw [if_neg hR], hI⟩
      · exact absurd c_22 (by omega)
    · intro i hi ih σi hI
      have hm := mxN_in (fun l => TOT (sB B 2 0 l)) i
      have hBi := hI.CB (Or.inl rfl) hB
      have t1 := TOT_in (WB_law hW (v := (i : Int) + 1) (by omega))
      have t2 := TOT_in (WB_law hW (v := mxN (fun l => TOT (sB B 2 0 l)) i) (by omega))
      have hS : mxN (fun l => TOT (sB B 2 0 l)) (i + 1) = if TOT (sB B 2 0 (mxN (fun l => TOT (sB B 2 0 l)) i)) < TOT (sB B 2 0 ((i : Int) + 1)) then (i : Int) + 1 else mxN (fun l => TOT (sB B 2 0 l)) i := rfl
      refine V_iload_3 (pc := 20) dX5_law_20 ?_
      refine V_iconst (pc := 21) dX5_law_21 ?_
      refine V_icmp_ge (pc := 22) 49 dX5_law_22 (by decide) (by omega) (by omega) (fun c_22 => ?_) (fun c_22 => ?_)
      · exact absurd c_22 (by omega)
      · refine V_aload_0 (pc := 25) dX5_law_25 ?_
        refine V_iload_3 (pc := 26) dX5_law_26 ?_
        refine V_callV1i (pc := 27) dX5_law_27 kv_X5_252 rc_0 (by omega) (d - 1) (by omega) rfl (c_X5_totalByLaw (by omega) hBi hG (by omega)) (fun v_27 σ_27 h_27 => ?_)
        obtain ⟨hv, hk⟩ := h_27
        subst hv
        refine V_istore_4 (pc := 30) dX5_law_30 ?_
        refine V_iload_4 (pc := 32) dX5_law_32 ?_
        refine V_iload_2 (pc := 34) dX5_law_34 ?_
        refine V_icmp_le (pc := 35) 43 dX5_law_35 (by decide) (by omega) (by omega) (fun c_35 => ?_) (fun c_35 => ?_)
        · refine V_iinc_3 (pc := 43) dX5_law_43 ?_
          refine V_goto (pc := 46) 20 dX5_law_46 (by decide) ?_
          refine V.sub (by simp only [subL, Option.some.injEq, Sum.inl.injEq, Sum.inr.injEq, reduceCtorEq, true_or, or_true, false_or, true_and, and_true]; rw [hS, if_neg (by omega)]; refine ⟨rfl, rfl, by omega⟩) (ih _ (hI.tr hk))
        · refine V_iload_3 (pc := 38) dX5_law_38 ?_
          refine V_istore_1 (pc := 39) dX5_law_39 ?_
          refine V_iload_4 (pc := 40) dX5_law_40 ?_
          refine V_istore_2 (pc := 42) dX5_law_42 ?_
          refine V_iinc_3 (pc := 43) dX5_law_43 ?_
          refine V_goto (pc := 46) 20 dX5_law_46 (by decide) ?_
          refine V.sub (by simp only [subL, Option.some.injEq, Sum.inl.injEq, Sum.inr.injEq, reduceCtorEq, true_or, or_true, false_or, true_and, and_true]; rw [hS, if_pos (by omega)]; refine ⟨rfl, rfl, by omega⟩) (ih _ (hI.tr hk))
  refine V_aload_0 (pc := 0) dX5_law_0 ?_
  refine V_callV0p (pc := 1) dX5_law_1 kv_X5_155 rc_0 (by omega) (d - 1) (by omega) rfl (c_X5_noBook (by omega) hB hs) ?_
  refine V_if_eq_b (pc := 4) 10 dX5_law_4 (by decide) (fun c_4 => ?_) (fun c_4 => ?_)
  · refine V_iconst (pc := 10) dX5_law_10 ?_
    refine V_istore_1 (pc := 11) dX5_law_11 ?_
    refine V_aload_0 (pc := 12) dX5_law_12 ?_
    refine V_iconst (pc := 13) dX5_law_13 ?_
    refine V_callV1i (pc := 14) dX5_law_14 kv_X5_252 rc_0 (by omega) (d - 1) (by omega) rfl (c_X5_totalByLaw (by omega) hB hG (by omega)) (fun v_14 σ_14 h_14 => ?_)
    obtain ⟨hv, hk⟩ := h_14
    subst hv
    refine V_istore_2 (pc := 17) dX5_law_17 ?_
    refine V_iconst (pc := 18) dX5_law_18 ?_
    refine V_istore_3 (pc := 19) dX5_law_19 ?_
    exact loop (by omega) 0 (by omega) _ hk
  · refine V_bipush (pc := 7) dX5_law_7 (by decide) ?_
    refine V_iretI (pc := 9) dX5_law_9 rfl ?_
    exact ⟨_, rfl, by unfold q_law; rw [if_pos (by omega)], Keep.rf⟩

set_option maxRecDepth 20000 in
set_option maxHeartbeats 1000000 in
theorem c_X5_later {d : Nat} (hd : 6 ≤ d) {σ : MM} {B : BK} {e n : Int} (hB : CB σ 1 B) (hG : GB B) (he0 : IR e) (hn : IR n) : V yX5_later cX5_later 3 (some .int) d (QI (fun v σ' => v = q_later B e n ∧ Keep σ σ')) 0 [some (vR 0 0), some (vI e), some (vI n)] [] σ := by
  have hW := hG.w
  have hs := hW.s
  have hys : 0 ≤ B 1 0 ∧ B 1 0 ≤ B 1 0 := by omega
  refine V_aload_0 (pc := 0) dX5_later_0 ?_
  refine V_iload_1 (pc := 1) dX5_later_1 ?_
  refine V_callV1p (pc := 2) dX5_later_2 kv_X5_125 rc_0 (by omega) (d - 1) (by omega) rfl (c_X5_noEntry (by omega) hB hs (by omega)) ?_
  refine V_if_ne_b (pc := 5) 18 dX5_later_5 (by decide) (fun c_5 => ?_) (fun c_5 => ?_)
  · refine V_bipush (pc := 18) dX5_later_18 (by decide) ?_
    refine V_iretI (pc := 20) dX5_later_20 rfl ?_
    first | exact ⟨_, rfl, by unfold q_later; rw [if_pos (by omega)], Keep.rf⟩ | exact ⟨_, rfl, by unfold q_later; rw [if_neg (by omega)]; rfl, K⟩
  · refine V_iload_2 (pc := 8) dX5_later_8 ?_
    refine V_if_lt (pc := 9) 18 dX5_later_9 (by decide) (by omega) (fun c_9 => ?_) (fun c_9 => ?_)
    · refine V_bipush (pc := 18) dX5_later_18 (by decide) ?_
      refine V_iretI (pc := 20) dX5_later_20 rfl ?_
      first | exact ⟨_, rfl, by unfold q_later; rw [if_pos (by omega)], Keep.rf⟩ | exact ⟨_, rfl, by unfold q_later; rw [if_neg (by omega)]; rfl, K⟩
    · refine V_iload_2 (pc := 12) dX5_later_12 ?_
      refine V_bipush (pc := 13) dX5_later_13 (by decide) ?_
      refine V_icmp_le (pc := 15) 21 dX5_later_15 (by decide) (by omega) (by omega) (fun c_15 => ?_) (fun c_15 => ?_)
      · refine V_aload_0 (pc := 21) dX5_later_21 ?_
        refine V_getc (pc := 22) dX5_later_22 gf_X5_26 (by omega) ?_
        refine V_aload_0 (pc := 25) dX5_later_25 ?_
        refine V_getc (pc := 26) dX5_later_26 gf_X5_23 (by omega) ?_
        refine V_callV1z (pc := 29) dX5_later_29 kv_X5_96 rc_3 (by omega) (d - 1) (by omega) rfl (c_X1_copyFrom (by omega) (by omega) (by omega) (by omega) hB hs) (fun σ_29 h_29 => ?_)
        have he : 0 ≤ e ∧ e < B 6 0 := by omega
        have hT := CB_put (k := e) (v := (B 13 e + n)) h_29.1 (Or.inr (Or.inr (Or.inr (Or.inr (Or.inl ⟨rfl, rfl, rfl⟩)))))
        have hWT := WB_wrote hW (k := e) (v := B 13 e + n) (by have := hG.n (e := e) (by omega); have := hW.e (i := e) (by omega); omega)
        refine V_aload_0 (pc := 32) dX5_later_32 ?_
        refine V_getc (pc := 33) dX5_later_33 gf_X5_26 (by omega) ?_
        refine V_gets (pc := 36) dX5_later_36 gf_X5_134 (by omega) ?_
        refine V_iload_1 (pc := 39) dX5_later_39 ?_
        refine V_aload_0 (pc := 40) dX5_later_40 ?_
        refine V_getc (pc := 41) dX5_later_41 gf_X5_23 (by omega) ?_
        refine V_gets (pc := 44) dX5_later_44 gf_X5_134 (by omega) ?_
        refine V_iload_1 (pc := 47) dX5_later_47 ?_
        refine V_iald (pc := 48) dX5_later_48 sh_10 (by omega) (by omega) ((h_29.2.CB (by omega) hB).a10 (by omega)) ?_
        refine V_iload_2 (pc := 49) dX5_later_49 ?_
        refine V_iadd (pc := 50) dX5_later_50 ?_
        refine V_iast (pc := 51) dX5_later_51 sh_10 (by omega) (by omega) ?_
        refine V_aload_0 (pc := 52) dX5_later_52 ?_
        refine V_getc (pc := 53) dX5_later_53 gf_X5_36 (by omega) ?_
        refine V_aload_0 (pc := 56) dX5_later_56 ?_
        refine V_getc (pc := 57) dX5_later_57 gf_X5_26 (by omega) ?_
        refine V_iconst (pc := 60) dX5_later_60 ?_
        refine V_callV2z (pc := 61) dX5_later_61 kv_X5_99 rc_18 (by omega) (d - 1) (by omega) rfl (c_X2_follow (by omega) (by omega) (by omega) hT hWT (by omega)) (fun σ_61 h_61 => ?_)
        have K := (h_29.2.keep (Or.inl rfl)).tr ((Keep.set (t := 10) (k := 2) (z := e) (v := (B 13 e + n)) (by decide)).tr h_61.2.keep)
        have hB2 := K.CB (Or.inl rfl) hB
        have hT2 := h_61.2.CB hT
        refine V_aload_0 (pc := 64) dX5_later_64 ?_
        refine V_getc (pc := 65) dX5_later_65 gf_X5_36 (by omega) ?_
        refine V_gets (pc := 68) dX5_later_68 gf_X5_169 (by omega) ?_
        refine V_aload_0 (pc := 71) dX5_later_71 ?_
        refine V_getc (pc := 72) dX5_later_72 gf_X5_23 (by omega) ?_
        refine V_geti (pc := 75) dX5_later_75 gf_X5_175 (by omega) hB2.s1 ?_
        refine V_aald_19 (pc := 78) dX5_later_78 (by omega) (by omega) ?_
        refine V_iload_1 (pc := 79) dX5_later_79 ?_
        refine V_iald (pc := 80) dX5_later_80 sh_22 (by omega) (by omega) (h_61.1.sh (y := B 1 0) (e := e) hys (by exact he)) ?_
        refine V_iretI (pc := 81) dX5_later_81 rfl ?_
        first | exact ⟨_, rfl, by unfold q_later; rw [if_pos (by omega)], Keep.rf⟩ | exact ⟨_, rfl, by unfold q_later; rw [if_neg (by omega)]; rfl, K⟩
      · refine V_bipush (pc := 18) dX5_later_18 (by decide) ?_
        refine V_iretI (pc := 20) dX5_later_20 rfl ?_
        first | exact ⟨_, rfl, by unfold q_later; rw [if_pos (by omega)], Keep.rf⟩ | exact ⟨_, rfl, by unfold q_later; rw [if_neg (by omega)]; rfl, K⟩

set_option maxRecDepth 20000 in
set_option maxHeartbeats 1000000 in
theorem c_X5_other {d : Nat} (hd : 6 ≤ d) {σ : MM} {B : BK} {e n : Int} (hB : CB σ 1 B) (hG : GB B) (he0 : IR e) (hn : IR n) : V yX5_other cX5_other 3 (some .int) d (QI (fun v σ' => v = q_other B e n ∧ Keep σ σ')) 0 [some (vR 0 0), some (vI e), some (vI n)] [] σ := by
  have hW := hG.w
  have hs := hW.s
  have hys : 0 ≤ B 1 0 ∧ B 1 0 ≤ B 1 0 := by omega
  refine V_aload_0 (pc := 0) dX5_other_0 ?_
  refine V_iload_1 (pc := 1) dX5_other_1 ?_
  refine V_callV1p (pc := 2) dX5_other_2 kv_X5_125 rc_0 (by omega) (d - 1) (by omega) rfl (c_X5_noEntry (by omega) hB hs (by omega)) ?_
  refine V_if_ne_b (pc := 5) 16 dX5_other_5 (by decide) (fun c_5 => ?_) (fun c_5 => ?_)
  · refine V_bipush (pc := 16) dX5_other_16 (by decide) ?_
    refine V_iretI (pc := 18) dX5_other_18 rfl ?_
    first | exact ⟨_, rfl, by unfold q_other; rw [if_pos (by omega)], Keep.rf⟩ | exact ⟨_, rfl, by unfold q_other; rw [if_neg (by omega)]; rfl, K⟩
  · refine V_aload_0 (pc := 8) dX5_other_8 ?_
    refine V_iload_2 (pc := 9) dX5_other_9 ?_
    refine V_callV1p (pc := 10) dX5_other_10 kv_X5_106 rc_0 (by omega) (d - 1) (by omega) rfl (c_X5_noInk (by omega) hB hs (by omega)) ?_
    refine V_if_eq_b (pc := 13) 19 dX5_other_13 (by decide) (fun c_13 => ?_) (fun c_13 => ?_)
    · refine V_aload_0 (pc := 19) dX5_other_19 ?_
      refine V_getc (pc := 20) dX5_other_20 gf_X5_26 (by omega) ?_
      refine V_aload_0 (pc := 23) dX5_other_23 ?_
      refine V_getc (pc := 24) dX5_other_24 gf_X5_23 (by omega) ?_
      refine V_callV1z (pc := 27) dX5_other_27 kv_X5_96 rc_3 (by omega) (d - 1) (by omega) rfl (c_X1_copyFrom (by omega) (by omega) (by omega) (by omega) hB hs) (fun σ_27 h_27 => ?_)
      have he : 0 ≤ e ∧ e < B 6 0 := by omega
      have hT := CB_put (k := e) (v := (n)) h_27.1 (Or.inr (Or.inr (Or.inr (Or.inl ⟨rfl, rfl, rfl⟩))))
      have hWT := WB_ik hW (k := e) (v := n) (by omega)
      refine V_aload_0 (pc := 30) dX5_other_30 ?_
      refine V_getc (pc := 31) dX5_other_31 gf_X5_26 (by omega) ?_
      refine V_gets (pc := 34) dX5_other_34 gf_X5_131 (by omega) ?_
      refine V_iload_1 (pc := 37) dX5_other_37 ?_
      refine V_iload_2 (pc := 38) dX5_other_38 ?_
      refine V_iast (pc := 39) dX5_other_39 sh_9 (by omega) (by omega) ?_
      refine V_aload_0 (pc := 40) dX5_other_40 ?_
      refine V_getc (pc := 41) dX5_other_41 gf_X5_36 (by omega) ?_
      refine V_aload_0 (pc := 44) dX5_other_44 ?_
      refine V_getc (pc := 45) dX5_other_45 gf_X5_26 (by omega) ?_
      refine V_iconst (pc := 48) dX5_other_48 ?_
      refine V_callV2z (pc := 49) dX5_other_49 kv_X5_99 rc_18 (by omega) (d - 1) (by omega) rfl (c_X2_follow (by omega) (by omega) (by omega) hT hWT (by omega)) (fun σ_49 h_49 => ?_)
      have K := (h_27.2.keep (Or.inl rfl)).tr ((Keep.set (t := 9) (k := 2) (z := e) (v := (n)) (by decide)).tr h_49.2.keep)
      have hB2 := K.CB (Or.inl rfl) hB
      have hT2 := h_49.2.CB hT
      refine V_aload_0 (pc := 52) dX5_other_52 ?_
      refine V_getc (pc := 53) dX5_other_53 gf_X5_36 (by omega) ?_
      refine V_gets (pc := 56) dX5_other_56 gf_X5_169 (by omega) ?_
      refine V_aload_0 (pc := 59) dX5_other_59 ?_
      refine V_getc (pc := 60) dX5_other_60 gf_X5_23 (by omega) ?_
      refine V_geti (pc := 63) dX5_other_63 gf_X5_175 (by omega) hB2.s1 ?_
      refine V_aald_19 (pc := 66) dX5_other_66 (by omega) (by omega) ?_
      refine V_iload_1 (pc := 67) dX5_other_67 ?_
      refine V_iald (pc := 68) dX5_other_68 sh_22 (by omega) (by omega) (h_49.1.sh (y := B 1 0) (e := e) hys (by exact he)) ?_
      refine V_iretI (pc := 69) dX5_other_69 rfl ?_
      first | exact ⟨_, rfl, by unfold q_other; rw [if_pos (by omega)], Keep.rf⟩ | exact ⟨_, rfl, by unfold q_other; rw [if_neg (by omega)]; rfl, K⟩
    · refine V_bipush (pc := 16) dX5_other_16 (by decide) ?_
      refine V_iretI (pc := 18) dX5_other_18 rfl ?_
      first | exact ⟨_, rfl, by unfold q_other; rw [if_pos (by omega)], Keep.rf⟩ | exact ⟨_, rfl, by unfold q_other; rw [if_neg (by omega)]; rfl, K⟩
