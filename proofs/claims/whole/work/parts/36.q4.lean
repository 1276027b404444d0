set_option maxRecDepth 20000 in
set_option maxHeartbeats 1000000 in
theorem c_X5_unlikeShades {d : Nat} (hd : 1 ≤ d) {σ : MM} {B : BK} {s y : Int} (hB : CB σ 1 B) (hW : WB B) (hC : CK σ 0 B (bt 0)) (hs1 : 0 ≤ s ∧ s ≤ 2147483647) (hy : 0 ≤ y ∧ y ≤ B 1 0) : V yX5_unlikeShades cX5_unlikeShades 9 (some .int) d (QI (fun v σ' => v = SOR (fun e => bt s e = 1) (SHD B (bt 0) y) (B 6 0).toNat ∧ σ' = σ)) 0 [some (vR 0 0), some (vI s), some (vI y), none, none, none, none, none, none] [] σ := by
  have hs := hW.s
  have loop : ∀ i : Nat, i ≤ (B 6 0).toNat → V yX5_unlikeShades cX5_unlikeShades 9 (some .int) d (QI (fun v σ' => v = SOR (fun e => bt s e = 1) (SHD B (bt 0) y) (B 6 0).toNat ∧ σ' = σ)) 8 [some (vR 0 0), some (vI s), some (vI y), some (vL (MET (fun e => bt s e = 1) (SHD B (bt 0) y) i)), none, some (vI (SOR (fun e => bt s e = 1) (SHD B (bt 0) y) i)), some (vI (i : Int)), none, none] [] σ := by
    refine up_ind (P := fun i : Nat => V yX5_unlikeShades cX5_unlikeShades 9 (some .int) d (QI (fun v σ' => v = SOR (fun e => bt s e = 1) (SHD B (bt 0) y) (B 6 0).toNat ∧ σ' = σ)) 8 [some (vR 0 0), some (vI s), some (vI y), some (vL (MET (fun e => bt s e = 1) (SHD B (bt 0) y) i)), none, some (vI (SOR (fun e => bt s e = 1) (SHD B (bt 0) y) i)), some (vI (i : Int)), none, none] [] σ) ?_ ?_
    · 
      refine V_iload_6 (pc := 8) dX5_unlikeShades_8 ?_
      refine V_aload_0 (pc := 10) dX5_unlikeShades_10 ?_
      refine V_getc (pc := 11) dX5_unlikeShades_11 gf_X5_23 (by omega) ?_
      refine V_geti (pc := 14) dX5_unlikeShades_14 gf_X5_159 (by omega) hB.s6 ?_
      refine V_icmp_ge (pc := 17) 68 dX5_unlikeShades_17 (by decide) (by omega) (by omega) (fun c_17 => ?_) (fun c_17 => ?_)
      · refine V_iload_5 (pc := 68) dX5_unlikeShades_68 ?_
        refine V_iretI (pc := 70) dX5_unlikeShades_70 rfl ?_
        exact ⟨_, rfl, by first | rfl | omega, rfl⟩
      · exact absurd c_17 (by omega)
    · intro i hi ih
      have h1 := SHD_in (r := 0) (y := y) hW (e := (i : Int)) (by omega)
      have hg : ∀ k : Int, 0 ≤ k ∧ k < ((i + 1 : Nat) : Int) → 0 ≤ SHD B (bt 0) y k ∧ SHD B (bt 0) y k < 61 := fun k hk => by have := SHD_in (r := 0) (y := y) hW (e := k) (by omega); omega
      have hm := MET_in (p := (fun e => bt s e = 1)) (g := (SHD B (bt 0) y)) (n := i) (fun k hk => hg k (by omega))
      have hf := MET_fst (p := (fun e => bt s e = 1)) (g := (SHD B (bt 0) y)) (n := i) (fun k hk => hg k (by omega))
      have hm61 : p2 (61 : Nat) = 2305843009213693952 := rfl
      have hp := p2_pos (SHD B (bt 0) y i)
      have hp2 := p2_le (a := SHD B (bt 0) y i) (b := 60) (by omega)
      have hp60 : p2 60 = 1152921504606846976 := rfl
      have ha := andB_in (a := (MET (fun e => bt s e = 1) (SHD B (bt 0) y) i)) (b := p2 (SHD B (bt 0) y i)) hm.1
      have hap := andB_p2 (e := SHD B (bt 0) y i) hm.1 h1.1
      have hb01 := bt_01 (MET (fun e => bt s e = 1) (SHD B (bt 0) y) i) (SHD B (bt 0) y i)
      have hz : cmpZ (andB (MET (fun e => bt s e = 1) (SHD B (bt 0) y) i) (p2 (SHD B (bt 0) y i))) 0 = 0 ↔ bt (MET (fun e => bt s e = 1) (SHD B (bt 0) y) i) (SHD B (bt 0) y i) = 0 := by
        rw [hap]
        rcases hb01 with q | q <;> rw [q] <;> unfold cmpZ
        · simp
        · rw [Int.one_mul, if_pos hp]
      have hcz := cmpZ_in (andB (MET (fun e => bt s e = 1) (SHD B (bt 0) y) i) (p2 (SHD B (bt 0) y i))) 0
      have hi7 : (i : Int) < 7 := by omega
      have hsb := suI_in (fun e => (fun e => bt s e = 1) e ∧ fst (fun k => (fun e => bt s e = 1) k ∧ (SHD B (bt 0) y) k = (SHD B (bt 0) y) e) e.toNat 0 = -1) i
      have hsb' : 0 ≤ (SOR (fun e => bt s e = 1) (SHD B (bt 0) y) i) ∧ (SOR (fun e => bt s e = 1) (SHD B (bt 0) y) i) ≤ i := hsb
      have hM : MET (fun e => bt s e = 1) (SHD B (bt 0) y) (i + 1) = if bt s i = 1 ∧ bt (MET (fun e => bt s e = 1) (SHD B (bt 0) y) i) (SHD B (bt 0) y i) = 0 then setB (MET (fun e => bt s e = 1) (SHD B (bt 0) y) i) (SHD B (bt 0) y i) else (MET (fun e => bt s e = 1) (SHD B (bt 0) y) i) := rfl
      have hSo : SOR (fun e => bt s e = 1) (SHD B (bt 0) y) (i + 1) = (SOR (fun e => bt s e = 1) (SHD B (bt 0) y) i) + bI (bt s i = 1 ∧ fst (fun k => (fun e => bt s e = 1) k ∧ (SHD B (bt 0) y) k = (SHD B (bt 0) y) i) ((i : Int)).toNat 0 = -1) := rfl
      rw [bI_cong (b := bt s i = 1 ∧ bt (MET (fun e => bt s e = 1) (SHD B (bt 0) y) i) (SHD B (bt 0) y i) = 0) ⟨fun q => ⟨q.1, hf.mpr q.2⟩, fun q => ⟨q.1, hf.mp q.2⟩⟩] at hSo
      refine V_iload_6 (pc := 8) dX5_unlikeShades_8 ?_
      refine V_aload_0 (pc := 10) dX5_unlikeShades_10 ?_
      refine V_getc (pc := 11) dX5_unlikeShades_11 gf_X5_23 (by omega) ?_
      refine V_geti (pc := 14) dX5_unlikeShades_14 gf_X5_159 (by omega) hB.s6 ?_
      refine V_icmp_ge (pc := 17) 68 dX5_unlikeShades_17 (by decide) (by omega) (by omega) (fun c_17 => ?_) (fun c_17 => ?_)
      · exact absurd c_17 (by omega)
      · refine V_lconst (pc := 20) dX5_unlikeShades_20 (z := 1) rfl ?_
        refine V_aload_0 (pc := 21) dX5_unlikeShades_21 ?_
        refine V_getc (pc := 22) dX5_unlikeShades_22 gf_X5_32 (by omega) ?_
        refine V_gets (pc := 25) dX5_unlikeShades_25 gf_X5_169 (by omega) ?_
        refine V_iload_2 (pc := 28) dX5_unlikeShades_28 ?_
        refine V_aald_19 (pc := 29) dX5_unlikeShades_29 (by omega) (by omega) ?_
        refine V_iload_6 (pc := 30) dX5_unlikeShades_30 ?_
        refine V_iald (pc := 32) dX5_unlikeShades_32 sh_22 (by omega) (by omega) (hC.sh (by omega) (by omega)) ?_
        refine V_lshl (pc := 33) dX5_unlikeShades_33 (bw_lshl (by omega)) ?_
        refine V_lstore_7 (pc := 34) dX5_unlikeShades_34 ?_
        refine V_iload_1 (pc := 36) dX5_unlikeShades_36 ?_
        refine V_iload_6 (pc := 37) dX5_unlikeShades_37 ?_
        refine V_callS2p (pc := 39) dX5_unlikeShades_39 kv_X5_233 (d - 1) (by omega) rfl (c_X5_hasBit (by omega) hs1 (by omega)) ?_
        refine V_if_eq_b (pc := 42) 62 dX5_unlikeShades_42 (by decide) (fun c_42 => ?_) (fun c_42 => ?_)
        · refine V_iinc_6 (pc := 62) dX5_unlikeShades_62 ?_
          refine V_goto (pc := 65) 8 dX5_unlikeShades_65 (by decide) ?_
          refine V.sub (by simp only [subL, Option.some.injEq, Sum.inl.injEq, Sum.inr.injEq, reduceCtorEq, true_or, or_true, false_or, true_and, and_true]; rw [hM, hSo, if_neg (fun q => c_42 q.1), bI_f (fun q => c_42 q.1)]; refine ⟨?_, ?_, ?_⟩ <;> first | rfl | omega) ih
        · refine V_lload_3 (pc := 45) dX5_unlikeShades_45 ?_
          refine V_lload_7 (pc := 46) dX5_unlikeShades_46 ?_
          refine V_land (pc := 48) dX5_unlikeShades_48 (bw_land hm.1 (by omega)) ?_
          refine V_lconst (pc := 49) dX5_unlikeShades_49 (z := 0) rfl ?_
          refine V_lcmp (pc := 50) dX5_unlikeShades_50 (by omega) (by omega) ?_
          refine V_if_ne (pc := 51) 62 dX5_unlikeShades_51 (by decide) (by omega) (fun c_51 => ?_) (fun c_51 => ?_)
          · refine V_iinc_6 (pc := 62) dX5_unlikeShades_62 ?_
            refine V_goto (pc := 65) 8 dX5_unlikeShades_65 (by decide) ?_
            refine V.sub (by simp only [subL, Option.some.injEq, Sum.inl.injEq, Sum.inr.injEq, reduceCtorEq, true_or, or_true, false_or, true_and, and_true]; rw [hM, hSo, if_neg (fun q => c_51 (hz.mpr q.2)), bI_f (fun q => c_51 (hz.mpr q.2))]; refine ⟨?_, ?_, ?_⟩ <;> first | rfl | omega) ih
          · refine V_lload_3 (pc := 54) dX5_unlikeShades_54 ?_
            refine V_lload_7 (pc := 55) dX5_unlikeShades_55 ?_
            refine V_lor (pc := 57) dX5_unlikeShades_57 (bw_lor hm.1 h1.1) ?_
            refine V_lstore_3 (pc := 58) dX5_unlikeShades_58 ?_
            refine V_iinc_5 (pc := 59) dX5_unlikeShades_59 ?_
            refine V_iinc_6 (pc := 62) dX5_unlikeShades_62 ?_
            refine V_goto (pc := 65) 8 dX5_unlikeShades_65 (by decide) ?_
            refine V.sub (by simp only [subL, Option.some.injEq, Sum.inl.injEq, Sum.inr.injEq, reduceCtorEq, true_or, or_true, false_or, true_and, and_true]; rw [hM, hSo, if_pos ⟨c_42, hz.mp c_51⟩, bI_t ⟨c_42, hz.mp c_51⟩]; refine ⟨?_, ?_, ?_⟩ <;> first | rfl | omega) ih
  refine V_lconst (pc := 0) dX5_unlikeShades_0 (z := 0) rfl ?_
  refine V_lstore_3 (pc := 1) dX5_unlikeShades_1 ?_
  refine V_iconst (pc := 2) dX5_unlikeShades_2 ?_
  refine V_istore_5 (pc := 3) dX5_unlikeShades_3 ?_
  refine V_iconst (pc := 5) dX5_unlikeShades_5 ?_
  refine V_istore_6 (pc := 6) dX5_unlikeShades_6 ?_
  exact loop 0 (by omega)

set_option maxRecDepth 20000 in
set_option maxHeartbeats 1000000 in
theorem c_X5_sorts {d : Nat} (hd : 2 ≤ d) {σ : MM} {B : BK} {y : Int} (hB : CB σ 1 B) (hW : WB B) (hC : CK σ 0 B (bt 0)) (hy : IR y) : V yX5_sorts cX5_sorts 2 (some .int) d (QI (fun v σ' => v = q_sorts B y ∧ σ' = σ)) 0 [some (vR 0 0), some (vI y)] [] σ := by
  have hs := hW.s
  have hT := THR_in hs y
  refine V_aload_0 (pc := 0) dX5_sorts_0 ?_
  refine V_iload_1 (pc := 1) dX5_sorts_1 ?_
  refine V_callV1p (pc := 2) dX5_sorts_2 kv_X5_149 rc_0 (by omega) (d - 1) (by omega) rfl (c_X5_noYear (by omega) hB hs (by omega)) ?_
  refine V_if_eq_b (pc := 5) 13 dX5_sorts_5 (by decide) (fun c_5 => ?_) (fun c_5 => ?_)
  · refine V_aload_0 (pc := 13) dX5_sorts_13 ?_
    refine V_aload_0 (pc := 14) dX5_sorts_14 ?_
    refine V_iload_1 (pc := 15) dX5_sorts_15 ?_
    refine V_callV1p (pc := 16) dX5_sorts_16 kv_X5_152 rc_0 (by omega) (d - 1) (by omega) rfl (c_THR (by omega) hB hW (by omega)) ?_
    refine V_iload_1 (pc := 19) dX5_sorts_19 ?_
    refine V_callV2p (pc := 20) dX5_sorts_20 kv_X5_206 rc_0 (by omega) (d - 1) (by omega) rfl (c_X5_unlikeShades (by omega) (s := THR B y) hB hW hC (by omega) (by omega)) ?_
    refine V_iretI (pc := 23) dX5_sorts_23 rfl ?_
    first | exact ⟨_, rfl, by unfold q_sorts; rw [if_pos (by omega)], rfl⟩ | exact ⟨_, rfl, by unfold q_sorts; rw [if_neg (by omega)]; exact SOR_cong (fun x hx => THR_bt (by omega)), rfl⟩
  · refine V_bipush (pc := 8) dX5_sorts_8 (by decide) ?_
    refine V_goto (pc := 10) 23 dX5_sorts_10 (by decide) ?_
    refine V_iretI (pc := 23) dX5_sorts_23 rfl ?_
    first | exact ⟨_, rfl, by unfold q_sorts; rw [if_pos (by omega)], rfl⟩ | exact ⟨_, rfl, by unfold q_sorts; rw [if_neg (by omega)]; exact SOR_cong (fun x hx => THR_bt (by omega)), rfl⟩

set_option maxRecDepth 20000 in
set_option maxHeartbeats 1000000 in
theorem c_X5_worth {d : Nat} (hd : 2 ≤ d) {σ : MM} {B : BK} {s : Int} (hB : CB σ 1 B) (hW : WB B) (hC : CK σ 0 B (bt 0)) (hs : IR s) : V yX5_worth cX5_worth 2 (some .int) d (QI (fun v σ' => v = q_worth B s ∧ σ' = σ)) 0 [some (vR 0 0), some (vI s)] [] σ := by
  have hs := hW.s
  have hT := THR_in hs (B 1 0)
  have hA := andB_in (a := s) (b := THR B (B 1 0))
  have hp7 := p2_le (a := B 6 0) (b := 7) (by omega)
  have hp70 : p2 7 = 128 := rfl
  have hpp := p2_pos (B 6 0)
  refine V_aload_0 (pc := 0) dX5_worth_0 ?_
  refine V_callV0p (pc := 1) dX5_worth_1 kv_X5_155 rc_0 (by omega) (d - 1) (by omega) rfl (c_X5_noBook (by omega) hB hs) ?_
  refine V_if_ne_b (pc := 4) 24 dX5_worth_4 (by decide) (fun c_4 => ?_) (fun c_4 => ?_)
  · refine V_bipush (pc := 24) dX5_worth_24 (by decide) ?_
    refine V_iretI (pc := 26) dX5_worth_26 rfl ?_
    first | exact ⟨_, rfl, by unfold q_worth; rw [if_pos (by omega)], rfl⟩ | exact ⟨_, rfl, by unfold q_worth; rw [if_neg (by omega)]; exact SOR_cong (fun x hx => (bt_andB (by omega) hT.1 hx.1).trans (and_congr_right (fun _ => THR_bt (by omega)))), rfl⟩
  · refine V_iload_1 (pc := 7) dX5_worth_7 ?_
    refine V_if_lt (pc := 8) 24 dX5_worth_8 (by decide) (by omega) (fun c_8 => ?_) (fun c_8 => ?_)
    · refine V_bipush (pc := 24) dX5_worth_24 (by decide) ?_
      refine V_iretI (pc := 26) dX5_worth_26 rfl ?_
      first | exact ⟨_, rfl, by unfold q_worth; rw [if_pos (by omega)], rfl⟩ | exact ⟨_, rfl, by unfold q_worth; rw [if_neg (by omega)]; exact SOR_cong (fun x hx => (bt_andB (by omega) hT.1 hx.1).trans (and_congr_right (fun _ => THR_bt (by omega)))), rfl⟩
    · refine V_iload_1 (pc := 11) dX5_worth_11 ?_
      refine V_iconst (pc := 12) dX5_worth_12 ?_
      refine V_aload_0 (pc := 13) dX5_worth_13 ?_
      refine V_getc (pc := 14) dX5_worth_14 gf_X5_23 (by omega) ?_
      refine V_geti (pc := 17) dX5_worth_17 gf_X5_159 (by omega) hB.s6 ?_
      refine V_ishl_1 (pc := 20) dX5_worth_20 (by omega) ?_
      refine V_icmp_lt (pc := 21) 27 dX5_worth_21 (by decide) (by omega) (by omega) (fun c_21 => ?_) (fun c_21 => ?_)
      · refine V_aload_0 (pc := 27) dX5_worth_27 ?_
        refine V_iload_1 (pc := 28) dX5_worth_28 ?_
        refine V_aload_0 (pc := 29) dX5_worth_29 ?_
        refine V_aload_0 (pc := 30) dX5_worth_30 ?_
        refine V_getc (pc := 31) dX5_worth_31 gf_X5_23 (by omega) ?_
        refine V_geti (pc := 34) dX5_worth_34 gf_X5_175 (by omega) hB.s1 ?_
        refine V_callV1p (pc := 37) dX5_worth_37 kv_X5_152 rc_0 (by omega) (d - 1) (by omega) rfl (c_THR (by omega) hB hW (by omega)) ?_
        refine V_iand (pc := 40) dX5_worth_40 (bw_andB (by omega) hT.1) ?_
        refine V_aload_0 (pc := 41) dX5_worth_41 ?_
        refine V_getc (pc := 42) dX5_worth_42 gf_X5_23 (by omega) ?_
        refine V_geti (pc := 45) dX5_worth_45 gf_X5_175 (by omega) hB.s1 ?_
        refine V_callV2p (pc := 48) dX5_worth_48 kv_X5_206 rc_0 (by omega) (d - 1) (by omega) rfl (c_X5_unlikeShades (by omega) (s := andB s (THR B (B 1 0))) hB hW hC (by omega) (by omega)) ?_
        refine V_iretI (pc := 51) dX5_worth_51 rfl ?_
        first | exact ⟨_, rfl, by unfold q_worth; rw [if_pos (by omega)], rfl⟩ | exact ⟨_, rfl, by unfold q_worth; rw [if_neg (by omega)]; exact SOR_cong (fun x hx => (bt_andB (by omega) hT.1 hx.1).trans (and_congr_right (fun _ => THR_bt (by omega)))), rfl⟩
      · refine V_bipush (pc := 24) dX5_worth_24 (by decide) ?_
        refine V_iretI (pc := 26) dX5_worth_26 rfl ?_
        first | exact ⟨_, rfl, by unfold q_worth; rw [if_pos (by omega)], rfl⟩ | exact ⟨_, rfl, by unfold q_worth; rw [if_neg (by omega)]; exact SOR_cong (fun x hx => (bt_andB (by omega) hT.1 hx.1).trans (and_congr_right (fun _ => THR_bt (by omega)))), rfl⟩

set_option maxRecDepth 20000 in
set_option maxHeartbeats 1000000 in
theorem c_X5_spread {d : Nat} (hd : 2 ≤ d) {σ : MM} {B : BK} {y : Int} (hB : CB σ 1 B) (hW : WB B) (hC : CK σ 0 B (bt 0)) (hy : IR y) : V yX5_spread cX5_spread 4 (some .int) d (QI (fun v σ' => v = q_spread B y ∧ σ' = σ)) 0 [some (vR 0 0), some (vI y), none, none] [] σ := by
  have hs := hW.s
  have hT := THR_in hs y
  have hD := DRK_in B y
  have hP := PAL_in B y
  have hD2 : DRK B y ≠ -1 → _ := fun q => SHD_in (r := 0) (y := y) hW (e := DRK B y) (by omega)
  have hP2 : PAL B y ≠ -1 → _ := fun q => SHD_in (r := 0) (y := y) hW (e := PAL B y) (by omega)
  refine V_aload_0 (pc := 0) dX5_spread_0 ?_
  refine V_iload_1 (pc := 1) dX5_spread_1 ?_
  refine V_callV1p (pc := 2) dX5_spread_2 kv_X5_149 rc_0 (by omega) (d - 1) (by omega) rfl (c_X5_noYear (by omega) hB hs (by omega)) ?_
  refine V_if_eq_b (pc := 5) 11 dX5_spread_5 (by decide) (fun c_5 => ?_) (fun c_5 => ?_)
  · refine V_aload_0 (pc := 11) dX5_spread_11 ?_
    refine V_aload_0 (pc := 12) dX5_spread_12 ?_
    refine V_iload_1 (pc := 13) dX5_spread_13 ?_
    refine V_callV1p (pc := 14) dX5_spread_14 kv_X5_152 rc_0 (by omega) (d - 1) (by omega) rfl (c_THR (by omega) hB hW (by omega)) ?_
    refine V_iload_1 (pc := 17) dX5_spread_17 ?_
    refine V_callV2p (pc := 18) dX5_spread_18 kv_X5_200 rc_0 (by omega) (d - 1) (by omega) rfl (c_DRK (by omega) hB hW hC (by omega)) ?_
    refine V_istore_2 (pc := 21) dX5_spread_21 ?_
    refine V_aload_0 (pc := 22) dX5_spread_22 ?_
    refine V_aload_0 (pc := 23) dX5_spread_23 ?_
    refine V_iload_1 (pc := 24) dX5_spread_24 ?_
    refine V_callV1p (pc := 25) dX5_spread_25 kv_X5_152 rc_0 (by omega) (d - 1) (by omega) rfl (c_THR (by omega) hB hW (by omega)) ?_
    refine V_iload_1 (pc := 28) dX5_spread_28 ?_
    refine V_callV2p (pc := 29) dX5_spread_29 kv_X5_203 rc_0 (by omega) (d - 1) (by omega) rfl (c_PAL (by omega) hB hW hC (by omega)) ?_
    refine V_istore_3 (pc := 32) dX5_spread_32 ?_
    refine V_iload_2 (pc := 33) dX5_spread_33 ?_
    refine V_iconst (pc := 34) dX5_spread_34 ?_
    refine V_icmp_eq (pc := 35) 43 dX5_spread_35 (by decide) (by omega) (by omega) (fun c_35 => ?_) (fun c_35 => ?_)
    · refine V_iconst (pc := 43) dX5_spread_43 ?_
      refine V_goto (pc := 44) 70 dX5_spread_44 (by decide) ?_
      refine V_iretI (pc := 70) dX5_spread_70 rfl ?_
      exact ⟨_, rfl, by unfold q_spread; (repeat' split) <;> first | rfl | omega, rfl⟩
    · refine V_iload_3 (pc := 38) dX5_spread_38 ?_
      refine V_iconst (pc := 39) dX5_spread_39 ?_
      refine V_icmp_ne (pc := 40) 47 dX5_spread_40 (by decide) (by omega) (by omega) (fun c_40 => ?_) (fun c_40 => ?_)
      · refine V_aload_0 (pc := 47) dX5_spread_47 ?_
        refine V_getc (pc := 48) dX5_spread_48 gf_X5_32 (by omega) ?_
        refine V_gets (pc := 51) dX5_spread_51 gf_X5_169 (by omega) ?_
        refine V_iload_1 (pc := 54) dX5_spread_54 ?_
        refine V_aald_19 (pc := 55) dX5_spread_55 (by omega) (by omega) ?_
        refine V_iload_2 (pc := 56) dX5_spread_56 ?_
        refine V_iald (pc := 57) dX5_spread_57 sh_22 (by omega) (by omega) (hC.sh (by omega) (by omega)) ?_
        refine V_aload_0 (pc := 58) dX5_spread_58 ?_
        refine V_getc (pc := 59) dX5_spread_59 gf_X5_32 (by omega) ?_
        refine V_gets (pc := 62) dX5_spread_62 gf_X5_169 (by omega) ?_
        refine V_iload_1 (pc := 65) dX5_spread_65 ?_
        refine V_aald_19 (pc := 66) dX5_spread_66 (by omega) (by omega) ?_
        refine V_iload_3 (pc := 67) dX5_spread_67 ?_
        refine V_iald (pc := 68) dX5_spread_68 sh_22 (by omega) (by omega) (hC.sh (by omega) (by omega)) ?_
        refine V_isub (pc := 69) dX5_spread_69 ?_
        refine V_iretI (pc := 70) dX5_spread_70 rfl ?_
        exact ⟨_, rfl, by unfold q_spread; (repeat' split) <;> first | rfl | omega, rfl⟩
      · refine V_iconst (pc := 43) dX5_spread_43 ?_
        refine V_goto (pc := 44) 70 dX5_spread_44 (by decide) ?_
        refine V_iretI (pc := 70) dX5_spread_70 rfl ?_
        exact ⟨_, rfl, by unfold q_spread; (repeat' split) <;> first | rfl | omega, rfl⟩
  · refine V_bipush (pc := 8) dX5_spread_8 (by decide) ?_
    refine V_iretI (pc := 10) dX5_spread_10 rfl ?_
    exact ⟨_, rfl, by unfold q_spread; (repeat' split) <;> first | rfl | omega, rfl⟩

set_option maxRecDepth 20000 in
set_option maxHeartbeats 1000000 in
theorem c_X5_bold {d : Nat} (hd : 2 ≤ d) {σ : MM} {B : BK} {p y : Int} (hB : CB σ 1 B) (hW : WB B) (hC : CK σ 0 B (bt 0)) (hp : IR p) (hy : IR y) : V yX5_bold cX5_bold 3 (some .int) d (QI (fun v σ' => v = q_bold B p y ∧ σ' = σ)) 0 [some (vR 0 0), some (vI p), some (vI y)] [] σ := by
  have hs := hW.s
  have hT := THR_in hs y
  have hO := ONP_in hs p
  have hA := andB_in (a := THR B y) (b := ONP B p) hT.1
  refine V_aload_0 (pc := 0) dX5_bold_0 ?_
  refine V_iload_1 (pc := 1) dX5_bold_1 ?_
  refine V_callV1p (pc := 2) dX5_bold_2 kv_X5_119 rc_0 (by omega) (d - 1) (by omega) rfl (c_X5_noPage (by omega) hB hs (by omega)) ?_
  refine V_if_ne_b (pc := 5) 16 dX5_bold_5 (by decide) (fun c_5 => ?_) (fun c_5 => ?_)
  · refine V_bipush (pc := 16) dX5_bold_16 (by decide) ?_
    refine V_goto (pc := 18) 37 dX5_bold_18 (by decide) ?_
    refine V_iretI (pc := 37) dX5_bold_37 rfl ?_
    first | exact ⟨_, rfl, by unfold q_bold; rw [if_pos (by omega)], rfl⟩ | exact ⟨_, rfl, by unfold q_bold; rw [if_neg (by omega)]; exact bst_cong (fun x hx => ⟨(bt_andB hT.1 hO.1 hx.1).trans (and_congr (THR_bt (by omega)) (ONP_bt (by omega))), rfl⟩), rfl⟩
  · refine V_aload_0 (pc := 8) dX5_bold_8 ?_
    refine V_iload_2 (pc := 9) dX5_bold_9 ?_
    refine V_callV1p (pc := 10) dX5_bold_10 kv_X5_149 rc_0 (by omega) (d - 1) (by omega) rfl (c_X5_noYear (by omega) hB hs (by omega)) ?_
    refine V_if_eq_b (pc := 13) 21 dX5_bold_13 (by decide) (fun c_13 => ?_) (fun c_13 => ?_)
    · refine V_aload_0 (pc := 21) dX5_bold_21 ?_
      refine V_aload_0 (pc := 22) dX5_bold_22 ?_
      refine V_iload_2 (pc := 23) dX5_bold_23 ?_
      refine V_callV1p (pc := 24) dX5_bold_24 kv_X5_152 rc_0 (by omega) (d - 1) (by omega) rfl (c_THR (by omega) hB hW (by omega)) ?_
      refine V_aload_0 (pc := 27) dX5_bold_27 ?_
      refine V_iload_1 (pc := 28) dX5_bold_28 ?_
      refine V_callV1p (pc := 29) dX5_bold_29 kv_X5_142 rc_0 (by omega) (d - 1) (by omega) rfl (c_ONP (by omega) hB hW (by omega)) ?_
      refine V_iand (pc := 32) dX5_bold_32 (bw_andB hT.1 hO.1) ?_
      refine V_iload_2 (pc := 33) dX5_bold_33 ?_
      refine V_callV2p (pc := 34) dX5_bold_34 kv_X5_200 rc_0 (by omega) (d - 1) (by omega) rfl (c_X5_darkestOf (by omega) (s := andB (THR B y) (ONP B p)) hB hW hC (by omega) (by omega)) ?_
      refine V_iretI (pc := 37) dX5_bold_37 rfl ?_
      first | exact ⟨_, rfl, by unfold q_bold; rw [if_pos (by omega)], rfl⟩ | exact ⟨_, rfl, by unfold q_bold; rw [if_neg (by omega)]; exact bst_cong (fun x hx => ⟨(bt_andB hT.1 hO.1 hx.1).trans (and_congr (THR_bt (by omega)) (ONP_bt (by omega))), rfl⟩), rfl⟩
    · refine V_bipush (pc := 16) dX5_bold_16 (by decide) ?_
      refine V_goto (pc := 18) 37 dX5_bold_18 (by decide) ?_
      refine V_iretI (pc := 37) dX5_bold_37 rfl ?_
      first | exact ⟨_, rfl, by unfold q_bold; rw [if_pos (by omega)], rfl⟩ | exact ⟨_, rfl, by unfold q_bold; rw [if_neg (by omega)]; exact bst_cong (fun x hx => ⟨(bt_andB hT.1 hO.1 hx.1).trans (and_congr (THR_bt (by omega)) (ONP_bt (by omega))), rfl⟩), rfl⟩

set_option maxRecDepth 20000 in
set_option maxHeartbeats 1000000 in
theorem c_X5_share {d : Nat} (hd : 2 ≤ d) {σ : MM} {B : BK} {e w : Int} (hB : CB σ 1 B) (hW : WB B) (hC : CK σ 0 B (bt 0)) (he : IR e) (hw : IR w) : V yX5_share cX5_share 5 (some .int) d (QI (fun v σ' => v = q_share B e w ∧ σ' = σ)) 0 [some (vR 0 0), some (vI e), some (vI w), none, none] [] σ := by
  have hs := hW.s
  have loop : (¬ ((e < 0 ∨ B 6 0 ≤ e) ∨ (¬ w = 0 ∧ ¬ w = 1))) → ∀ i : Nat, i ≤ (B 6 0).toNat → V yX5_share cX5_share 5 (some .int) d (QI (fun v σ' => v = q_share B e w ∧ σ' = σ)) 24 [some (vR 0 0), some (vI (e)), some (vI (w)), some (vI (sumN (fun o => bI ((B 13 e ≤ B 1 0 ∧ B 13 o ≤ B 1 0) ∧ SHD B (bt 0) (B 1 0) e = SHD B (bt 0) (B 1 0) o)) i)), some (vI (i : Int))] [] σ := by
    intro hR
    refine up_ind (P := fun i : Nat => V yX5_share cX5_share 5 (some .int) d (QI (fun v σ' => v = q_share B e w ∧ σ' = σ)) 24 [some (vR 0 0), some (vI (e)), some (vI (w)), some (vI (sumN (fun o => bI ((B 13 e ≤ B 1 0 ∧ B 13 o ≤ B 1 0) ∧ SHD B (bt 0) (B 1 0) e = SHD B (bt 0) (B 1 0) o)) i)), some (vI (i : Int))] [] σ) ?_ ?_
    · 
      have hb := suI_in (fun o => (B 13 e ≤ B 1 0 ∧ B 13 o ≤ B 1 0) ∧ SHD B (bt 0) (B 1 0) e = SHD B (bt 0) (B 1 0) o) (B 6 0).toNat
      refine V_iload_4 (pc := 24) dX5_share_24 ?_
      refine V_aload_0 (pc := 26) dX5_share_26 ?_
      refine V_getc (pc := 27) dX5_share_27 gf_X5_23 (by omega) ?_
      refine V_geti (pc := 30) dX5_share_30 gf_X5_159 (by omega) hB.s6 ?_
      refine V_icmp_ge (pc := 33) 79 dX5_share_33 (by decide) (by omega) (by omega) (fun c_33 => ?_) (fun c_33 => ?_)
      · refine V_iload_2 (pc := 79) dX5_share_79 ?_
        refine V_if_ne (pc := 80) 93 dX5_share_80 (by decide) (by omega) (fun c_80 => ?_) (fun c_80 => ?_)
        · refine V_iload_3 (pc := 93) dX5_share_93 ?_
          refine V_iconst (pc := 94) dX5_share_94 ?_
          refine V_mmax (pc := 95) dX5_share_95 mth_max_X5_178 (by omega) (by omega) (by omega) ?_
          refine V_iretI (pc := 98) dX5_share_98 rfl ?_
          exact ⟨_, rfl, by unfold q_share LIK; (repeat' split) <;> first | rfl | omega, rfl⟩
        · refine V_iload_3 (pc := 83) dX5_share_83 ?_
          refine V_if_ne (pc := 84) 91 dX5_share_84 (by decide) (by omega) (fun c_84 => ?_) (fun c_84 => ?_)
          · refine V_iconst (pc := 91) dX5_share_91 ?_
            refine V_iretI (pc := 92) dX5_share_92 rfl ?_
            exact ⟨_, rfl, by unfold q_share LIK; (repeat' split) <;> first | rfl | omega, rfl⟩
          · refine V_iconst (pc := 87) dX5_share_87 ?_
            refine V_goto (pc := 88) 92 dX5_share_88 (by decide) ?_
            refine V_iretI (pc := 92) dX5_share_92 rfl ?_
            exact ⟨_, rfl, by unfold q_share LIK; (repeat' split) <;> first | rfl | omega, rfl⟩
      · exact absurd c_33 (by omega)
    · intro i hi ih
      have c1 := cmpI_in (SHD B (bt 0) (B 1 0) e) (SHD B (bt 0) (B 1 0) i)
      have hb := suI_in (fun o => (B 13 e ≤ B 1 0 ∧ B 13 o ≤ B 1 0) ∧ SHD B (bt 0) (B 1 0) e = SHD B (bt 0) (B 1 0) o) i
      have hS := sumN_S (fun o => bI ((B 13 e ≤ B 1 0 ∧ B 13 o ≤ B 1 0) ∧ SHD B (bt 0) (B 1 0) e = SHD B (bt 0) (B 1 0) o)) i
      refine V_iload_4 (pc := 24) dX5_share_24 ?_
      refine V_aload_0 (pc := 26) dX5_share_26 ?_
      refine V_getc (pc := 27) dX5_share_27 gf_X5_23 (by omega) ?_
      refine V_geti (pc := 30) dX5_share_30 gf_X5_159 (by omega) hB.s6 ?_
      refine V_icmp_ge (pc := 33) 79 dX5_share_33 (by decide) (by omega) (by omega) (fun c_33 => ?_) (fun c_33 => ?_)
      · exact absurd c_33 (by omega)
      · refine V_aload_0 (pc := 36) dX5_share_36 ?_
        refine V_iload_1 (pc := 37) dX5_share_37 ?_
        refine V_iload_4 (pc := 38) dX5_share_38 ?_
        refine V_aload_0 (pc := 40) dX5_share_40 ?_
        refine V_getc (pc := 41) dX5_share_41 gf_X5_23 (by omega) ?_
        refine V_geti (pc := 44) dX5_share_44 gf_X5_175 (by omega) hB.s1 ?_
        refine V_callV3p (pc := 47) dX5_share_47 kv_X5_184 rc_0 (by omega) (d - 1) (by omega) rfl (c_X5_bothThere (by omega) hB hW (by omega) (by omega) (by omega)) ?_
        refine V_if_eq_b (pc := 50) 73 dX5_share_50 (by decide) (fun c_50 => ?_) (fun c_50 => ?_)
        · refine V_iinc_4 (pc := 73) dX5_share_73 ?_
          refine V_goto (pc := 76) 24 dX5_share_76 (by decide) ?_
          refine V.sub (by simp only [subL, Option.some.injEq, Sum.inl.injEq, Sum.inr.injEq, reduceCtorEq, true_or, or_true, false_or, true_and, and_true]; first | omega | (rw [hS, bI_t (by omega)]; omega) | (rw [hS, bI_f (by omega)]; omega)) ih
        · refine V_aload_0 (pc := 53) dX5_share_53 ?_
          refine V_iload_1 (pc := 54) dX5_share_54 ?_
          refine V_iload_4 (pc := 55) dX5_share_55 ?_
          refine V_aload_0 (pc := 57) dX5_share_57 ?_
          refine V_getc (pc := 58) dX5_share_58 gf_X5_23 (by omega) ?_
          refine V_geti (pc := 61) dX5_share_61 gf_X5_175 (by omega) hB.s1 ?_
          refine V_callV3p (pc := 64) dX5_share_64 kv_X5_188 rc_0 (by omega) (d - 1) (by omega) rfl (c_X5_compared (by omega) hB hW hC (by omega) (by omega) (by omega)) ?_
          refine V_if_ne (pc := 67) 73 dX5_share_67 (by decide) (by omega) (fun c_67 => ?_) (fun c_67 => ?_)
          · refine V_iinc_4 (pc := 73) dX5_share_73 ?_
            refine V_goto (pc := 76) 24 dX5_share_76 (by decide) ?_
            refine V.sub (by simp only [subL, Option.some.injEq, Sum.inl.injEq, Sum.inr.injEq, reduceCtorEq, true_or, or_true, false_or, true_and, and_true]; first | omega | (rw [hS, bI_t (by omega)]; omega) | (rw [hS, bI_f (by omega)]; omega)) ih
          · refine V_iinc_3 (pc := 70) dX5_share_70 ?_
            refine V_iinc_4 (pc := 73) dX5_share_73 ?_
            refine V_goto (pc := 76) 24 dX5_share_76 (by decide) ?_
            refine V.sub (by simp only [subL, Option.some.injEq, Sum.inl.injEq, Sum.inr.injEq, reduceCtorEq, true_or, or_true, false_or, true_and, and_true]; first | omega | (rw [hS, bI_t (by omega)]; omega) | (rw [hS, bI_f (by omega)]; omega)) ih
  refine V_aload_0 (pc := 0) dX5_share_0 ?_
  refine V_iload_1 (pc := 1) dX5_share_1 ?_
  refine V_callV1p (pc := 2) dX5_share_2 kv_X5_125 rc_0 (by omega) (d - 1) (by omega) rfl (c_X5_noEntry (by omega) hB hs (by omega)) ?_
  refine V_if_ne_b (pc := 5) 16 dX5_share_5 (by decide) (fun c_5 => ?_) (fun c_5 => ?_)
  · refine V_bipush (pc := 16) dX5_share_16 (by decide) ?_
    refine V_iretI (pc := 18) dX5_share_18 rfl ?_
    exact ⟨_, rfl, by unfold q_share LIK; (repeat' split) <;> first | rfl | omega, rfl⟩
  · refine V_aload_0 (pc := 8) dX5_share_8 ?_
    refine V_iload_2 (pc := 9) dX5_share_9 ?_
    refine V_callV1p (pc := 10) dX5_share_10 kv_X5_268 rc_0 (by omega) (d - 1) (by omega) rfl (c_X5_noPart (by omega) (by omega)) ?_
    refine V_if_eq_b (pc := 13) 19 dX5_share_13 (by decide) (fun c_13 => ?_) (fun c_13 => ?_)
    · refine V_iconst (pc := 19) dX5_share_19 ?_
      refine V_istore_3 (pc := 20) dX5_share_20 ?_
      refine V_iconst (pc := 21) dX5_share_21 ?_
      refine V_istore_4 (pc := 22) dX5_share_22 ?_
      exact loop (by omega) 0 (by omega)
    · refine V_bipush (pc := 16) dX5_share_16 (by decide) ?_
      refine V_iretI (pc := 18) dX5_share_18 rfl ?_
      exact ⟨_, rfl, by unfold q_share LIK; (repeat' split) <;> first | rfl | omega, rfl⟩

set_option maxRecDepth 20000 in
set_option maxHeartbeats 1000000 in
theorem c_X5_alike {d : Nat} (hd : 2 ≤ d) {σ : MM} {B : BK} {y : Int} (hB : CB σ 1 B) (hW : WB B) (hC : CK σ 0 B (bt 0)) (hy : IR y) : V yX5_alike cX5_alike 5 (some .int) d (QI (fun v σ' => v = q_alike B y ∧ σ' = σ)) 0 [some (vR 0 0), some (vI y), none, none, none] [] σ := by
  have hs := hW.s
  have loop : (¬ (B 0 0 = 0 ∨ y < 0 ∨ B 1 0 < y)) → ∀ i : Nat, i ≤ (B 6 0).toNat → V yX5_alike cX5_alike 5 (some .int) d (QI (fun v σ' => v = q_alike B y ∧ σ' = σ)) 15 [some (vR 0 0), some (vI y), some (vI (sumN (fun a => sumN (fun k => ALK B y a (a + 1 + k)) (B 6 0 - 1 - a).toNat) i)), some (vI (i : Int)), none] [] σ := by
    intro hR
    refine up_ind (P := fun i : Nat => V yX5_alike cX5_alike 5 (some .int) d (QI (fun v σ' => v = q_alike B y ∧ σ' = σ)) 15 [some (vR 0 0), some (vI y), some (vI (sumN (fun a => sumN (fun k => ALK B y a (a + 1 + k)) (B 6 0 - 1 - a).toNat) i)), some (vI (i : Int)), none] [] σ) ?_ ?_
    ·
      refine V_iload_3 (pc := 15) dX5_alike_15 ?_
      refine V_aload_0 (pc := 16) dX5_alike_16 ?_
      refine V_getc (pc := 17) dX5_alike_17 gf_X5_23 (by omega) ?_
      refine V_geti (pc := 20) dX5_alike_20 gf_X5_159 (by omega) hB.s6 ?_
      refine V_icmp_ge (pc := 23) 80 dX5_alike_23 (by decide) (by omega) (by omega) (fun c_23 => ?_) (fun c_23 => ?_)
      · refine V_iload_2 (pc := 80) dX5_alike_80 ?_
        refine V_iretI (pc := 81) dX5_alike_81 rfl ?_
        exact ⟨_, rfl, by unfold q_alike; (repeat' split) <;> first | rfl | omega, rfl⟩
      · exact absurd c_23 (by omega)
    · intro i hi ih
      have loop2 : ∀ j : Nat, j ≤ (B 6 0 - 1 - i).toNat → V yX5_alike cX5_alike 5 (some .int) d (QI (fun v σ' => v = q_alike B y ∧ σ' = σ)) 31 [some (vR 0 0), some (vI y), some (vI (sumN (fun a => sumN (fun k => ALK B y a (a + 1 + k)) (B 6 0 - 1 - a).toNat) i + sumN (fun k => ALK B y i ((i : Int) + 1 + k)) j)), some (vI (i : Int)), some (vI ((i : Int) + 1 + (j : Int)))] [] σ := by
        refine up_ind (P := fun j : Nat => V yX5_alike cX5_alike 5 (some .int) d (QI (fun v σ' => v = q_alike B y ∧ σ' = σ)) 31 [some (vR 0 0), some (vI y), some (vI (sumN (fun a => sumN (fun k => ALK B y a (a + 1 + k)) (B 6 0 - 1 - a).toNat) i + sumN (fun k => ALK B y i ((i : Int) + 1 + k)) j)), some (vI (i : Int)), some (vI ((i : Int) + 1 + (j : Int)))] [] σ) ?_ ?_
        ·
          refine V_iload_4 (pc := 31) dX5_alike_31 ?_
          refine V_aload_0 (pc := 33) dX5_alike_33 ?_
          refine V_getc (pc := 34) dX5_alike_34 gf_X5_23 (by omega) ?_
          refine V_geti (pc := 37) dX5_alike_37 gf_X5_159 (by omega) hB.s6 ?_
          refine V_icmp_ge (pc := 40) 74 dX5_alike_40 (by decide) (by omega) (by omega) (fun c_40 => ?_) (fun c_40 => ?_)
          · refine V_iinc_3 (pc := 74) dX5_alike_74 ?_
            refine V_goto (pc := 77) 15 dX5_alike_77 (by decide) ?_
            refine V.sub (by simp only [subL, Option.some.injEq, Sum.inl.injEq, Sum.inr.injEq, reduceCtorEq, true_or, or_true, false_or, true_and, and_true]; refine ⟨?_, by omega⟩; rfl) ih
          · exact absurd c_40 (by omega)
        · intro j hj ih2
          have c1 := cmpI_in (SHD B (bt 0) y i) (SHD B (bt 0) y ((i : Int) + 1 + j))
          have hS : sumN (fun k => ALK B y i ((i : Int) + 1 + k)) (j + 1) = sumN (fun k => ALK B y i ((i : Int) + 1 + k)) j + ALK B y i ((i : Int) + 1 + j) := rfl
          have hA : ALK B y i ((i : Int) + 1 + j) = bI ((B 13 i ≤ y ∧ B 13 ((i : Int) + 1 + j) ≤ y) ∧ SHD B (bt 0) y i = SHD B (bt 0) y ((i : Int) + 1 + j)) := rfl
          refine V_iload_4 (pc := 31) dX5_alike_31 ?_
          refine V_aload_0 (pc := 33) dX5_alike_33 ?_
          refine V_getc (pc := 34) dX5_alike_34 gf_X5_23 (by omega) ?_
          refine V_geti (pc := 37) dX5_alike_37 gf_X5_159 (by omega) hB.s6 ?_
          refine V_icmp_ge (pc := 40) 74 dX5_alike_40 (by decide) (by omega) (by omega) (fun c_40 => ?_) (fun c_40 => ?_)
          · exact absurd c_40 (by omega)
          · refine V_aload_0 (pc := 43) dX5_alike_43 ?_
            refine V_iload_3 (pc := 44) dX5_alike_44 ?_
            refine V_iload_4 (pc := 45) dX5_alike_45 ?_
            refine V_iload_1 (pc := 47) dX5_alike_47 ?_
            refine V_callV3p (pc := 48) dX5_alike_48 kv_X5_184 rc_0 (by omega) (d - 1) (by omega) rfl (c_X5_bothThere (by omega) hB hW (by omega) (by omega) (by omega)) ?_
            refine V_if_eq_b (pc := 51) 68 dX5_alike_51 (by decide) (fun c_51 => ?_) (fun c_51 => ?_)
            · refine V_iinc_4 (pc := 68) dX5_alike_68 ?_
              refine V_goto (pc := 71) 31 dX5_alike_71 (by decide) ?_
              refine V.sub (by simp only [subL, Option.some.injEq, Sum.inl.injEq, Sum.inr.injEq, reduceCtorEq, true_or, or_true, false_or, true_and, and_true]; first | (rw [hS, hA, bI_t (by omega)]; omega) | (rw [hS, hA, bI_f (by omega)]; omega)) ih2
            · refine V_aload_0 (pc := 54) dX5_alike_54 ?_
              refine V_iload_3 (pc := 55) dX5_alike_55 ?_
              refine V_iload_4 (pc := 56) dX5_alike_56 ?_
              refine V_iload_1 (pc := 58) dX5_alike_58 ?_
              refine V_callV3p (pc := 59) dX5_alike_59 kv_X5_188 rc_0 (by omega) (d - 1) (by omega) rfl (c_X5_compared (by omega) hB hW hC (by omega) (by omega) (by omega)) ?_
              refine V_if_ne (pc := 62) 68 dX5_alike_62 (by decide) (by omega) (fun c_62 => ?_) (fun c_62 => ?_)
              · refine V_iinc_4 (pc := 68) dX5_alike_68 ?_
                refine V_goto (pc := 71) 31 dX5_alike_71 (by decide) ?_
                refine V.sub (by simp only [subL, Option.some.injEq, Sum.inl.injEq, Sum.inr.injEq, reduceCtorEq, true_or, or_true, false_or, true_and, and_true]; first | (rw [hS, hA, bI_t (by omega)]; omega) | (rw [hS, hA, bI_f (by omega)]; omega)) ih2
              · refine V_iinc_2 (pc := 65) dX5_alike_65 ?_
                refine V_iinc_4 (pc := 68) dX5_alike_68 ?_
                refine V_goto (pc := 71) 31 dX5_alike_71 (by decide) ?_
                refine V.sub (by simp only [subL, Option.some.injEq, Sum.inl.injEq, Sum.inr.injEq, reduceCtorEq, true_or, or_true, false_or, true_and, and_true]; first | (rw [hS, hA, bI_t (by omega)]; omega) | (rw [hS, hA, bI_f (by omega)]; omega)) ih2
      refine V_iload_3 (pc := 15) dX5_alike_15 ?_
      refine V_aload_0 (pc := 16) dX5_alike_16 ?_
      refine V_getc (pc := 17) dX5_alike_17 gf_X5_23 (by omega) ?_
      refine V_geti (pc := 20) dX5_alike_20 gf_X5_159 (by omega) hB.s6 ?_
      refine V_icmp_ge (pc := 23) 80 dX5_alike_23 (by decide) (by omega) (by omega) (fun c_23 => ?_) (fun c_23 => ?_)
      · exact absurd c_23 (by omega)
      · refine V_iload_3 (pc := 26) dX5_alike_26 ?_
        refine V_iconst (pc := 27) dX5_alike_27 ?_
        refine V_iadd (pc := 28) dX5_alike_28 ?_
        refine V_istore_4 (pc := 29) dX5_alike_29 ?_
        refine V.sub (by simp only [subL, Option.some.injEq, Sum.inl.injEq, reduceCtorEq, true_or, or_true, false_or, true_and, and_true]; exact ⟨Int.add_zero _, by omega⟩) (loop2 0 (by omega))
  refine V_aload_0 (pc := 0) dX5_alike_0 ?_
  refine V_iload_1 (pc := 1) dX5_alike_1 ?_
  refine V_callV1p (pc := 2) dX5_alike_2 kv_X5_149 rc_0 (by omega) (d - 1) (by omega) rfl (c_X5_noYear (by omega) hB hs (by omega)) ?_
  refine V_if_eq_b (pc := 5) 11 dX5_alike_5 (by decide) (fun c_5 => ?_) (fun c_5 => ?_)
  · refine V_iconst (pc := 11) dX5_alike_11 ?_
    refine V_istore_2 (pc := 12) dX5_alike_12 ?_
    refine V_iconst (pc := 13) dX5_alike_13 ?_
    refine V_istore_3 (pc := 14) dX5_alike_14 ?_
    exact loop (by omega) 0 (by omega)
  · refine V_bipush (pc := 8) dX5_alike_8 (by decide) ?_
    refine V_iretI (pc := 10) dX5_alike_10 rfl ?_
    exact ⟨_, rfl, by unfold q_alike; (repeat' split) <;> first | rfl | omega, rfl⟩
