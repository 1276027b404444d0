theorem TRN_0 {B : BK} {p o x y : Int} {t : Nat} (ht : t ≠ 10) : TRN B p o x y t = B t := by
  funext k
  simp [TRN, sB, ht]
theorem GAI_in (B B' : BK) (p t : Int) (h6 : B 6 0 ≤ 7) (ht : 0 ≤ t ∧ t ≤ 1) : -1 ≤ GAI B B' p t ∧ GAI B B' p t ≤ 21 := by
  have h := suI_in (fun e => 5 ≤ SHD B' (bt 0) (B 1 0) e ∧ B 11 e = p) (B 6 0).toNat
  unfold GAI
  omega

set_option maxRecDepth 20000 in
set_option maxHeartbeats 1000000 in
theorem c_X5_turn {d : Nat} (hd : 6 ≤ d) {σ : MM} {B : BK} {p o c : Int} (hB : CB σ 1 B) (hW : WB B) (hp : 0 ≤ p ∧ p < B 5 0) (ho : 0 ≤ o ∧ o < B 5 0) (hne : ¬ p = o) (hc : 0 ≤ c ∧ c < 4) : V yX5_turn cX5_turn 4 none d (QZ (fun σ' => (CK σ' 1 (TRN B p o (c % 2) (c / 2)) (bt 0) ∧ CB σ' 2 (TRN B p o (c % 2) (c / 2))) ∧ Keep σ σ' ∧ ∀ t : Nat, 30 ≤ t → σ' t = σ t)) 0 [some (vR 0 0), some (vI p), some (vI o), some (vI c)] [] σ := by
  have hs := hW.s
  have d1 := hW.p hp
  have d2 := hW.p ho
  have e2 : p2 1 = 2 := rfl
  refine V_aload_0 (pc := 0) dX5_turn_0 ?_
  refine V_getc (pc := 1) dX5_turn_1 gf_X5_26 (by omega) ?_
  refine V_aload_0 (pc := 4) dX5_turn_4 ?_
  refine V_getc (pc := 5) dX5_turn_5 gf_X5_23 (by omega) ?_
  refine V_callV1z (pc := 8) dX5_turn_8 kv_X5_96 rc_3 (by omega) (d - 1) (by omega) rfl (c_X1_copyFrom (by omega) (by omega) (by omega) (by omega) hB hs) (fun σ_8 h_8 => ?_)
  refine V_aload_0 (pc := 11) dX5_turn_11 ?_
  refine V_getc (pc := 12) dX5_turn_12 gf_X5_26 (by omega) ?_
  refine V_gets (pc := 15) dX5_turn_15 gf_X5_122 (by omega) ?_
  refine V_iload_1 (pc := 18) dX5_turn_18 ?_
  refine V_dup2 (pc := 19) dX5_turn_19 rfl rfl ?_
  refine V_iald (pc := 20) dX5_turn_20 sh_7 (by omega) (by omega) (h_8.1.a7 (by omega)) ?_
  refine V_iload_3 (pc := 21) dX5_turn_21 ?_
  refine V_iconst (pc := 22) dX5_turn_22 ?_
  refine V_iand_1 (pc := 23) dX5_turn_23 (by omega) ?_
  refine V_ixor (pc := 24) dX5_turn_24 (bw_x01 (by omega) (by omega)) ?_
  refine V_iast (pc := 25) dX5_turn_25 sh_7 (by omega) (by omega) ?_
  refine V_aload_0 (pc := 26) dX5_turn_26 ?_
  refine V_getc (pc := 27) dX5_turn_27 gf_X5_26 (by omega) ?_
  refine V_gets (pc := 30) dX5_turn_30 gf_X5_122 (by omega) ?_
  refine V_iload_2 (pc := 33) dX5_turn_33 ?_
  refine V_dup2 (pc := 34) dX5_turn_34 rfl rfl ?_
  refine V_iald (pc := 35) dX5_turn_35 sh_7 (by omega) (by omega) (v := B 10 o) (by simp only [setI_at]; rw [if_neg (fun q => hne q.2.2.symm)]; exact h_8.1.a7 (by omega)) ?_
  refine V_iload_3 (pc := 36) dX5_turn_36 ?_
  refine V_iconst (pc := 37) dX5_turn_37 ?_
  refine V_ishr_p (pc := 38) dX5_turn_38 (by omega) (by omega) ?_
  refine V_ixor (pc := 39) dX5_turn_39 (bw_x01 (by omega) (by rw [e2]; omega)) ?_
  refine V_iast (pc := 40) dX5_turn_40 sh_7 (by omega) (by omega) ?_
  refine V_aload_0 (pc := 41) dX5_turn_41 ?_
  refine V_getc (pc := 42) dX5_turn_42 gf_X5_36 (by omega) ?_
  refine V_aload_0 (pc := 45) dX5_turn_45 ?_
  refine V_getc (pc := 46) dX5_turn_46 gf_X5_26 (by omega) ?_
  refine V_iconst (pc := 49) dX5_turn_49 ?_
  have hT := CB_put (k := p) (v := (B 10 p + c % 2) % 2) h_8.1 (Or.inr (Or.inr (Or.inl ⟨rfl, rfl, rfl⟩)))
  have hT2 : CB _ 2 (TRN B p o (c % 2) (c / 2)) := CB_put (k := o) (v := (B 10 o + c / p2 1) % 2) hT (Or.inr (Or.inr (Or.inl ⟨rfl, rfl, rfl⟩)))
  refine V_callV2z (pc := 50) dX5_turn_50 kv_X5_99 rc_18 (by omega) (d - 1) (by omega) rfl (c_X2_follow (by omega) (by omega) (by omega) hT2 (WB_TRN hW) (by omega)) (fun σ_50 h_50 => ?_)
  refine V_vret (pc := 53) dX5_turn_53 rfl ?_
  exact ⟨rfl, ⟨h_50.1, h_50.2.CB hT2⟩, (h_8.2.keep (Or.inl rfl)).tr ((Keep.set (t := 7) (k := 2) (by decide)).tr ((Keep.set (t := 7) (k := 2) (by decide)).tr h_50.2.keep)), fun t ht => by rw [h_50.2.tag (by omega), setI_tag (by omega), setI_tag (by omega), h_8.2.tag (by omega)]⟩

set_option maxRecDepth 20000 in
set_option maxHeartbeats 1000000 in
theorem c_clr {d : Nat} (hd : 0 ≤ d) {σ : MM} {B : BK} {B' : BK} {r y : Int} (hB : CB σ 1 B) (hW : WB B) (hW' : WB B') (hC : CK σ 1 B' (bt r)) (h61 : B' 6 0 = B 6 0 ∧ B' 1 0 = B 1 0) (hy : 0 ≤ y ∧ y ≤ B 1 0) : V yX5_clearBits cX5_clearBits 5 (some .int) d (QI (fun v σ' => v = bsN (fun e => bI (5 ≤ SHD B' (bt r) y e)) (B 6 0).toNat ∧ σ' = σ)) 0 [some (vR 0 0), some (vR 18 1), some (vI y), none, none] [] σ := by
  have hs := hW.s
  have loop : ∀ i : Nat, i ≤ (B 6 0).toNat → V yX5_clearBits cX5_clearBits 5 (some .int) d (QI (fun v σ' => v = bsN (fun e => bI (5 ≤ SHD B' (bt r) y e)) (B 6 0).toNat ∧ σ' = σ)) 5 [some (vR 0 0), some (vR 18 1), some (vI y), some (vI (bsN (fun e => bI (5 ≤ SHD B' (bt r) y e)) i)), some (vI (i : Int))] [] σ := by
    refine up_ind (P := fun i : Nat => V yX5_clearBits cX5_clearBits 5 (some .int) d (QI (fun v σ' => v = bsN (fun e => bI (5 ≤ SHD B' (bt r) y e)) (B 6 0).toNat ∧ σ' = σ)) 5 [some (vR 0 0), some (vR 18 1), some (vI y), some (vI (bsN (fun e => bI (5 ≤ SHD B' (bt r) y e)) i)), some (vI (i : Int))] [] σ) ?_ ?_
    · 
      refine V_iload_4 (pc := 5) dX5_clearBits_5 ?_
      refine V_aload_0 (pc := 7) dX5_clearBits_7 ?_
      refine V_getc (pc := 8) dX5_clearBits_8 gf_X5_23 (by omega) ?_
      refine V_geti (pc := 11) dX5_clearBits_11 gf_X5_159 (by omega) hB.s6 ?_
      refine V_icmp_ge (pc := 14) 43 dX5_clearBits_14 (by decide) (by omega) (by omega) (fun c_14 => ?_) (fun c_14 => ?_)
      · refine V_iload_3 (pc := 43) dX5_clearBits_43 ?_
        refine V_iretI (pc := 44) dX5_clearBits_44 rfl ?_
        exact ⟨_, rfl, by first | rfl | omega, rfl⟩
      · exact absurd c_14 (by omega)
    · intro i hi ih
      have h1 := SHD_in (r := r) (y := y) hW' (e := (i : Int)) (by omega)
      have hb := bsI_in (fun e => 5 ≤ SHD B' (bt r) y e) i
      have hS := bsN_S (fun e => bI (5 ≤ SHD B' (bt r) y e)) i
      refine V_iload_4 (pc := 5) dX5_clearBits_5 ?_
      refine V_aload_0 (pc := 7) dX5_clearBits_7 ?_
      refine V_getc (pc := 8) dX5_clearBits_8 gf_X5_23 (by omega) ?_
      refine V_geti (pc := 11) dX5_clearBits_11 gf_X5_159 (by omega) hB.s6 ?_
      refine V_icmp_ge (pc := 14) 43 dX5_clearBits_14 (by decide) (by omega) (by omega) (fun c_14 => ?_) (fun c_14 => ?_)
      · exact absurd c_14 (by omega)
      · refine V_aload_1 (pc := 17) dX5_clearBits_17 ?_
        refine V_gets (pc := 18) dX5_clearBits_18 gf_X5_169 (by omega) ?_
        refine V_iload_2 (pc := 21) dX5_clearBits_21 ?_
        refine V_aald_19 (pc := 22) dX5_clearBits_22 (by omega) (by omega) ?_
        refine V_iload_4 (pc := 23) dX5_clearBits_23 ?_
        refine V_iald (pc := 25) dX5_clearBits_25 sh_22 (by omega) (by omega) (hC.sh (by omega) (by omega)) ?_
        refine V_iconst (pc := 26) dX5_clearBits_26 ?_
        refine V_icmp_lt (pc := 27) 37 dX5_clearBits_27 (by decide) (by omega) (by omega) (fun c_27 => ?_) (fun c_27 => ?_)
        · refine V_iinc_4 (pc := 37) dX5_clearBits_37 ?_
          refine V_goto (pc := 40) 5 dX5_clearBits_40 (by decide) ?_
          refine V.sub (by simp only [subL, Option.some.injEq, Sum.inl.injEq, Sum.inr.injEq, reduceCtorEq, true_or, or_true, false_or, true_and, and_true]; first | omega | (rw [hS, bI_t (by omega)]; omega) | (rw [hS, bI_f (by omega)]; omega)) ih
        · refine V_iload_3 (pc := 30) dX5_clearBits_30 ?_
          refine V_iconst (pc := 31) dX5_clearBits_31 ?_
          refine V_iload_4 (pc := 32) dX5_clearBits_32 ?_
          refine V_ishl_1 (pc := 34) dX5_clearBits_34 (by omega) ?_
          refine V_ior_add (pc := 35) dX5_clearBits_35 (by assumption) ?_
          refine V_istore_3 (pc := 36) dX5_clearBits_36 ?_
          refine V_iinc_4 (pc := 37) dX5_clearBits_37 ?_
          refine V_goto (pc := 40) 5 dX5_clearBits_40 (by decide) ?_
          refine V.sub (by simp only [subL, Option.some.injEq, Sum.inl.injEq, Sum.inr.injEq, reduceCtorEq, true_or, or_true, false_or, true_and, and_true]; first | omega | (rw [hS, bI_t (by omega)]; omega) | (rw [hS, bI_f (by omega)]; omega)) ih
  refine V_iconst (pc := 0) dX5_clearBits_0 ?_
  refine V_istore_3 (pc := 1) dX5_clearBits_1 ?_
  refine V_iconst (pc := 2) dX5_clearBits_2 ?_
  refine V_istore_4 (pc := 3) dX5_clearBits_3 ?_
  exact loop 0 (by omega)

set_option maxRecDepth 20000 in
set_option maxHeartbeats 1000000 in
theorem c_X5_gain {d : Nat} (hd : 1 ≤ d) {σ : MM} {B : BK} {B' : BK} {p t : Int} (hB : CB σ 1 B) (hW : WB B) (hW' : WB B') (hC : CK σ 1 B' (bt 0)) (h61 : B' 6 0 = B 6 0 ∧ B' 1 0 = B 1 0) (hp : 0 ≤ p ∧ p < B 5 0) (ht : 0 ≤ t ∧ t ≤ 1) : V yX5_gain cX5_gain 3 (some .int) d (QI (fun v σ' => v = GAI B B' p t ∧ σ' = σ)) 0 [some (vR 0 0), some (vI p), some (vI t)] [] σ := by
  have hs := hW.s
  have hb := bsI_in (fun e => 5 ≤ SHD B' (bt 0) (B 1 0) e) (B 6 0).toNat
  have hp7 := p2_le (a := (((B 6 0).toNat : Nat) : Int)) (b := 7) (by omega)
  have hp70 : p2 7 = 128 := rfl
  have hO := ONP_in hs p
  have hA := andB_in (a := bsN (fun e => bI (5 ≤ SHD B' (bt 0) (B 1 0) e)) (B 6 0).toNat) (b := ONP B p) hb.1
  refine V_iconst (pc := 0) dX5_gain_0 ?_
  refine V_aload_0 (pc := 1) dX5_gain_1 ?_
  refine V_aload_0 (pc := 2) dX5_gain_2 ?_
  refine V_getc (pc := 3) dX5_gain_3 gf_X5_36 (by omega) ?_
  refine V_aload_0 (pc := 6) dX5_gain_6 ?_
  refine V_getc (pc := 7) dX5_gain_7 gf_X5_23 (by omega) ?_
  refine V_geti (pc := 10) dX5_gain_10 gf_X5_175 (by omega) hB.s1 ?_
  refine V_callV2p (pc := 13) dX5_gain_13 kv_X5_192 rc_0 (by omega) (d - 1) (by omega) rfl (c_clr (by omega) hB hW hW' hC h61 (by omega)) ?_
  refine V_aload_0 (pc := 16) dX5_gain_16 ?_
  refine V_iload_1 (pc := 17) dX5_gain_17 ?_
  refine V_callV1p (pc := 18) dX5_gain_18 kv_X5_142 rc_0 (by omega) (d - 1) (by omega) rfl (c_ONP (by omega) hB hW (by omega)) ?_
  refine V_iand (pc := 21) dX5_gain_21 (bw_andB hb.1 hO.1) ?_
  refine V_callS1p (pc := 22) dX5_gain_22 kv_X5_228 (d - 1) (by omega) rfl (c_J6_bitCount_0f7a4 (by omega) (by omega)) ?_
  refine V_imul (pc := 25) dX5_gain_25 ?_
  refine V_iload_2 (pc := 26) dX5_gain_26 ?_
  refine V_isub (pc := 27) dX5_gain_27 ?_
  refine V_iretI (pc := 28) dX5_gain_28 rfl ?_
  exact ⟨_, rfl, by unfold GAI ONP; rw [andB_bs, POP_bs (by omega) (fun k _ _ => (bI_01 _).symm.elim Or.inr Or.inl)], rfl⟩
