theorem bI_iff {c : Prop} [Decidable c] : bI c = 1 ↔ c := by
  unfold bI
  by_cases h : c
  · rw [if_pos h]; exact ⟨fun _ => h, fun _ => rfl⟩
  · rw [if_neg h]; exact ⟨fun q => absurd q (by decide), fun q => absurd q h⟩
/-- a token is read on: behind it the next -/
theorem RST_adv {σ σ' : MM} {T : Int → Int} {n p : Int} (hs : RST σ T n (0, p)) (h : OffT σ σ') (ht : TOK σ' T n (TE T n p)) : RST σ' T n (0, TE T n p) := by
  have hp : 0 ≤ p ∧ p ≤ n := hs.2.2.1
  have h1 := TS_in (T := T) hp
  have h2 := TE_in (T := T) hp
  exact h.rst hs (by omega) ht

set_option maxRecDepth 20000 in
set_option maxHeartbeats 1000000 in
theorem c_X3_readHead {d : Nat} (hd : 6 ≤ d) {σ : MM} {T : Int → Int} {n : Int} {p : Int} {B : BK} (hR : RDF σ T n) (hS : RST σ T n (0, p)) (hB : CB σ 0 B) (hD : DB B) : V yX3_readHead cX3_readHead 2 none d (QZ (fun σ' => RST σ' T n (HDL T n p B).1 ∧ CB σ' 0 (HDL T n p B).2 ∧ OffD σ σ')) 0 [some (vR 1 0), some (vR 3 0)] [] σ := by
  have hn7 := hR.2.1
  have hT : TOK σ T n p := (hS.2.2.2.1 rfl).1
  have h3p : σ 1 0 3 = -1 := (hS.2.2.2.1 rfl).2
  have hf0 : σ 1 0 2 = 0 := hS.1
  have hp : 0 ≤ p ∧ p ≤ n := hS.2.2.1
  have hTS := TS_in (T := T) hp
  have hTE := TE_in (T := T) hp
  have hW := hD.1
  have hs := hW.s
  have hKp := TK_in T n p
  refine V_aload_0 (pc := 0) dX3_readHead_0 ?_
  refine V_callV0z (pc := 1) dX3_readHead_1 kv_X3_37 rc_1 (by omega) (d - 1) (by omega) rfl (c_X3_advance (by omega) hR (by omega) hT.2.2.1) (fun σ_1 h_1 => ?_)
  have hSa := RST_adv hS h_1.2 h_1.1
  have hTa : TOK σ_1 T n (TE T n p) := h_1.1
  have hpa : 0 ≤ TE T n p ∧ TE T n p ≤ n := by omega
  have hEa := TE_in (T := T) hpa
  have hSa2 := TS_in (T := T) hpa
  have hRa := h_1.2.rdf hR
  have hBa := h_1.2.R.CB hB
  have hOa := h_1.2.R.D
  refine V_aload_1 (pc := 4) dX3_readHead_4 ?_
  refine V_aload_0 (pc := 5) dX3_readHead_5 ?_
  refine V_ldcS (pc := 6) dX3_readHead_6 (i := 4) rfl rfl ?_
  refine V_iconst (pc := 8) dX3_readHead_8 ?_
  refine V_bipush (pc := 9) dX3_readHead_9 (by decide) ?_
  refine V_callV3i (pc := 11) dX3_readHead_11 kv_X3_79 rc_1 (by omega) (d - 1) (by omega) rfl (c_X3_numberBehind (by omega) hRa (w := 4) (by decide) (by omega) (by omega) hSa) (fun v_11 σ_11 h_11 => ?_)
  obtain ⟨hv0, hq0, ho0⟩ := h_11
  subst hv0
  refine V_puti (pc := 14) dX3_readHead_14 gf_X3_83 (by omega) ?_
  have hS0 := hq0.same (σ' := setI σ_11 3 0 1 (NBF T n 4 1 20 (0, TE T n p)).2) (setI_tag (by decide))
  have hB0 := CB_put3 (j := 1) (v := (NBF T n 4 1 20 (0, TE T n p)).2) (z := 1) rfl (by decide) (ho0.CB hBa)
  have hO0 := hOa.tr (ho0.D.tr (OffD.set (t := 3) (z := 1) (v := (NBF T n 4 1 20 (0, TE T n p)).2) (by decide)))
  have hR0 := hO0.rdf hR
  refine V_aload_1 (pc := 17) dX3_readHead_17 ?_
  refine V_aload_0 (pc := 18) dX3_readHead_18 ?_
  refine V_ldcS (pc := 19) dX3_readHead_19 (i := 5) rfl rfl ?_
  refine V_iconst (pc := 21) dX3_readHead_21 ?_
  refine V_iconst (pc := 22) dX3_readHead_22 ?_
  refine V_callV3i (pc := 23) dX3_readHead_23 kv_X3_79 rc_1 (by omega) (d - 1) (by omega) rfl (c_X3_numberBehind (by omega) hR0 (w := 5) (by decide) (by omega) (by omega) hS0) (fun v_23 σ_23 h_23 => ?_)
  obtain ⟨hv1, hq1, ho1⟩ := h_23
  subst hv1
  refine V_puti (pc := 26) dX3_readHead_26 gf_X3_87 (by omega) ?_
  have hS1 := hq1.same (σ' := setI σ_23 3 0 2 (NBF T n 5 0 3 (NBF T n 4 1 20 (0, TE T n p)).1).2) (setI_tag (by decide))
  have hB1 := CB_put3 (j := 2) (v := (NBF T n 5 0 3 (NBF T n 4 1 20 (0, TE T n p)).1).2) (z := 2) rfl (by decide) (ho1.CB hB0)
  have hO1 := hO0.tr (ho1.D.tr (OffD.set (t := 3) (z := 2) (v := (NBF T n 5 0 3 (NBF T n 4 1 20 (0, TE T n p)).1).2) (by decide)))
  have hR1 := hO1.rdf hR
  refine V_aload_1 (pc := 29) dX3_readHead_29 ?_
  refine V_aload_0 (pc := 30) dX3_readHead_30 ?_
  refine V_ldcS (pc := 31) dX3_readHead_31 (i := 6) rfl rfl ?_
  refine V_iconst (pc := 33) dX3_readHead_33 ?_
  refine V_bipush (pc := 34) dX3_readHead_34 (by decide) ?_
  refine V_callV3i (pc := 36) dX3_readHead_36 kv_X3_79 rc_1 (by omega) (d - 1) (by omega) rfl (c_X3_numberBehind (by omega) hR1 (w := 6) (by decide) (by omega) (by omega) hS1) (fun v_36 σ_36 h_36 => ?_)
  obtain ⟨hv2, hq2, ho2⟩ := h_36
  subst hv2
  refine V_puti (pc := 39) dX3_readHead_39 gf_X3_91 (by omega) ?_
  have hS2 := hq2.same (σ' := setI σ_36 3 0 3 (NBF T n 6 0 10 (NBF T n 5 0 3 (NBF T n 4 1 20 (0, TE T n p)).1).1).2) (setI_tag (by decide))
  have hB2 := CB_put3 (j := 3) (v := (NBF T n 6 0 10 (NBF T n 5 0 3 (NBF T n 4 1 20 (0, TE T n p)).1).1).2) (z := 3) rfl (by decide) (ho2.CB hB1)
  have hO2 := hO1.tr (ho2.D.tr (OffD.set (t := 3) (z := 3) (v := (NBF T n 6 0 10 (NBF T n 5 0 3 (NBF T n 4 1 20 (0, TE T n p)).1).1).2) (by decide)))
  have hR2 := hO2.rdf hR
  refine V_vret (pc := 42) dX3_readHead_42 rfl ?_
  exact ⟨rfl, hS2, hB2, hO2⟩

theorem INL_e {T : Int → Int} {n p : Int} {B : BK} (h : ¬ 4 ≤ B 4 0) : INL T n p B = ((NBF T n 9 0 9 (NBF T n 8 1 60 (NBF T n 7 1 20 (0, TE T n p)).1).1).1, if (NBF T n 9 0 9 (NBF T n 8 1 60 (NBF T n 7 1 20 (0, TE T n p)).1).1).1.1 = 0 then iB B (NBF T n 7 1 20 (0, TE T n p)).2 (NBF T n 8 1 60 (NBF T n 7 1 20 (0, TE T n p)).1).2 (NBF T n 9 0 9 (NBF T n 8 1 60 (NBF T n 7 1 20 (0, TE T n p)).1).1).2 else B) := if_neg h

set_option maxRecDepth 20000 in
set_option maxHeartbeats 1000000 in
theorem c_X3_readInk {d : Nat} (hd : 6 ≤ d) {σ : MM} {T : Int → Int} {n : Int} {p : Int} {B : BK} (hR : RDF σ T n) (hS : RST σ T n (0, p)) (hB : CB σ 0 B) (hD : DB B) : V yX3_readInk cX3_readInk 5 none d (QZ (fun σ' => RST σ' T n (INL T n p B).1 ∧ CB σ' 0 (INL T n p B).2 ∧ OffD σ σ')) 0 [some (vR 1 0), some (vR 3 0), none, none, none] [] σ := by
  have hn7 := hR.2.1
  have hT : TOK σ T n p := (hS.2.2.2.1 rfl).1
  have h3p : σ 1 0 3 = -1 := (hS.2.2.2.1 rfl).2
  have hf0 : σ 1 0 2 = 0 := hS.1
  have hp : 0 ≤ p ∧ p ≤ n := hS.2.2.1
  have hTS := TS_in (T := T) hp
  have hTE := TE_in (T := T) hp
  have hW := hD.1
  have hs := hW.s
  have hKp := TK_in T n p
  refine V_aload_1 (pc := 0) dX3_readInk_0 ?_
  refine V_geti (pc := 1) dX3_readInk_1 gf_X3_93 (by omega) hB.s4 ?_
  refine V_iconst (pc := 4) dX3_readInk_4 ?_
  refine V_icmp_lt (pc := 5) 14 dX3_readInk_5 (by decide) (by omega) (by omega) (fun c_5 => ?_) (fun c_5 => ?_)
  · refine V_aload_0 (pc := 14) dX3_readInk_14 ?_
    refine V_callV0z (pc := 15) dX3_readInk_15 kv_X3_37 rc_1 (by omega) (d - 1) (by omega) rfl (c_X3_advance (by omega) hR (by omega) hT.2.2.1) (fun σ_15 h_15 => ?_)
    have hSa := RST_adv hS h_15.2 h_15.1
    have hTa : TOK σ_15 T n (TE T n p) := h_15.1
    have hpa : 0 ≤ TE T n p ∧ TE T n p ≤ n := by omega
    have hEa := TE_in (T := T) hpa
    have hSa2 := TS_in (T := T) hpa
    have hRa := h_15.2.rdf hR
    have hBa := h_15.2.R.CB hB
    have hOa := h_15.2.R.D
    refine V_aload_0 (pc := 18) dX3_readInk_18 ?_
    refine V_ldcS (pc := 19) dX3_readInk_19 (i := 7) rfl rfl ?_
    refine V_iconst (pc := 21) dX3_readInk_21 ?_
    refine V_bipush (pc := 22) dX3_readInk_22 (by decide) ?_
    refine V_callV3i (pc := 24) dX3_readInk_24 kv_X3_79 rc_1 (by omega) (d - 1) (by omega) rfl (c_X3_numberBehind (by omega) hRa (w := 7) (by decide) (by omega) (by omega) hSa) (fun v_24 σ_24 h_24 => ?_)
    obtain ⟨hv0, hS0, ho0⟩ := h_24
    have hB0 := ho0.CB hBa
    have hO0 := hOa.tr ho0.D
    have hR0 := hO0.rdf hR
    refine V_istore_2 (pc := 27) dX3_readInk_27 ?_
    refine V_aload_0 (pc := 28) dX3_readInk_28 ?_
    refine V_ldcS (pc := 29) dX3_readInk_29 (i := 8) rfl rfl ?_
    refine V_iconst (pc := 31) dX3_readInk_31 ?_
    refine V_bipush (pc := 32) dX3_readInk_32 (by decide) ?_
    refine V_callV3i (pc := 34) dX3_readInk_34 kv_X3_79 rc_1 (by omega) (d - 1) (by omega) rfl (c_X3_numberBehind (by omega) hR0 (w := 8) (by decide) (by omega) (by omega) hS0) (fun v_34 σ_34 h_34 => ?_)
    obtain ⟨hv1, hS1, ho1⟩ := h_34
    have hB1 := ho1.CB hB0
    have hO1 := hO0.tr ho1.D
    have hR1 := hO1.rdf hR
    refine V_istore_3 (pc := 37) dX3_readInk_37 ?_
    refine V_aload_0 (pc := 38) dX3_readInk_38 ?_
    refine V_ldcS (pc := 39) dX3_readInk_39 (i := 9) rfl rfl ?_
    refine V_iconst (pc := 41) dX3_readInk_41 ?_
    refine V_bipush (pc := 42) dX3_readInk_42 (by decide) ?_
    refine V_callV3i (pc := 44) dX3_readInk_44 kv_X3_79 rc_1 (by omega) (d - 1) (by omega) rfl (c_X3_numberBehind (by omega) hR1 (w := 9) (by decide) (by omega) (by omega) hS1) (fun v_44 σ_44 h_44 => ?_)
    obtain ⟨hv2, hS2, ho2⟩ := h_44
    have hB2 := ho2.CB hB1
    have hO2 := hO1.tr ho2.D
    have hR2 := hO2.rdf hR
    refine V_istore_4 (pc := 47) dX3_readInk_47 ?_
    refine V_aload_0 (pc := 49) dX3_readInk_49 ?_
    refine V_geti (pc := 50) dX3_readInk_50 gf_X3_19 (by omega) hS2.1 ?_
    have hf2 := hS2.2.1
    refine V_if_ne (pc := 53) 64 dX3_readInk_53 (by decide) (by omega) (fun c_53 => ?_) (fun c_53 => ?_)
    · refine V_vret (pc := 64) dX3_readInk_64 rfl ?_
      have e := INL_e (T := T) (n := n) (p := p) (B := B) (by omega)
      rw [e]
      first
        | (rw [if_neg c_53]; exact ⟨rfl, hS2, hB2, hO2⟩)
        | (rw [if_pos c_53]
           rw [hv0, hv1, hv2] at h_61
           exact ⟨rfl, h_61.2.rst hS2, h_61.1, hO2.tr h_61.2.D⟩)
    · refine V_aload_1 (pc := 56) dX3_readInk_56 ?_
      refine V_iload_2 (pc := 57) dX3_readInk_57 ?_
      refine V_iload_3 (pc := 58) dX3_readInk_58 ?_
      refine V_iload_4 (pc := 59) dX3_readInk_59 ?_
      refine V_callV3z (pc := 61) dX3_readInk_61 kv_X3_102 rc_3 (by omega) (d - 1) (by omega) rfl (c_X1_addInk (by omega) (by omega) hB2 (by omega)) (fun σ_61 h_61 => ?_)
      refine V_vret (pc := 64) dX3_readInk_64 rfl ?_
      have e := INL_e (T := T) (n := n) (p := p) (B := B) (by omega)
      rw [e]
      first
        | (rw [if_neg c_53]; exact ⟨rfl, hS2, hB2, hO2⟩)
        | (rw [if_pos c_53]
           rw [hv0, hv1, hv2] at h_61
           exact ⟨rfl, h_61.2.rst hS2, h_61.1, hO2.tr h_61.2.D⟩)
  · refine V_aload_0 (pc := 8) dX3_readInk_8 ?_
    refine V_iconst (pc := 9) dX3_readInk_9 ?_
    refine V_callV1z (pc := 10) dX3_readInk_10 kv_X3_44 rc_1 (by omega) (d - 1) (by omega) rfl (c_X3_blame (by omega) (f0 := 0) hf0 (by omega) hT.2.1) (fun σ_10 h_10 => ?_)
    refine V_vret (pc := 13) dX3_readInk_13 rfl ?_
    have e : INL T n p B = ((3, TS T n p), B) := if_pos (by omega)
    rw [e]
    refine ⟨rfl, ?_⟩
    rw [if_pos rfl] at h_10
    rw [h_10]
    exact ⟨RST_flt (by omega) (by simp [setI_at]) (by simp [setI_at]) (by omega) (by simp [setI_at, hT.1]; omega), ((OffR.set (by omega)).tr (OffR.set (by omega))).CB hB, ((OffR.set (by omega)).tr (OffR.set (by omega))).D⟩

theorem ENL_e {T : Int → Int} {n p : Int} {B : BK} (h : ¬ 7 ≤ B 6 0) : ENL T n p B = ((NBF T n 14 0 20 (NBF T n 13 0 20 (NBF T n 12 0 (B 4 0 - 1) (NBF T n 11 0 (B 5 0 - 1) (0, TE T n p)).1).1).1).1, if (NBF T n 14 0 20 (NBF T n 13 0 20 (NBF T n 12 0 (B 4 0 - 1) (NBF T n 11 0 (B 5 0 - 1) (0, TE T n p)).1).1).1).1.1 = 0 then eB B (NBF T n 11 0 (B 5 0 - 1) (0, TE T n p)).2 (NBF T n 12 0 (B 4 0 - 1) (NBF T n 11 0 (B 5 0 - 1) (0, TE T n p)).1).2 (NBF T n 13 0 20 (NBF T n 12 0 (B 4 0 - 1) (NBF T n 11 0 (B 5 0 - 1) (0, TE T n p)).1).1).2 (NBF T n 14 0 20 (NBF T n 13 0 20 (NBF T n 12 0 (B 4 0 - 1) (NBF T n 11 0 (B 5 0 - 1) (0, TE T n p)).1).1).1).2 else B) := if_neg h

theorem ENL_p {T : Int → Int} {n p : Int} {B : BK} (hp : 0 ≤ p ∧ p ≤ n) (q : (NBF T n 14 0 20 (NBF T n 13 0 20 (NBF T n 12 0 (B 4 0 - 1) (NBF T n 11 0 (B 5 0 - 1) (0, TE T n p)).1).1).1).1.1 = 0) : 0 ≤ (NBF T n 11 0 (B 5 0 - 1) (0, TE T n p)).2 ∧ (NBF T n 11 0 (B 5 0 - 1) (0, TE T n p)).2 < B 5 0 := by
  have hS := TS_in (T := T) hp
  have hE := TE_in (T := T) hp
  have a1 := NBF_in (T := T) (n := n) (w := 11) (lo := 0) (hi := B 5 0 - 1) (s := (0, TE T n p)) ⟨by show 0 ≤ TE T n p; omega, by show TE T n p ≤ n; omega⟩ ⟨Int.le_refl 0, (by decide : (0 : Int) ≤ 3)⟩
  have a2 := NBF_in (T := T) (n := n) (w := 12) (lo := 0) (hi := B 4 0 - 1) a1.1.2 a1.1.1
  have a3 := NBF_in (T := T) (n := n) (w := 13) (lo := 0) (hi := 20) a2.1.2 a2.1.1
  have a4 := NBF_in (T := T) (n := n) (w := 14) (lo := 0) (hi := 20) a3.1.2 a3.1.1
  have b4 := a4.2.2 q
  have b3 := a3.2.2 b4.2.2.1
  have b2 := a2.2.2 b3.2.2.1
  have b1 := a1.2.2 b2.2.2.1
  omega

set_option maxRecDepth 20000 in
set_option maxHeartbeats 1000000 in
theorem c_X3_readEntry {d : Nat} (hd : 6 ≤ d) {σ : MM} {T : Int → Int} {n : Int} {p : Int} {B : BK} (hR : RDF σ T n) (hS : RST σ T n (0, p)) (hB : CB σ 0 B) (hD : DB B) : V yX3_readEntry cX3_readEntry 6 none d (QZ (fun σ' => RST σ' T n (ENL T n p B).1 ∧ CB σ' 0 (ENL T n p B).2 ∧ OffD σ σ')) 0 [some (vR 1 0), some (vR 3 0), none, none, none, none] [] σ := by
  have hn7 := hR.2.1
  have hT : TOK σ T n p := (hS.2.2.2.1 rfl).1
  have h3p : σ 1 0 3 = -1 := (hS.2.2.2.1 rfl).2
  have hf0 : σ 1 0 2 = 0 := hS.1
  have hp : 0 ≤ p ∧ p ≤ n := hS.2.2.1
  have hTS := TS_in (T := T) hp
  have hTE := TE_in (T := T) hp
  have hW := hD.1
  have hs := hW.s
  have hKp := TK_in T n p
  refine V_aload_1 (pc := 0) dX3_readEntry_0 ?_
  refine V_geti (pc := 1) dX3_readEntry_1 gf_X3_115 (by omega) hB.s6 ?_
  refine V_bipush (pc := 4) dX3_readEntry_4 (by decide) ?_
  refine V_icmp_lt (pc := 6) 15 dX3_readEntry_6 (by decide) (by omega) (by omega) (fun c_6 => ?_) (fun c_6 => ?_)
  · refine V_aload_0 (pc := 15) dX3_readEntry_15 ?_
    refine V_callV0z (pc := 16) dX3_readEntry_16 kv_X3_37 rc_1 (by omega) (d - 1) (by omega) rfl (c_X3_advance (by omega) hR (by omega) hT.2.2.1) (fun σ_16 h_16 => ?_)
    have hSa := RST_adv hS h_16.2 h_16.1
    have hTa : TOK σ_16 T n (TE T n p) := h_16.1
    have hpa : 0 ≤ TE T n p ∧ TE T n p ≤ n := by omega
    have hEa := TE_in (T := T) hpa
    have hSa2 := TS_in (T := T) hpa
    have hRa := h_16.2.rdf hR
    have hBa := h_16.2.R.CB hB
    have hOa := h_16.2.R.D
    refine V_aload_0 (pc := 19) dX3_readEntry_19 ?_
    refine V_ldcS (pc := 20) dX3_readEntry_20 (i := 11) rfl rfl ?_
    refine V_iconst (pc := 22) dX3_readEntry_22 ?_
    refine V_aload_1 (pc := 23) dX3_readEntry_23 ?_
    refine V_geti (pc := 24) dX3_readEntry_24 gf_X3_106 (by omega) hBa.s5 ?_
    refine V_iconst (pc := 27) dX3_readEntry_27 ?_
    refine V_isub (pc := 28) dX3_readEntry_28 ?_
    refine V_callV3i (pc := 29) dX3_readEntry_29 kv_X3_79 rc_1 (by omega) (d - 1) (by omega) rfl (c_X3_numberBehind (by omega) hRa (w := 11) (by decide) (by omega) (by omega) hSa) (fun v_29 σ_29 h_29 => ?_)
    obtain ⟨hv0, hS0, ho0⟩ := h_29
    have hB0 := ho0.CB hBa
    have hO0 := hOa.tr ho0.D
    have hR0 := hO0.rdf hR
    refine V_istore_2 (pc := 32) dX3_readEntry_32 ?_
    refine V_aload_0 (pc := 33) dX3_readEntry_33 ?_
    refine V_ldcS (pc := 34) dX3_readEntry_34 (i := 12) rfl rfl ?_
    refine V_iconst (pc := 36) dX3_readEntry_36 ?_
    refine V_aload_1 (pc := 37) dX3_readEntry_37 ?_
    refine V_geti (pc := 38) dX3_readEntry_38 gf_X3_93 (by omega) hB0.s4 ?_
    refine V_iconst (pc := 41) dX3_readEntry_41 ?_
    refine V_isub (pc := 42) dX3_readEntry_42 ?_
    refine V_callV3i (pc := 43) dX3_readEntry_43 kv_X3_79 rc_1 (by omega) (d - 1) (by omega) rfl (c_X3_numberBehind (by omega) hR0 (w := 12) (by decide) (by omega) (by omega) hS0) (fun v_43 σ_43 h_43 => ?_)
    obtain ⟨hv1, hS1, ho1⟩ := h_43
    have hB1 := ho1.CB hB0
    have hO1 := hO0.tr ho1.D
    have hR1 := hO1.rdf hR
    refine V_istore_3 (pc := 46) dX3_readEntry_46 ?_
    refine V_aload_0 (pc := 47) dX3_readEntry_47 ?_
    refine V_ldcS (pc := 48) dX3_readEntry_48 (i := 13) rfl rfl ?_
    refine V_iconst (pc := 50) dX3_readEntry_50 ?_
    refine V_bipush (pc := 51) dX3_readEntry_51 (by decide) ?_
    refine V_callV3i (pc := 53) dX3_readEntry_53 kv_X3_79 rc_1 (by omega) (d - 1) (by omega) rfl (c_X3_numberBehind (by omega) hR1 (w := 13) (by decide) (by omega) (by omega) hS1) (fun v_53 σ_53 h_53 => ?_)
    obtain ⟨hv2, hS2, ho2⟩ := h_53
    have hB2 := ho2.CB hB1
    have hO2 := hO1.tr ho2.D
    have hR2 := hO2.rdf hR
    refine V_istore_4 (pc := 56) dX3_readEntry_56 ?_
    refine V_aload_0 (pc := 58) dX3_readEntry_58 ?_
    refine V_ldcS (pc := 59) dX3_readEntry_59 (i := 14) rfl rfl ?_
    refine V_iconst (pc := 61) dX3_readEntry_61 ?_
    refine V_bipush (pc := 62) dX3_readEntry_62 (by decide) ?_
    refine V_callV3i (pc := 64) dX3_readEntry_64 kv_X3_79 rc_1 (by omega) (d - 1) (by omega) rfl (c_X3_numberBehind (by omega) hR2 (w := 14) (by decide) (by omega) (by omega) hS2) (fun v_64 σ_64 h_64 => ?_)
    obtain ⟨hv3, hS3, ho3⟩ := h_64
    have hB3 := ho3.CB hB2
    have hO3 := hO2.tr ho3.D
    have hR3 := hO3.rdf hR
    refine V_istore_5 (pc := 67) dX3_readEntry_67 ?_
    refine V_aload_0 (pc := 69) dX3_readEntry_69 ?_
    refine V_geti (pc := 70) dX3_readEntry_70 gf_X3_19 (by omega) hS3.1 ?_
    have hf3 := hS3.2.1
    refine V_if_ne (pc := 73) 86 dX3_readEntry_73 (by decide) (by omega) (fun c_73 => ?_) (fun c_73 => ?_)
    · refine V_vret (pc := 86) dX3_readEntry_86 rfl ?_
      have e := ENL_e (T := T) (n := n) (p := p) (B := B) (by omega)
      rw [e]
      first
        | (rw [if_neg c_73]; exact ⟨rfl, hS3, hB3, hO3⟩)
        | (rw [if_pos c_73]
           rw [hv0, hv1, hv2, hv3] at h_83
           exact ⟨rfl, h_83.2.rst hS3, h_83.1, hO3.tr h_83.2.D⟩)
    · refine V_aload_1 (pc := 76) dX3_readEntry_76 ?_
      refine V_iload_2 (pc := 77) dX3_readEntry_77 ?_
      refine V_iload_3 (pc := 78) dX3_readEntry_78 ?_
      refine V_iload_4 (pc := 79) dX3_readEntry_79 ?_
      refine V_iload_5 (pc := 81) dX3_readEntry_81 ?_
      refine V_callV4z (pc := 83) dX3_readEntry_83 kv_X3_126 rc_3 (by omega) (d - 1) (by omega) rfl (c_X1_addEntry (by omega) (by omega) hB3 (by omega) (by rw [hv0]; have := ENL_p (B := B) hp c_73; omega) (fun x hx => by have := hW.e hx; omega)) (fun σ_83 h_83 => ?_)
      refine V_vret (pc := 86) dX3_readEntry_86 rfl ?_
      have e := ENL_e (T := T) (n := n) (p := p) (B := B) (by omega)
      rw [e]
      first
        | (rw [if_neg c_73]; exact ⟨rfl, hS3, hB3, hO3⟩)
        | (rw [if_pos c_73]
           rw [hv0, hv1, hv2, hv3] at h_83
           exact ⟨rfl, h_83.2.rst hS3, h_83.1, hO3.tr h_83.2.D⟩)
  · refine V_aload_0 (pc := 9) dX3_readEntry_9 ?_
    refine V_iconst (pc := 10) dX3_readEntry_10 ?_
    refine V_callV1z (pc := 11) dX3_readEntry_11 kv_X3_44 rc_1 (by omega) (d - 1) (by omega) rfl (c_X3_blame (by omega) (f0 := 0) hf0 (by omega) hT.2.1) (fun σ_11 h_11 => ?_)
    refine V_vret (pc := 14) dX3_readEntry_14 rfl ?_
    have e : ENL T n p B = ((3, TS T n p), B) := if_pos (by omega)
    rw [e]
    refine ⟨rfl, ?_⟩
    rw [if_pos rfl] at h_11
    rw [h_11]
    exact ⟨RST_flt (by omega) (by simp [setI_at]) (by simp [setI_at]) (by omega) (by simp [setI_at, hT.1]; omega), ((OffR.set (by omega)).tr (OffR.set (by omega))).CB hB, ((OffR.set (by omega)).tr (OffR.set (by omega))).D⟩

theorem PGL_e {T : Int → Int} {n p : Int} {B : BK} (h : ¬ 4 ≤ B 5 0) : PGL T n p B = ((0, if WRD T n (TE T n p) 10 then TE T n (TE T n p) else TE T n p), pB B (bI (WRD T n (TE T n p) 10))) := if_neg h

set_option maxRecDepth 20000 in
set_option maxHeartbeats 1000000 in
theorem c_X3_readPage {d : Nat} (hd : 5 ≤ d) {σ : MM} {T : Int → Int} {n : Int} {p : Int} {B : BK} (hR : RDF σ T n) (hS : RST σ T n (0, p)) (hB : CB σ 0 B) (hD : DB B) : V yX3_readPage cX3_readPage 3 none d (QZ (fun σ' => RST σ' T n (PGL T n p B).1 ∧ CB σ' 0 (PGL T n p B).2 ∧ OffD σ σ')) 0 [some (vR 1 0), some (vR 3 0), none] [] σ := by
  have hn7 := hR.2.1
  have hT : TOK σ T n p := (hS.2.2.2.1 rfl).1
  have h3p : σ 1 0 3 = -1 := (hS.2.2.2.1 rfl).2
  have hf0 : σ 1 0 2 = 0 := hS.1
  have hp : 0 ≤ p ∧ p ≤ n := hS.2.2.1
  have hTS := TS_in (T := T) hp
  have hTE := TE_in (T := T) hp
  have hW := hD.1
  have hs := hW.s
  have hKp := TK_in T n p
  refine V_aload_1 (pc := 0) dX3_readPage_0 ?_
  refine V_geti (pc := 1) dX3_readPage_1 gf_X3_106 (by omega) hB.s5 ?_
  refine V_iconst (pc := 4) dX3_readPage_4 ?_
  refine V_icmp_lt (pc := 5) 14 dX3_readPage_5 (by decide) (by omega) (by omega) (fun c_5 => ?_) (fun c_5 => ?_)
  · refine V_aload_0 (pc := 14) dX3_readPage_14 ?_
    refine V_callV0z (pc := 15) dX3_readPage_15 kv_X3_37 rc_1 (by omega) (d - 1) (by omega) rfl (c_X3_advance (by omega) hR (by omega) hT.2.2.1) (fun σ_15 h_15 => ?_)
    have hSa := RST_adv hS h_15.2 h_15.1
    have hTa : TOK σ_15 T n (TE T n p) := h_15.1
    have hpa : 0 ≤ TE T n p ∧ TE T n p ≤ n := by omega
    have hEa := TE_in (T := T) hpa
    have hSa2 := TS_in (T := T) hpa
    have hRa := h_15.2.rdf hR
    have hBa := h_15.2.R.CB hB
    have hOa := h_15.2.R.D
    have hd01 := bI_01 (WRD T n (TE T n p) 10)
    refine V_aload_0 (pc := 18) dX3_readPage_18 ?_
    refine V_ldcS (pc := 19) dX3_readPage_19 (i := 10) rfl rfl ?_
    refine V_callV1p (pc := 21) dX3_readPage_21 kv_X3_55 rc_1 (by omega) (d - 1) (by omega) rfl (c_X3_isWord (by omega) hRa (by omega) (by decide) hTa) ?_
    refine V_istore_2 (pc := 24) dX3_readPage_24 ?_
    refine V_iload_2 (pc := 25) dX3_readPage_25 ?_
    refine V_if_eq (pc := 26) 33 dX3_readPage_26 (by decide) (by omega) (fun c_26 => ?_) (fun c_26 => ?_)
    · refine V_aload_1 (pc := 33) dX3_readPage_33 ?_
      refine V_iload_2 (pc := 34) dX3_readPage_34 ?_
      refine V_callV1z (pc := 35) dX3_readPage_35 kv_X3_111 rc_3 (by omega) (d - 1) (by omega) rfl (by first | exact c_X1_addPage (by omega) (by omega) hBb (by omega) hd01 | exact c_X1_addPage (by omega) (by omega) hBa (by omega) hd01) (fun σ_35 h_35 => ?_)
      refine V_vret (pc := 38) dX3_readPage_38 rfl ?_
      have e := PGL_e (T := T) (n := n) (p := p) (B := B) (by omega)
      rw [e]
      first
        | (rw [if_pos (bI_iff.mp (by omega))]; exact ⟨rfl, h_35.2.rst hSb, h_35.1, hOa.tr (h_30.2.R.D.tr h_35.2.D)⟩)
        | (rw [if_neg (fun q => by have := bI_t q; omega)]; exact ⟨rfl, h_35.2.rst hSa, h_35.1, hOa.tr h_35.2.D⟩)
    · refine V_aload_0 (pc := 29) dX3_readPage_29 ?_
      refine V_callV0z (pc := 30) dX3_readPage_30 kv_X3_37 rc_1 (by omega) (d - 1) (by omega) rfl (c_X3_advance (by omega) hRa (by omega) hTa.2.2.1) (fun σ_30 h_30 => ?_)
      have hSb := RST_adv hSa h_30.2 h_30.1
      have hBb := h_30.2.R.CB hBa
      refine V_aload_1 (pc := 33) dX3_readPage_33 ?_
      refine V_iload_2 (pc := 34) dX3_readPage_34 ?_
      refine V_callV1z (pc := 35) dX3_readPage_35 kv_X3_111 rc_3 (by omega) (d - 1) (by omega) rfl (by first | exact c_X1_addPage (by omega) (by omega) hBb (by omega) hd01 | exact c_X1_addPage (by omega) (by omega) hBa (by omega) hd01) (fun σ_35 h_35 => ?_)
      refine V_vret (pc := 38) dX3_readPage_38 rfl ?_
      have e := PGL_e (T := T) (n := n) (p := p) (B := B) (by omega)
      rw [e]
      first
        | (rw [if_pos (bI_iff.mp (by omega))]; exact ⟨rfl, h_35.2.rst hSb, h_35.1, hOa.tr (h_30.2.R.D.tr h_35.2.D)⟩)
        | (rw [if_neg (fun q => by have := bI_t q; omega)]; exact ⟨rfl, h_35.2.rst hSa, h_35.1, hOa.tr h_35.2.D⟩)
  · refine V_aload_0 (pc := 8) dX3_readPage_8 ?_
    refine V_iconst (pc := 9) dX3_readPage_9 ?_
    refine V_callV1z (pc := 10) dX3_readPage_10 kv_X3_44 rc_1 (by omega) (d - 1) (by omega) rfl (c_X3_blame (by omega) (f0 := 0) hf0 (by omega) hT.2.1) (fun σ_10 h_10 => ?_)
    refine V_vret (pc := 13) dX3_readPage_13 rfl ?_
    have e : PGL T n p B = ((3, TS T n p), B) := if_pos (by omega)
    rw [e]
    refine ⟨rfl, ?_⟩
    rw [if_pos rfl] at h_10
    rw [h_10]
    exact ⟨RST_flt (by omega) (by simp [setI_at]) (by simp [setI_at]) (by omega) (by simp [setI_at, hT.1]; omega), ((OffR.set (by omega)).tr (OffR.set (by omega))).CB hB, ((OffR.set (by omega)).tr (OffR.set (by omega))).D⟩

theorem LIN_0 {T : Int → Int} {n p : Int} {B : BK} (h : WRD T n p 0 ↔ 0 < B 0 0) : LIN T n p B = ((1, TS T n p), B) := if_pos h
theorem LIN_1 {T : Int → Int} {n p : Int} {B : BK} (h : ¬ (WRD T n p 0 ↔ 0 < B 0 0)) (h0 : WRD T n p 0) : LIN T n p B = HDL T n p B := by unfold LIN; rw [if_neg h, if_pos h0]
theorem LIN_2 {T : Int → Int} {n p : Int} {B : BK} (h : ¬ (WRD T n p 0 ↔ 0 < B 0 0)) (h0 : ¬ WRD T n p 0) (h1 : WRD T n p 1) : LIN T n p B = INL T n p B := by unfold LIN; rw [if_neg h, if_neg h0, if_pos h1]
theorem LIN_3 {T : Int → Int} {n p : Int} {B : BK} (h : ¬ (WRD T n p 0 ↔ 0 < B 0 0)) (h0 : ¬ WRD T n p 0) (h1 : ¬ WRD T n p 1) (h2 : WRD T n p 2) : LIN T n p B = PGL T n p B := by unfold LIN; rw [if_neg h, if_neg h0, if_neg h1, if_pos h2]
theorem LIN_4 {T : Int → Int} {n p : Int} {B : BK} (h : ¬ (WRD T n p 0 ↔ 0 < B 0 0)) (h0 : ¬ WRD T n p 0) (h1 : ¬ WRD T n p 1) (h2 : ¬ WRD T n p 2) (h3 : WRD T n p 3) : LIN T n p B = ENL T n p B := by unfold LIN; rw [if_neg h, if_neg h0, if_neg h1, if_neg h2, if_pos h3]
theorem LIN_5 {T : Int → Int} {n p : Int} {B : BK} (h : ¬ (WRD T n p 0 ↔ 0 < B 0 0)) (h0 : ¬ WRD T n p 0) (h1 : ¬ WRD T n p 1) (h2 : ¬ WRD T n p 2) (h3 : ¬ WRD T n p 3) : LIN T n p B = ((1, TS T n p), B) := by unfold LIN; rw [if_neg h, if_neg h0, if_neg h1, if_neg h2, if_neg h3]

set_option maxRecDepth 20000 in
set_option maxHeartbeats 1000000 in
theorem c_X3_readLine {d : Nat} (hd : 7 ≤ d) {σ : MM} {T : Int → Int} {n : Int} {p : Int} {B : BK} (hR : RDF σ T n) (hS : RST σ T n (0, p)) (hB : CB σ 0 B) (hD : DB B) : V yX3_readLine cX3_readLine 2 none d (QZ (fun σ' => RST σ' T n (LIN T n p B).1 ∧ CB σ' 0 (LIN T n p B).2 ∧ OffD σ σ')) 0 [some (vR 1 0), some (vR 3 0)] [] σ := by
  have hn7 := hR.2.1
  have hT : TOK σ T n p := (hS.2.2.2.1 rfl).1
  have h3p : σ 1 0 3 = -1 := (hS.2.2.2.1 rfl).2
  have hf0 : σ 1 0 2 = 0 := hS.1
  have hp : 0 ≤ p ∧ p ≤ n := hS.2.2.1
  have hTS := TS_in (T := T) hp
  have hTE := TE_in (T := T) hp
  have hW := hD.1
  have hs := hW.s
  have hKp := TK_in T n p
  have hw01 := bI_01 (WRD T n p 0)
  have hw1 : bI (WRD T n p 0) = 1 ↔ WRD T n p 0 := bI_iff
  have ways : ¬ (WRD T n p 0 ↔ 0 < B 0 0) → V yX3_readLine cX3_readLine 2 none d (QZ (fun σ' => RST σ' T n (LIN T n p B).1 ∧ CB σ' 0 (LIN T n p B).2 ∧ OffD σ σ')) 29 [some (vR 1 0), some (vR 3 0)] [] σ := by
    intro hno
    refine V_aload_0 (pc := 29) dX3_readLine_29 ?_
    refine V_ldcS (pc := 30) dX3_readLine_30 (i := 0) rfl rfl ?_
    refine V_callV1p (pc := 32) dX3_readLine_32 kv_X3_55 rc_1 (by omega) (d - 1) (by omega) rfl (c_X3_isWord (by omega) hR hp (w := 0) (by decide) hT) ?_
    refine V_if_eq_b (pc := 35) 46 dX3_readLine_35 (by decide) (fun c_35 => ?_) (fun c_35 => ?_)
    · refine V_aload_0 (pc := 46) dX3_readLine_46 ?_
      refine V_ldcS (pc := 47) dX3_readLine_47 (i := 1) rfl rfl ?_
      refine V_callV1p (pc := 49) dX3_readLine_49 kv_X3_55 rc_1 (by omega) (d - 1) (by omega) rfl (c_X3_isWord (by omega) hR hp (w := 1) (by decide) hT) ?_
      refine V_if_eq_b (pc := 52) 63 dX3_readLine_52 (by decide) (fun c_52 => ?_) (fun c_52 => ?_)
      · refine V_aload_0 (pc := 63) dX3_readLine_63 ?_
        refine V_ldcS (pc := 64) dX3_readLine_64 (i := 2) rfl rfl ?_
        refine V_callV1p (pc := 66) dX3_readLine_66 kv_X3_55 rc_1 (by omega) (d - 1) (by omega) rfl (c_X3_isWord (by omega) hR hp (w := 2) (by decide) hT) ?_
        refine V_if_eq_b (pc := 69) 80 dX3_readLine_69 (by decide) (fun c_69 => ?_) (fun c_69 => ?_)
        · refine V_aload_0 (pc := 80) dX3_readLine_80 ?_
          refine V_ldcS (pc := 81) dX3_readLine_81 (i := 3) rfl rfl ?_
          refine V_callV1p (pc := 83) dX3_readLine_83 kv_X3_55 rc_1 (by omega) (d - 1) (by omega) rfl (c_X3_isWord (by omega) hR hp (w := 3) (by decide) hT) ?_
          refine V_if_eq_b (pc := 86) 97 dX3_readLine_86 (by decide) (fun c_86 => ?_) (fun c_86 => ?_)
          · refine V_aload_0 (pc := 97) dX3_readLine_97 ?_
            refine V_iconst (pc := 98) dX3_readLine_98 ?_
            refine V_callV1z (pc := 99) dX3_readLine_99 kv_X3_44 rc_1 (by omega) (d - 1) (by omega) rfl (c_X3_blame (by omega) (f0 := 0) hf0 (by omega) hT.2.1) (fun σ_99 h_99 => ?_)
            refine V_vret (pc := 102) dX3_readLine_102 rfl ?_
            first
              | (have e := LIN_1 (T := T) (n := n) (p := p) (B := B) hno c_35
                 rw [e]
                 exact ⟨rfl, h_40⟩)
              | (have e := LIN_2 (T := T) (n := n) (p := p) (B := B) hno c_35 c_52
                 rw [e]
                 exact ⟨rfl, h_57⟩)
              | (have e := LIN_3 (T := T) (n := n) (p := p) (B := B) hno c_35 c_52 c_69
                 rw [e]
                 exact ⟨rfl, h_74⟩)
              | (have e := LIN_4 (T := T) (n := n) (p := p) (B := B) hno c_35 c_52 c_69 c_86
                 rw [e]
                 exact ⟨rfl, h_91⟩)
              | (have e : LIN T n p B = ((1, TS T n p), B) := LIN_5 (T := T) (n := n) (p := p) (B := B) hno c_35 c_52 c_69 c_86
                 rw [e]
                 rw [if_pos rfl] at h_99
                 rw [h_99]
                 exact ⟨rfl, RST_flt (by omega) (by simp [setI_at]) (by simp [setI_at]) (by omega) (by simp [setI_at, hT.1]; omega), ((OffR.set (by omega)).tr (OffR.set (by omega))).CB hB, ((OffR.set (by omega)).tr (OffR.set (by omega))).D⟩)
          · refine V_aload_0 (pc := 89) dX3_readLine_89 ?_
            refine V_aload_1 (pc := 90) dX3_readLine_90 ?_
            refine V_callV1z (pc := 91) dX3_readLine_91 kv_X3_74 rc_1 (by omega) (d - 1) (by omega) rfl (c_X3_readEntry (by omega) hR hS hB hD) (fun σ_91 h_91 => ?_)
            refine V_goto (pc := 94) 102 dX3_readLine_94 (by decide) ?_
            refine V_vret (pc := 102) dX3_readLine_102 rfl ?_
            first
              | (have e := LIN_1 (T := T) (n := n) (p := p) (B := B) hno c_35
                 rw [e]
                 exact ⟨rfl, h_40⟩)
              | (have e := LIN_2 (T := T) (n := n) (p := p) (B := B) hno c_35 c_52
                 rw [e]
                 exact ⟨rfl, h_57⟩)
              | (have e := LIN_3 (T := T) (n := n) (p := p) (B := B) hno c_35 c_52 c_69
                 rw [e]
                 exact ⟨rfl, h_74⟩)
              | (have e := LIN_4 (T := T) (n := n) (p := p) (B := B) hno c_35 c_52 c_69 c_86
                 rw [e]
                 exact ⟨rfl, h_91⟩)
              | (have e : LIN T n p B = ((1, TS T n p), B) := LIN_5 (T := T) (n := n) (p := p) (B := B) hno c_35 c_52 c_69 c_86
                 rw [e]
                 rw [if_pos rfl] at h_99
                 rw [h_99]
                 exact ⟨rfl, RST_flt (by omega) (by simp [setI_at]) (by simp [setI_at]) (by omega) (by simp [setI_at, hT.1]; omega), ((OffR.set (by omega)).tr (OffR.set (by omega))).CB hB, ((OffR.set (by omega)).tr (OffR.set (by omega))).D⟩)
        · refine V_aload_0 (pc := 72) dX3_readLine_72 ?_
          refine V_aload_1 (pc := 73) dX3_readLine_73 ?_
          refine V_callV1z (pc := 74) dX3_readLine_74 kv_X3_69 rc_1 (by omega) (d - 1) (by omega) rfl (c_X3_readPage (by omega) hR hS hB hD) (fun σ_74 h_74 => ?_)
          refine V_goto (pc := 77) 102 dX3_readLine_77 (by decide) ?_
          refine V_vret (pc := 102) dX3_readLine_102 rfl ?_
          first
            | (have e := LIN_1 (T := T) (n := n) (p := p) (B := B) hno c_35
               rw [e]
               exact ⟨rfl, h_40⟩)
            | (have e := LIN_2 (T := T) (n := n) (p := p) (B := B) hno c_35 c_52
               rw [e]
               exact ⟨rfl, h_57⟩)
            | (have e := LIN_3 (T := T) (n := n) (p := p) (B := B) hno c_35 c_52 c_69
               rw [e]
               exact ⟨rfl, h_74⟩)
            | (have e := LIN_4 (T := T) (n := n) (p := p) (B := B) hno c_35 c_52 c_69 c_86
               rw [e]
               exact ⟨rfl, h_91⟩)
            | (have e : LIN T n p B = ((1, TS T n p), B) := LIN_5 (T := T) (n := n) (p := p) (B := B) hno c_35 c_52 c_69 c_86
               rw [e]
               rw [if_pos rfl] at h_99
               rw [h_99]
               exact ⟨rfl, RST_flt (by omega) (by simp [setI_at]) (by simp [setI_at]) (by omega) (by simp [setI_at, hT.1]; omega), ((OffR.set (by omega)).tr (OffR.set (by omega))).CB hB, ((OffR.set (by omega)).tr (OffR.set (by omega))).D⟩)
      · refine V_aload_0 (pc := 55) dX3_readLine_55 ?_
        refine V_aload_1 (pc := 56) dX3_readLine_56 ?_
        refine V_callV1z (pc := 57) dX3_readLine_57 kv_X3_64 rc_1 (by omega) (d - 1) (by omega) rfl (c_X3_readInk (by omega) hR hS hB hD) (fun σ_57 h_57 => ?_)
        refine V_goto (pc := 60) 102 dX3_readLine_60 (by decide) ?_
        refine V_vret (pc := 102) dX3_readLine_102 rfl ?_
        first
          | (have e := LIN_1 (T := T) (n := n) (p := p) (B := B) hno c_35
             rw [e]
             exact ⟨rfl, h_40⟩)
          | (have e := LIN_2 (T := T) (n := n) (p := p) (B := B) hno c_35 c_52
             rw [e]
             exact ⟨rfl, h_57⟩)
          | (have e := LIN_3 (T := T) (n := n) (p := p) (B := B) hno c_35 c_52 c_69
             rw [e]
             exact ⟨rfl, h_74⟩)
          | (have e := LIN_4 (T := T) (n := n) (p := p) (B := B) hno c_35 c_52 c_69 c_86
             rw [e]
             exact ⟨rfl, h_91⟩)
          | (have e : LIN T n p B = ((1, TS T n p), B) := LIN_5 (T := T) (n := n) (p := p) (B := B) hno c_35 c_52 c_69 c_86
             rw [e]
             rw [if_pos rfl] at h_99
             rw [h_99]
             exact ⟨rfl, RST_flt (by omega) (by simp [setI_at]) (by simp [setI_at]) (by omega) (by simp [setI_at, hT.1]; omega), ((OffR.set (by omega)).tr (OffR.set (by omega))).CB hB, ((OffR.set (by omega)).tr (OffR.set (by omega))).D⟩)
    · refine V_aload_0 (pc := 38) dX3_readLine_38 ?_
      refine V_aload_1 (pc := 39) dX3_readLine_39 ?_
      refine V_callV1z (pc := 40) dX3_readLine_40 kv_X3_59 rc_1 (by omega) (d - 1) (by omega) rfl (c_X3_readHead (by omega) hR hS hB hD) (fun σ_40 h_40 => ?_)
      refine V_goto (pc := 43) 102 dX3_readLine_43 (by decide) ?_
      refine V_vret (pc := 102) dX3_readLine_102 rfl ?_
      first
        | (have e := LIN_1 (T := T) (n := n) (p := p) (B := B) hno c_35
           rw [e]
           exact ⟨rfl, h_40⟩)
        | (have e := LIN_2 (T := T) (n := n) (p := p) (B := B) hno c_35 c_52
           rw [e]
           exact ⟨rfl, h_57⟩)
        | (have e := LIN_3 (T := T) (n := n) (p := p) (B := B) hno c_35 c_52 c_69
           rw [e]
           exact ⟨rfl, h_74⟩)
        | (have e := LIN_4 (T := T) (n := n) (p := p) (B := B) hno c_35 c_52 c_69 c_86
           rw [e]
           exact ⟨rfl, h_91⟩)
        | (have e : LIN T n p B = ((1, TS T n p), B) := LIN_5 (T := T) (n := n) (p := p) (B := B) hno c_35 c_52 c_69 c_86
           rw [e]
           rw [if_pos rfl] at h_99
           rw [h_99]
           exact ⟨rfl, RST_flt (by omega) (by simp [setI_at]) (by simp [setI_at]) (by omega) (by simp [setI_at, hT.1]; omega), ((OffR.set (by omega)).tr (OffR.set (by omega))).CB hB, ((OffR.set (by omega)).tr (OffR.set (by omega))).D⟩)
  have blam : (WRD T n p 0 ↔ 0 < B 0 0) → V yX3_readLine cX3_readLine 2 none d (QZ (fun σ' => RST σ' T n (LIN T n p B).1 ∧ CB σ' 0 (LIN T n p B).2 ∧ OffD σ σ')) 21 [some (vR 1 0), some (vR 3 0)] [] σ := by
    intro hye
    refine V_aload_0 (pc := 21) dX3_readLine_21 ?_
    refine V_iconst (pc := 22) dX3_readLine_22 ?_
    refine V_callV1z (pc := 23) dX3_readLine_23 kv_X3_44 rc_1 (by omega) (d - 1) (by omega) rfl (c_X3_blame (by omega) (f0 := 0) hf0 (by omega) hT.2.1) (fun σ_23 h_23 => ?_)
    refine V_goto (pc := 26) 102 dX3_readLine_26 (by decide) ?_
    refine V_vret (pc := 102) dX3_readLine_102 rfl ?_
    have e := LIN_0 (T := T) (n := n) (p := p) (B := B) hye
    rw [e]
    rw [if_pos rfl] at h_23
    rw [h_23]
    exact ⟨rfl, RST_flt (by omega) (by simp [setI_at]) (by simp [setI_at]) (by omega) (by simp [setI_at, hT.1]; omega), ((OffR.set (by omega)).tr (OffR.set (by omega))).CB hB, ((OffR.set (by omega)).tr (OffR.set (by omega))).D⟩
  refine V_aload_0 (pc := 0) dX3_readLine_0 ?_
  refine V_ldcS (pc := 1) dX3_readLine_1 (i := 0) rfl rfl ?_
  refine V_callV1p (pc := 3) dX3_readLine_3 kv_X3_55 rc_1 (by omega) (d - 1) (by omega) rfl (c_X3_isWord (by omega) hR hp (w := 0) (by decide) hT) ?_
  refine V_aload_1 (pc := 6) dX3_readLine_6 ?_
  refine V_geti (pc := 7) dX3_readLine_7 gf_X3_48 (by omega) hB.s0 ?_
  refine V_if_le (pc := 10) 17 dX3_readLine_10 (by decide) (by omega) (fun c_10 => ?_) (fun c_10 => ?_)
  · refine V_iconst (pc := 17) dX3_readLine_17 ?_
    refine V_icmp_ne (pc := 18) 29 dX3_readLine_18 (by decide) (by omega) (by omega) (fun c_18 => ?_) (fun c_18 => ?_)
    · exact ways (by rw [← hw1]; omega)
    · exact blam (by rw [← hw1]; omega)
  · refine V_iconst (pc := 13) dX3_readLine_13 ?_
    refine V_goto (pc := 14) 18 dX3_readLine_14 (by decide) ?_
    refine V_icmp_ne (pc := 18) 29 dX3_readLine_18 (by decide) (by omega) (by omega) (fun c_18 => ?_) (fun c_18 => ?_)
    · exact ways (by rw [← hw1]; omega)
    · exact blam (by rw [← hw1]; omega)

theorem STE_1 {T : Int → Int} {n : Int} {r : (Int × Int) × BK} (h : r.1.1 ≠ 0) : STE T n r = r := if_pos h
theorem STE_2 {T : Int → Int} {n : Int} {r : (Int × Int) × BK} (h : r.1.1 = 0) (h2 : TK T n r.1.2 ≠ 3) : STE T n r = ((1, TS T n r.1.2), r.2) := by unfold STE; rw [if_neg (fun q => q h), if_pos h2]
theorem STE_3 {T : Int → Int} {n : Int} {r : (Int × Int) × BK} (h : r.1.1 = 0) (h2 : TK T n r.1.2 = 3) : STE T n r = ((0, TE T n r.1.2), sB r.2 0 0 (r.2 0 0 + 1)) := by unfold STE; rw [if_neg (fun q => q h), if_neg (fun q => q h2)]
theorem pr0 {s : Int × Int} (h : s.1 = 0) : s = (0, s.2) := by cases s; simp_all

set_option maxRecDepth 20000 in
set_option maxHeartbeats 1000000 in
theorem c_X3_readBook {d : Nat} (hd : 8 ≤ d) {σ : MM} {T : Int → Int} {n : Int} (hR : RDF σ T n) (hB : CB σ 0 zB) : V yX3_readBook cX3_readBook 3 none d (QZ (fun σ' => RST σ' T n (BOK T n).1 ∧ CB σ' 0 (BOK T n).2 ∧ OffD σ σ')) 0 [some (vR 1 0), some (vR 3 0), none] [] σ := by
  have hn7 := hR.2.1
  have loop : ∀ i : Nat, i ≤ 700 → ∀ σi, RST σi T n (RBI T n i).1 → CB σi 0 (RBI T n i).2 → OffD σ σi → V yX3_readBook cX3_readBook 3 none d (QZ (fun σ' => RST σ' T n (BOK T n).1 ∧ CB σ' 0 (BOK T n).2 ∧ OffD σ σ')) 21 [some (vR 1 0), some (vR 3 0), some (vI (i : Int))] [] σi := by
    refine up_ind (P := fun i : Nat => ∀ σi, RST σi T n (RBI T n i).1 → CB σi 0 (RBI T n i).2 → OffD σ σi → V yX3_readBook cX3_readBook 3 none d (QZ (fun σ' => RST σ' T n (BOK T n).1 ∧ CB σ' 0 (BOK T n).2 ∧ OffD σ σ')) 21 [some (vR 1 0), some (vR 3 0), some (vI (i : Int))] [] σi) ?_ ?_
    · generalize hi7 : (700 : Nat) = i
      intro σi hS hB hO
      have h700 := RBI_700 (T := T) hR.2.1
      rw [hi7] at h700
      refine V_iload_2 (pc := 21) dX3_readBook_21 ?_
      refine V_sipush (pc := 22) dX3_readBook_22 (by decide) ?_
      refine V_icmp_ge (pc := 25) 94 dX3_readBook_25 (by decide) (by omega) (by omega) (fun c_25 => ?_) (fun c_25 => ?_)
      · refine V_vret (pc := 94) dX3_readBook_94 rfl ?_
        have e := BOK_at (T := T) (n := n) (k := i) (by omega) h700
        rw [e]
        exact ⟨rfl, hS, hB, hO⟩
      · exact absurd c_25 (by omega)
    · intro i hi ih σi hS hB hO
      have h7 := RBI_in (T := T) hR.2.1 i (by omega)
      have hf3 := hS.2.1
      have hk9 := hS.2.2.2.2.2
      have hRi := hO.rdf hR
      have hW := h7.2.1.1
      have hs := hW.s
      refine V_iload_2 (pc := 21) dX3_readBook_21 ?_
      refine V_sipush (pc := 22) dX3_readBook_22 (by decide) ?_
      refine V_icmp_ge (pc := 25) 94 dX3_readBook_25 (by decide) (by omega) (by omega) (fun c_25 => ?_) (fun c_25 => ?_)
      · exact absurd c_25 (by omega)
      · refine V_aload_0 (pc := 28) dX3_readBook_28 ?_
        refine V_geti (pc := 29) dX3_readBook_29 gf_X3_25 (by omega) (v := σi 1 0 4) rfl ?_
        refine V_if_eq (pc := 32) 94 dX3_readBook_32 (by decide) (by omega) (fun c_32 => ?_) (fun c_32 => ?_)
        · by_cases q0 : (RBI T n i).1.1 = 0
          · have e := BOK_at (T := T) (n := n) (k := i) (by omega) (Or.inr ((hS.2.2.2.1 q0).1.1.symm.trans c_32))
            refine V_vret (pc := 94) dX3_readBook_94 rfl ?_
            rw [e]
            exact ⟨rfl, hS, hB, hO⟩
          · have e := BOK_at (T := T) (n := n) (k := i) (by omega) (Or.inl q0)
            refine V_vret (pc := 94) dX3_readBook_94 rfl ?_
            rw [e]
            exact ⟨rfl, hS, hB, hO⟩
        · refine V_aload_0 (pc := 35) dX3_readBook_35 ?_
          refine V_geti (pc := 36) dX3_readBook_36 gf_X3_19 (by omega) hS.1 ?_
          refine V_if_ne (pc := 39) 94 dX3_readBook_39 (by decide) (by omega) (fun c_39 => ?_) (fun c_39 => ?_)
          · have e := BOK_at (T := T) (n := n) (k := i) (by omega) (Or.inl c_39)
            refine V_vret (pc := 94) dX3_readBook_94 rfl ?_
            rw [e]
            exact ⟨rfl, hS, hB, hO⟩
          · have hz0 : (RBI T n i).1.1 = 0 := c_39
            have hkz : TK T n (RBI T n i).1.2 ≠ 0 := fun q => c_32 ((hS.2.2.2.1 hz0).1.1.trans q)
            refine V_aload_0 (pc := 42) dX3_readBook_42 ?_
            refine V_aload_1 (pc := 43) dX3_readBook_43 ?_
            refine V_callV1z (pc := 44) dX3_readBook_44 kv_X3_40 rc_1 (by omega) (d - 1) (by omega) rfl (c_X3_readLine (by omega) hRi (by rw [← pr0 hz0]; exact hS) hB h7.2.1) (fun σ_44 h_44 => ?_)
            obtain ⟨hSl, hBl, hOl⟩ := h_44
            have hRl := (hO.tr hOl).rdf hR
            have hLi := LIN_in (T := T) (n := n) (p := (RBI T n i).1.2) (B := (RBI T n i).2) h7.1.2 h7.2.1
            have hLs := TS_in (T := T) (n := n) (i := (LIN T n (RBI T n i).1.2 (RBI T n i).2).1.2) hLi.1.2
            have hLe := TE_in (T := T) (n := n) (i := (LIN T n (RBI T n i).1.2 (RBI T n i).2).1.2) hLi.1.2
            have hLk := TK_in T n (LIN T n (RBI T n i).1.2 (RBI T n i).2).1.2
            refine V_aload_0 (pc := 47) dX3_readBook_47 ?_
            refine V_geti (pc := 48) dX3_readBook_48 gf_X3_19 (by omega) hSl.1 ?_
            refine V_if_ne (pc := 51) 67 dX3_readBook_51 (by decide) (by omega) (fun c_51 => ?_) (fun c_51 => ?_)
            · refine V_aload_0 (pc := 67) dX3_readBook_67 ?_
              refine V_geti (pc := 68) dX3_readBook_68 gf_X3_19 (by omega) hSl.1 ?_
              refine V_if_ne (pc := 71) 88 dX3_readBook_71 (by decide) (by omega) (fun c_71 => ?_) (fun c_71 => ?_)
              · refine V_iinc_2 (pc := 88) dX3_readBook_88 ?_
                refine V_goto (pc := 91) 21 dX3_readBook_91 (by decide) ?_
                have e9 := (RBI_go hz0 hkz).trans (STE_1 c_51)
                refine V.sub (by simp only [subL, Option.some.injEq, Sum.inl.injEq, reduceCtorEq, true_or, or_true, false_or, true_and, and_true]; omega) (ih _ ?_ ?_ ?_)
                · rw [e9]; exact hSl
                · rw [e9]; exact hBl
                · exact hO.tr hOl
              · exact absurd c_71 (by omega)
            · refine V_aload_0 (pc := 54) dX3_readBook_54 ?_
              refine V_geti (pc := 55) dX3_readBook_55 gf_X3_25 (by omega) (hSl.2.2.2.1 c_51).1.1 ?_
              refine V_iconst (pc := 58) dX3_readBook_58 ?_
              refine V_icmp_eq (pc := 59) 67 dX3_readBook_59 (by decide) (by omega) (by omega) (fun c_59 => ?_) (fun c_59 => ?_)
              · refine V_aload_0 (pc := 67) dX3_readBook_67 ?_
                refine V_geti (pc := 68) dX3_readBook_68 gf_X3_19 (by omega) (hSl.1.trans c_51) ?_
                refine V_if_ne (pc := 71) 88 dX3_readBook_71 (by decide) (by omega) (fun c_71 => ?_) (fun c_71 => ?_)
                · exact absurd c_71 (by omega)
                · refine V_aload_1 (pc := 74) dX3_readBook_74 ?_
                  refine V_dup (pc := 75) dX3_readBook_75 rfl ?_
                  refine V_geti (pc := 76) dX3_readBook_76 gf_X3_48 (by omega) hBl.s0 ?_
                  refine V_iconst (pc := 79) dX3_readBook_79 ?_
                  refine V_iadd (pc := 80) dX3_readBook_80 ?_
                  refine V_puti (pc := 81) dX3_readBook_81 gf_X3_48 (by omega) ?_
                  refine V_aload_0 (pc := 84) dX3_readBook_84 ?_
                  refine V_callV0z (pc := 85) dX3_readBook_85 kv_X3_37 rc_1 (by omega) (d - 1) (by omega) rfl (c_X3_advance (by omega) ((OffD.set (t := 3) (z := 0) (v := (LIN T n (RBI T n i).1.2 (RBI T n i).2).2 0 0 + 1) (by decide)).rdf hRl) (by omega) (hSl.2.2.2.1 c_51).1.2.2.1) (fun σ_85 h_85 => ?_)
                  refine V_iinc_2 (pc := 88) dX3_readBook_88 ?_
                  refine V_goto (pc := 91) 21 dX3_readBook_91 (by decide) ?_
                  have e9 := (RBI_go hz0 hkz).trans (STE_3 c_51 c_59)
                  refine V.sub (by simp only [subL, Option.some.injEq, Sum.inl.injEq, reduceCtorEq, true_or, or_true, false_or, true_and, and_true]; omega) (ih _ ?_ ?_ ?_)
                  · rw [e9]; exact RST_adv (p := (LIN T n (RBI T n i).1.2 (RBI T n i).2).1.2) ((show RST σ_44 T n (0, (LIN T n (RBI T n i).1.2 (RBI T n i).2).1.2) from by rw [← pr0 c_51]; exact hSl).same (setI_tag (by decide))) h_85.2 h_85.1
                  · rw [e9]; exact h_85.2.R.CB (CB_put3 (j := 0) (z := 0) rfl (by decide) hBl)
                  · exact hO.tr (hOl.tr ((OffD.set (t := 3) (by decide)).tr h_85.2.R.D))
              · refine V_aload_0 (pc := 62) dX3_readBook_62 ?_
                refine V_iconst (pc := 63) dX3_readBook_63 ?_
                refine V_callV1z (pc := 64) dX3_readBook_64 kv_X3_44 rc_1 (by omega) (d - 1) (by omega) rfl (c_X3_blame (by omega) (f0 := 0) (hSl.1.trans c_51) (by omega) (hSl.2.2.2.1 c_51).1.2.1) (fun σ_64 h_64 => ?_)
                rw [if_pos rfl] at h_64
                subst h_64
                refine V_aload_0 (pc := 67) dX3_readBook_67 ?_
                refine V_geti (pc := 68) dX3_readBook_68 gf_X3_19 (by omega) (v := 1) (by simp [setI_at]) ?_
                refine V_if_ne (pc := 71) 88 dX3_readBook_71 (by decide) (by omega) (fun c_71 => ?_) (fun c_71 => ?_)
                · refine V_iinc_2 (pc := 88) dX3_readBook_88 ?_
                  refine V_goto (pc := 91) 21 dX3_readBook_91 (by decide) ?_
                  have e9 := (RBI_go hz0 hkz).trans (STE_2 c_51 c_59)
                  refine V.sub (by simp only [subL, Option.some.injEq, Sum.inl.injEq, reduceCtorEq, true_or, or_true, false_or, true_and, and_true]; omega) (ih _ ?_ ?_ ?_)
                  · rw [e9]; exact RST_flt (by omega) (by simp [setI_at]) (by simp [setI_at]) (by omega) (by simp [setI_at, (hSl.2.2.2.1 c_51).1.1]; omega)
                  · rw [e9]; exact ((OffR.set (by omega)).tr (OffR.set (by omega))).CB hBl
                  · exact hO.tr (hOl.tr ((OffR.set (by omega)).tr (OffR.set (by omega))).D)
                · exact absurd c_71 (by omega)
  refine V_aload_0 (pc := 0) dX3_readBook_0 ?_
  refine V_iconst (pc := 1) dX3_readBook_1 ?_
  refine V_puti (pc := 2) dX3_readBook_2 gf_X3_19 (by omega) ?_
  refine V_aload_0 (pc := 5) dX3_readBook_5 ?_
  refine V_iconst (pc := 6) dX3_readBook_6 ?_
  refine V_puti (pc := 7) dX3_readBook_7 gf_X3_22 (by omega) ?_
  refine V_aload_0 (pc := 10) dX3_readBook_10 ?_
  refine V_iconst (pc := 11) dX3_readBook_11 ?_
  refine V_puti (pc := 12) dX3_readBook_12 gf_X3_31 (by omega) ?_
  refine V_aload_0 (pc := 15) dX3_readBook_15 ?_
  refine V_callV0z (pc := 16) dX3_readBook_16 kv_X3_37 rc_1 (by omega) (d - 1) (by omega) rfl (c_X3_advance (by omega) (i0 := 0) (((OffR.set (by omega)).tr ((OffR.set (by omega)).tr (OffR.set (by omega)))).rdf hR) (by omega) (by simp [setI_at])) (fun σ_16 h_16 => ?_)
  refine V_iconst (pc := 19) dX3_readBook_19 ?_
  refine V_istore_2 (pc := 20) dX3_readBook_20 ?_
  refine loop 0 (by omega) _ ?_ ?_ ?_
  · exact RST_tok (by rw [h_16.2 1 0 2 (by omega)]; simp [setI_at]) (by rw [h_16.2 1 0 3 (by omega)]; simp [setI_at]) ⟨Int.le_refl 0, hn7.1⟩ h_16.1
  · exact h_16.2.R.CB (((OffR.set (by omega)).tr ((OffR.set (by omega)).tr (OffR.set (by omega)))).CB hB)
  · exact (((OffR.set (by omega)).tr ((OffR.set (by omega)).tr (OffR.set (by omega)))).tr h_16.2.R).D
