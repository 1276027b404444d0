set_option maxRecDepth 20000 in
set_option maxHeartbeats 1000000 in
theorem c_X5_kinds {d : Nat} (hd : 6 ≤ d) {σ : MM} {B : BK} {Z : Nat → Int → Int → Int} {s e : Int} (hB : CB σ 1 B) (hG : GB B) (hZ : ZR σ Z) (hs0 : IR s) (he : IR e) : V yX5_kinds cX5_kinds 6 (some .int) d (QI (fun v σ' => v = q_kinds B Z s e ∧ Keep σ σ')) 0 [some (vR 0 0), some (vI s), some (vI e), none, none, none] [] σ := by
  have hW := hG.w
  have hs := hW.s
  have hR9 := RFS_in B Z s
  have loop : (((0 ≤ s ∧ s < 4) ∧ B 0 0 ≠ 0 ∧ Z 0 s 0 ≠ 0 ∧ SND B Z s) ∧ (0 ≤ e ∧ e < B 6 0)) → ∀ i : Nat, i ≤ (B 4 0).toNat → ∀ σi : MM, ((∃ v0 : Int, CB σi 2 (sB B 12 e v0)) ∧ Keep σ σi) → V yX5_kinds cX5_kinds 6 (some .int) d (QI (fun v σ' => v = q_kinds B Z s e ∧ Keep σ σ')) 42 [some (vR 0 0), some (vI s), some (vI e), none, some (vI (bsN (fun i => bI (FIT (sB B 12 e i) (bt 0) Z s)) i)), some (vI (i : Int))] [] σi := by
    intro hR
    have hR0 := hR.1
    have he0 := hR.2
    have hRS : RFS B Z s = 0 := by unfold RFS; rw [if_neg (by omega), if_neg hR0.2.2.1, if_pos hR0.2.2.2]
    refine up_ind (P := fun i : Nat => ∀ σi : MM, ((∃ v0 : Int, CB σi 2 (sB B 12 e v0)) ∧ Keep σ σi) → V yX5_kinds cX5_kinds 6 (some .int) d (QI (fun v σ' => v = q_kinds B Z s e ∧ Keep σ σ')) 42 [some (vR 0 0), some (vI s), some (vI e), none, some (vI (bsN (fun i => bI (FIT (sB B 12 e i) (bt 0) Z s)) i)), some (vI (i : Int))] [] σi) ?_ ?_
    · intro σi hI
      have hNi := hI.2.CB (Or.inl rfl) hB
      refine V_iload_5 (pc := 42) dX5_kinds_42 ?_
      refine V_aload_0 (pc := 44) dX5_kinds_44 ?_
      refine V_getc (pc := 45) dX5_kinds_45 gf_X5_23 (by omega) ?_
      refine V_geti (pc := 48) dX5_kinds_48 gf_X5_242 (by omega) hNi.s4 ?_
      refine V_icmp_ge (pc := 51) 105 dX5_kinds_51 (by decide) (by omega) (by omega) (fun c_51 => ?_) (fun c_51 => ?_)
      · refine V_iload_4 (pc := 105) dX5_kinds_105 ?_
        refine V_iretI (pc := 107) dX5_kinds_107 rfl ?_
        exact ⟨_, rfl, by unfold q_kinds; rw [if_neg (by omega), if_neg (by omega)], hI.2⟩
      · exact absurd c_51 (by omega)
    · intro i hi ih σi hI
      have hNi := hI.2.CB (Or.inl rfl) hB
      obtain ⟨⟨v0, hX⟩, hI2⟩ := hI
      have hT := CB_put (k := e) (v := (i : Int)) hX (Or.inr (Or.inr (Or.inr (Or.inl ⟨rfl, rfl, rfl⟩))))
      rw [sB_sB] at hT
      have hWT : WB (sB B 12 e i) := WB_ik hW (by omega)
      have hSN : SND (sB B 12 e i) Z s := SND_cong rfl rfl hR0.2.2.2
      have h11 : Z 0 s 0 = 1 := by have := (hZ s hR0.1).2.1; have := hR0.2.2.1; omega
      have hb := bsI_in (fun i => FIT (sB B 12 e i) (bt 0) Z s) i
      have hS := bsN_S (fun i => bI (FIT (sB B 12 e i) (bt 0) Z s)) i
      refine V_iload_5 (pc := 42) dX5_kinds_42 ?_
      refine V_aload_0 (pc := 44) dX5_kinds_44 ?_
      refine V_getc (pc := 45) dX5_kinds_45 gf_X5_23 (by omega) ?_
      refine V_geti (pc := 48) dX5_kinds_48 gf_X5_242 (by omega) hNi.s4 ?_
      refine V_icmp_ge (pc := 51) 105 dX5_kinds_51 (by decide) (by omega) (by omega) (fun c_51 => ?_) (fun c_51 => ?_)
      · exact absurd c_51 (by omega)
      · refine V_aload_0 (pc := 54) dX5_kinds_54 ?_
        refine V_getc (pc := 55) dX5_kinds_55 gf_X5_26 (by omega) ?_
        refine V_gets (pc := 58) dX5_kinds_58 gf_X5_131 (by omega) ?_
        refine V_iload_2 (pc := 61) dX5_kinds_61 ?_
        refine V_iload_5 (pc := 62) dX5_kinds_62 ?_
        refine V_iast (pc := 64) dX5_kinds_64 sh_9 (by omega) (by omega) ?_
        refine V_aload_0 (pc := 65) dX5_kinds_65 ?_
        refine V_getc (pc := 66) dX5_kinds_66 gf_X5_36 (by omega) ?_
        refine V_aload_0 (pc := 69) dX5_kinds_69 ?_
        refine V_getc (pc := 70) dX5_kinds_70 gf_X5_26 (by omega) ?_
        refine V_iconst (pc := 73) dX5_kinds_73 ?_
        refine V_callV2z (pc := 74) dX5_kinds_74 kv_X5_99 rc_18 (by omega) (d - 1) (by omega) rfl (c_X2_follow (by omega) (by omega) (by omega) hT hWT (by omega)) (fun σ_74 h_74 => ?_)
        refine V_aload_0 (pc := 77) dX5_kinds_77 ?_
        refine V_aload_0 (pc := 78) dX5_kinds_78 ?_
        refine V_getc (pc := 79) dX5_kinds_79 gf_X5_49 (by omega) ?_
        refine V_iload_1 (pc := 82) dX5_kinds_82 ?_
        refine V_aald_26 (pc := 83) dX5_kinds_83 (by omega) (by omega) ?_
        refine V_callV1p (pc := 84) dX5_kinds_84 kv_X5_245 rc_0 (by omega) (d - 1) (by omega) rfl (c_X5_fits (by omega) (B := sB B 12 e i) (r := 0) hWT.s h_74.1 hWT hSN (((hI2.tr ((Keep.set (t := 9) (k := 2) (by decide)).tr h_74.2.keep))).zr hZ) (by omega) h11) ?_
        refine V_if_eq_b (pc := 87) 99 dX5_kinds_87 (by decide) (fun c_87 => ?_) (fun c_87 => ?_)
        · refine V_iinc_5 (pc := 99) dX5_kinds_99 ?_
          refine V_goto (pc := 102) 42 dX5_kinds_102 (by decide) ?_
          refine V.sub (by simp only [subL, Option.some.injEq, Sum.inl.injEq, Sum.inr.injEq, reduceCtorEq, true_or, or_true, false_or, true_and, and_true]; rw [hS, bI_f c_87]; refine ⟨?_, by omega⟩; omega) (ih _ ⟨⟨_, h_74.2.CB hT⟩, (hI2.tr ((Keep.set (t := 9) (k := 2) (by decide)).tr h_74.2.keep))⟩)
        · refine V_iload_4 (pc := 90) dX5_kinds_90 ?_
          refine V_iconst (pc := 92) dX5_kinds_92 ?_
          refine V_iload_5 (pc := 93) dX5_kinds_93 ?_
          refine V_ishl_1 (pc := 95) dX5_kinds_95 (by omega) ?_
          refine V_ior_add (pc := 96) dX5_kinds_96 (by assumption) ?_
          refine V_istore_4 (pc := 97) dX5_kinds_97 ?_
          refine V_iinc_5 (pc := 99) dX5_kinds_99 ?_
          refine V_goto (pc := 102) 42 dX5_kinds_102 (by decide) ?_
          refine V.sub (by simp only [subL, Option.some.injEq, Sum.inl.injEq, Sum.inr.injEq, reduceCtorEq, true_or, or_true, false_or, true_and, and_true]; rw [hS, bI_t c_87]; refine ⟨?_, by omega⟩; omega) (ih _ ⟨⟨_, h_74.2.CB hT⟩, (hI2.tr ((Keep.set (t := 9) (k := 2) (by decide)).tr h_74.2.keep))⟩)
  refine V_aload_0 (pc := 0) dX5_kinds_0 ?_
  refine V_iload_2 (pc := 1) dX5_kinds_1 ?_
  refine V_callV1p (pc := 2) dX5_kinds_2 kv_X5_125 rc_0 (by omega) (d - 1) (by omega) rfl (c_X5_noEntry (by omega) hB hs (by omega)) ?_
  refine V_if_eq_b (pc := 5) 13 dX5_kinds_5 (by decide) (fun c_5 => ?_) (fun c_5 => ?_)
  · refine V_aload_0 (pc := 13) dX5_kinds_13 ?_
    refine V_iload_1 (pc := 14) dX5_kinds_14 ?_
    refine V_callV1p (pc := 15) dX5_kinds_15 kv_X5_222 rc_0 (by omega) (d - 1) (by omega) rfl (c_X5_refusedSeen (by omega) hB hW hZ (by omega)) ?_
    refine V_istore_3 (pc := 18) dX5_kinds_18 ?_
    refine V_iload_3 (pc := 19) dX5_kinds_19 ?_
    refine V_if_eq (pc := 20) 25 dX5_kinds_20 (by decide) (by omega) (fun c_20 => ?_) (fun c_20 => ?_)
    · refine V_iconst (pc := 25) dX5_kinds_25 ?_
      refine V_istore_4 (pc := 26) dX5_kinds_26 ?_
      refine V_aload_0 (pc := 28) dX5_kinds_28 ?_
      refine V_getc (pc := 29) dX5_kinds_29 gf_X5_26 (by omega) ?_
      refine V_aload_0 (pc := 32) dX5_kinds_32 ?_
      refine V_getc (pc := 33) dX5_kinds_33 gf_X5_23 (by omega) ?_
      refine V_callV1z (pc := 36) dX5_kinds_36 kv_X5_96 rc_3 (by omega) (d - 1) (by omega) rfl (c_X1_copyFrom (by omega) (by omega) (by omega) (by omega) hB hs) (fun σ_36 h_36 => ?_)
      refine V_iconst (pc := 39) dX5_kinds_39 ?_
      refine V_istore_5 (pc := 40) dX5_kinds_40 ?_
      first | exact absurd c_20 (by omega) | refine V.sub (by simp only [subL, Option.some.injEq, Sum.inl.injEq, Sum.inr.injEq, reduceCtorEq, true_or, or_true, false_or, true_and, and_true]; exact ⟨rfl, rfl⟩) (loop ⟨RFS_0 c_20, by omega⟩ 0 (by omega) _ ⟨⟨_, by rw [sB_id]; exact h_36.1⟩, h_36.2.keep (Or.inl rfl)⟩)
    · refine V_iload_3 (pc := 23) dX5_kinds_23 ?_
      refine V_iretI (pc := 24) dX5_kinds_24 rfl ?_
      first | exact ⟨_, rfl, by unfold q_kinds; rw [if_pos (by omega)], Keep.rf⟩ | exact ⟨_, rfl, by unfold q_kinds; rw [if_neg (by omega), if_pos (by omega)], Keep.rf⟩
  · refine V_bipush (pc := 8) dX5_kinds_8 (by decide) ?_
    refine V_goto (pc := 10) 18 dX5_kinds_10 (by decide) ?_
    refine V_istore_3 (pc := 18) dX5_kinds_18 ?_
    refine V_iload_3 (pc := 19) dX5_kinds_19 ?_
    refine V_if_eq (pc := 20) 25 dX5_kinds_20 (by decide) (by omega) (fun c_20 => ?_) (fun c_20 => ?_)
    · refine V_iconst (pc := 25) dX5_kinds_25 ?_
      refine V_istore_4 (pc := 26) dX5_kinds_26 ?_
      refine V_aload_0 (pc := 28) dX5_kinds_28 ?_
      refine V_getc (pc := 29) dX5_kinds_29 gf_X5_26 (by omega) ?_
      refine V_aload_0 (pc := 32) dX5_kinds_32 ?_
      refine V_getc (pc := 33) dX5_kinds_33 gf_X5_23 (by omega) ?_
      refine V_callV1z (pc := 36) dX5_kinds_36 kv_X5_96 rc_3 (by omega) (d - 1) (by omega) rfl (c_X1_copyFrom (by omega) (by omega) (by omega) (by omega) hB hs) (fun σ_36 h_36 => ?_)
      refine V_iconst (pc := 39) dX5_kinds_39 ?_
      refine V_istore_5 (pc := 40) dX5_kinds_40 ?_
      first | exact absurd c_20 (by omega) | refine V.sub (by simp only [subL, Option.some.injEq, Sum.inl.injEq, Sum.inr.injEq, reduceCtorEq, true_or, or_true, false_or, true_and, and_true]; exact ⟨rfl, rfl⟩) (loop ⟨RFS_0 c_20, by omega⟩ 0 (by omega) _ ⟨⟨_, by rw [sB_id]; exact h_36.1⟩, h_36.2.keep (Or.inl rfl)⟩)
    · refine V_iload_3 (pc := 23) dX5_kinds_23 ?_
      refine V_iretI (pc := 24) dX5_kinds_24 rfl ?_
      first | exact ⟨_, rfl, by unfold q_kinds; rw [if_pos (by omega)], Keep.rf⟩ | exact ⟨_, rfl, by unfold q_kinds; rw [if_neg (by omega), if_pos (by omega)], Keep.rf⟩

set_option maxRecDepth 20000 in
set_option maxHeartbeats 1000000 in
theorem c_X5_laws {d : Nat} (hd : 6 ≤ d) {σ : MM} {B : BK} {Z : Nat → Int → Int → Int} {s : Int} (hB : CB σ 1 B) (hG : GB B) (hZ : ZR σ Z) (hs0 : IR s) : V yX5_laws cX5_laws 5 (some .int) d (QI (fun v σ' => v = q_laws B Z s ∧ Keep σ σ')) 0 [some (vR 0 0), some (vI s), none, none, none] [] σ := by
  have hW := hG.w
  have hs := hW.s
  have hR9 := RFS_in B Z s
  have loop : (((0 ≤ s ∧ s < 4) ∧ B 0 0 ≠ 0 ∧ Z 0 s 0 ≠ 0 ∧ SND B Z s)) → ∀ i : Nat, i ≤ 4 → ∀ σi : MM, ((∃ v0 : Int, CB σi 2 (sB B 2 0 v0)) ∧ Keep σ σi) → V yX5_laws cX5_laws 5 (some .int) d (QI (fun v σ' => v = q_laws B Z s ∧ Keep σ σ')) 28 [some (vR 0 0), some (vI s), none, some (vI (bsN (fun l => bI (FIT (sB B 2 0 l) (bt 0) Z s)) i)), some (vI (i : Int))] [] σi := by
    intro hR
    have hR0 := hR
    have hRS : RFS B Z s = 0 := by unfold RFS; rw [if_neg (by omega), if_neg hR0.2.2.1, if_pos hR0.2.2.2]
    refine up_ind (P := fun i : Nat => ∀ σi : MM, ((∃ v0 : Int, CB σi 2 (sB B 2 0 v0)) ∧ Keep σ σi) → V yX5_laws cX5_laws 5 (some .int) d (QI (fun v σ' => v = q_laws B Z s ∧ Keep σ σ')) 28 [some (vR 0 0), some (vI s), none, some (vI (bsN (fun l => bI (FIT (sB B 2 0 l) (bt 0) Z s)) i)), some (vI (i : Int))] [] σi) ?_ ?_
    · intro σi hI
      have hNi := hI.2.CB (Or.inl rfl) hB
      refine V_iload_4 (pc := 28) dX5_laws_28 ?_
      refine V_iconst (pc := 30) dX5_laws_30 ?_
      refine V_icmp_ge (pc := 31) 81 dX5_laws_31 (by decide) (by omega) (by omega) (fun c_31 => ?_) (fun c_31 => ?_)
      · refine V_iload_3 (pc := 81) dX5_laws_81 ?_
        refine V_iretI (pc := 82) dX5_laws_82 rfl ?_
        exact ⟨_, rfl, by unfold q_laws; rw [if_neg (by omega)], hI.2⟩
      · exact absurd c_31 (by omega)
    · intro i hi ih σi hI
      have hNi := hI.2.CB (Or.inl rfl) hB
      obtain ⟨⟨v0, hX⟩, hI2⟩ := hI
      have hT := CB_put (k := 2) (v := (i : Int)) hX (Or.inl ⟨rfl, rfl, rfl, rfl⟩)
      rw [sB_sB] at hT
      have hWT : WB (sB B 2 0 i) := WB_law hW (by omega)
      have hSN : SND (sB B 2 0 i) Z s := SND_cong rfl rfl hR0.2.2.2
      have h11 : Z 0 s 0 = 1 := by have := (hZ s hR0.1).2.1; have := hR0.2.2.1; omega
      have hb := bsI_in (fun l => FIT (sB B 2 0 l) (bt 0) Z s) i
      have hS := bsN_S (fun l => bI (FIT (sB B 2 0 l) (bt 0) Z s)) i
      refine V_iload_4 (pc := 28) dX5_laws_28 ?_
      refine V_iconst (pc := 30) dX5_laws_30 ?_
      refine V_icmp_ge (pc := 31) 81 dX5_laws_31 (by decide) (by omega) (by omega) (fun c_31 => ?_) (fun c_31 => ?_)
      · exact absurd c_31 (by omega)
      · refine V_aload_0 (pc := 34) dX5_laws_34 ?_
        refine V_getc (pc := 35) dX5_laws_35 gf_X5_26 (by omega) ?_
        refine V_iload_4 (pc := 38) dX5_laws_38 ?_
        refine V_puti (pc := 40) dX5_laws_40 gf_X5_249 (by omega) ?_
        refine V_aload_0 (pc := 43) dX5_laws_43 ?_
        refine V_getc (pc := 44) dX5_laws_44 gf_X5_36 (by omega) ?_
        refine V_aload_0 (pc := 47) dX5_laws_47 ?_
        refine V_getc (pc := 48) dX5_laws_48 gf_X5_26 (by omega) ?_
        refine V_iconst (pc := 51) dX5_laws_51 ?_
        refine V_callV2z (pc := 52) dX5_laws_52 kv_X5_99 rc_18 (by omega) (d - 1) (by omega) rfl (c_X2_follow (by omega) (by omega) (by omega) hT hWT (by omega)) (fun σ_52 h_52 => ?_)
        refine V_aload_0 (pc := 55) dX5_laws_55 ?_
        refine V_aload_0 (pc := 56) dX5_laws_56 ?_
        refine V_getc (pc := 57) dX5_laws_57 gf_X5_49 (by omega) ?_
        refine V_iload_1 (pc := 60) dX5_laws_60 ?_
        refine V_aald_26 (pc := 61) dX5_laws_61 (by omega) (by omega) ?_
        refine V_callV1p (pc := 62) dX5_laws_62 kv_X5_245 rc_0 (by omega) (d - 1) (by omega) rfl (c_X5_fits (by omega) (B := sB B 2 0 i) (r := 0) hWT.s h_52.1 hWT hSN (((hI2.tr ((Keep.set (t := 3) (k := 2) (by decide)).tr h_52.2.keep))).zr hZ) (by omega) h11) ?_
        refine V_if_eq_b (pc := 65) 75 dX5_laws_65 (by decide) (fun c_65 => ?_) (fun c_65 => ?_)
        · refine V_iinc_4 (pc := 75) dX5_laws_75 ?_
          refine V_goto (pc := 78) 28 dX5_laws_78 (by decide) ?_
          refine V.sub (by simp only [subL, Option.some.injEq, Sum.inl.injEq, Sum.inr.injEq, reduceCtorEq, true_or, or_true, false_or, true_and, and_true]; rw [hS, bI_f c_65]; refine ⟨?_, by omega⟩; omega) (ih _ ⟨⟨_, h_52.2.CB hT⟩, (hI2.tr ((Keep.set (t := 3) (k := 2) (by decide)).tr h_52.2.keep))⟩)
        · refine V_iload_3 (pc := 68) dX5_laws_68 ?_
          refine V_iconst (pc := 69) dX5_laws_69 ?_
          refine V_iload_4 (pc := 70) dX5_laws_70 ?_
          refine V_ishl_1 (pc := 72) dX5_laws_72 (by omega) ?_
          refine V_ior_add (pc := 73) dX5_laws_73 (by assumption) ?_
          refine V_istore_3 (pc := 74) dX5_laws_74 ?_
          refine V_iinc_4 (pc := 75) dX5_laws_75 ?_
          refine V_goto (pc := 78) 28 dX5_laws_78 (by decide) ?_
          refine V.sub (by simp only [subL, Option.some.injEq, Sum.inl.injEq, Sum.inr.injEq, reduceCtorEq, true_or, or_true, false_or, true_and, and_true]; rw [hS, bI_t c_65]; refine ⟨?_, by omega⟩; omega) (ih _ ⟨⟨_, h_52.2.CB hT⟩, (hI2.tr ((Keep.set (t := 3) (k := 2) (by decide)).tr h_52.2.keep))⟩)
  refine V_aload_0 (pc := 0) dX5_laws_0 ?_
  refine V_iload_1 (pc := 1) dX5_laws_1 ?_
  refine V_callV1p (pc := 2) dX5_laws_2 kv_X5_222 rc_0 (by omega) (d - 1) (by omega) rfl (c_X5_refusedSeen (by omega) hB hW hZ (by omega)) ?_
  refine V_istore_2 (pc := 5) dX5_laws_5 ?_
  refine V_iload_2 (pc := 6) dX5_laws_6 ?_
  refine V_if_eq (pc := 7) 12 dX5_laws_7 (by decide) (by omega) (fun c_7 => ?_) (fun c_7 => ?_)
  · refine V_iconst (pc := 12) dX5_laws_12 ?_
    refine V_istore_3 (pc := 13) dX5_laws_13 ?_
    refine V_aload_0 (pc := 14) dX5_laws_14 ?_
    refine V_getc (pc := 15) dX5_laws_15 gf_X5_26 (by omega) ?_
    refine V_aload_0 (pc := 18) dX5_laws_18 ?_
    refine V_getc (pc := 19) dX5_laws_19 gf_X5_23 (by omega) ?_
    refine V_callV1z (pc := 22) dX5_laws_22 kv_X5_96 rc_3 (by omega) (d - 1) (by omega) rfl (c_X1_copyFrom (by omega) (by omega) (by omega) (by omega) hB hs) (fun σ_22 h_22 => ?_)
    refine V_iconst (pc := 25) dX5_laws_25 ?_
    refine V_istore_4 (pc := 26) dX5_laws_26 ?_
    first | exact absurd c_7 (by omega) | refine V.sub (by simp only [subL, Option.some.injEq, Sum.inl.injEq, Sum.inr.injEq, reduceCtorEq, true_or, or_true, false_or, true_and, and_true]; exact ⟨rfl, rfl⟩) (loop (RFS_0 c_7) 0 (by omega) _ ⟨⟨_, by rw [sB_id]; exact h_22.1⟩, h_22.2.keep (Or.inl rfl)⟩)
  · refine V_iload_2 (pc := 10) dX5_laws_10 ?_
    refine V_iretI (pc := 11) dX5_laws_11 rfl ?_
    first | exact ⟨_, rfl, by unfold q_laws; rw [if_pos (by omega)], Keep.rf⟩ | exact ⟨_, rfl, by unfold q_laws; rw [if_neg (by omega), if_pos (by omega)], Keep.rf⟩

set_option maxRecDepth 20000 in
set_option maxHeartbeats 1000000 in
theorem c_X5_fittingYears {d : Nat} (hd : 6 ≤ d) {σ : MM} {B : BK} {Z : Nat → Int → Int → Int} {s e : Int} (hB : CB σ 1 B) (hG : GB B) (hZ : ZR σ Z) (hk : 0 ≤ s ∧ s < 4) (h1 : Z 0 s 0 ≠ 0) (hS0 : SND B Z s) (he : 0 ≤ e ∧ e < B 6 0) : V yX5_fittingYears cX5_fittingYears 6 (some .int) d (QI (fun v σ' => v = FTY B Z s e ∧ SUP σ' B e (B 1 0 + 1) ∧ Keep σ σ')) 0 [some (vR 0 0), some (vI s), some (vI e), none, none, none] [] σ := by
  have hW := hG.w
  have hs := hW.s
  have h11 : Z 0 s 0 = 1 := by have := (hZ s hk).2.1; omega
  have loop : ∀ i : Nat, i ≤ (B 1 0 + 1).toNat → ∀ σi, ((∃ v0 : Int, CB σi 2 (sB B 13 e v0)) ∧ SUP σi B e i ∧ Keep σ σi) → V yX5_fittingYears cX5_fittingYears 6 (some .int) d (QI (fun v σ' => v = FTY B Z s e ∧ SUP σ' B e (B 1 0 + 1) ∧ Keep σ σ')) 16 [some (vR 0 0), some (vI s), some (vI e), some (vI (bsN (fun w => bI (FIT (sB B 13 e w) (bt 0) Z s)) i)), some (vI (i : Int)), none] [] σi := by
    refine up_ind (P := fun i : Nat => ∀ σi, ((∃ v0 : Int, CB σi 2 (sB B 13 e v0)) ∧ SUP σi B e i ∧ Keep σ σi) → V yX5_fittingYears cX5_fittingYears 6 (some .int) d (QI (fun v σ' => v = FTY B Z s e ∧ SUP σ' B e (B 1 0 + 1) ∧ Keep σ σ')) 16 [some (vR 0 0), some (vI s), some (vI e), some (vI (bsN (fun w => bI (FIT (sB B 13 e w) (bt 0) Z s)) i)), some (vI (i : Int)), none] [] σi) ?_ ?_
    · intro σi hI
      have hNi := hI.2.2.CB (Or.inl rfl) hB
      refine V_iload_4 (pc := 16) dX5_fittingYears_16 ?_
      refine V_aload_0 (pc := 18) dX5_fittingYears_18 ?_
      refine V_getc (pc := 19) dX5_fittingYears_19 gf_X5_23 (by omega) ?_
      refine V_geti (pc := 22) dX5_fittingYears_22 gf_X5_175 (by omega) hNi.s1 ?_
      refine V_icmp_gt (pc := 25) 120 dX5_fittingYears_25 (by decide) (by omega) (by omega) (fun c_25 => ?_) (fun c_25 => ?_)
      · refine V_iload_3 (pc := 120) dX5_fittingYears_120 ?_
        refine V_iretI (pc := 121) dX5_fittingYears_121 rfl ?_
        exact ⟨_, rfl, by unfold FTY; rfl, fun w y hw hy => hI.2.1 w y (by omega) hy, hI.2.2⟩
      · exact absurd c_25 (by omega)
    · intro i hi ih σi hI
      have hNi := hI.2.2.CB (Or.inl rfl) hB
      obtain ⟨⟨v0, hX⟩, hI2⟩ := hI
      have hI : True ∧ SUP σi B e i ∧ Keep σ σi := ⟨trivial, hI2⟩
      have hT := CB_put (k := e) (v := (i : Int)) hX (Or.inr (Or.inr (Or.inr (Or.inr (Or.inl ⟨rfl, rfl, rfl⟩)))))
      rw [sB_sB] at hT
      have hWT := WB_wrote (k := e) (v := (i : Int)) hW (by omega)
      have hSN : SND (sB B 13 e i) Z s := SND_cong rfl rfl hS0
      have hb := bsI_in (fun w => FIT (sB B 13 e w) (bt 0) Z s) i
      have hS := bsN_S (fun w => bI (FIT (sB B 13 e w) (bt 0) Z s)) i
      have loop2 : ∀ j : Nat, j ≤ (B 1 0 + 1).toNat → ∀ σj, (CB σj 2 (sB B 13 e i) ∧ CK σj 1 (sB B 13 e i) (bt 0) ∧ SUP σj B e i ∧ Keep σ σj ∧ ∀ y : Int, 0 ≤ y ∧ y < (j : Int) → σj 30 i y = SHD (sB B 13 e i) (bt 0) y e) → V yX5_fittingYears cX5_fittingYears 6 (some .int) d (QI (fun v σ' => v = FTY B Z s e ∧ SUP σ' B e (B 1 0 + 1) ∧ Keep σ σ')) 54 [some (vR 0 0), some (vI s), some (vI e), some (vI (bsN (fun w => bI (FIT (sB B 13 e w) (bt 0) Z s)) i)), some (vI (i : Int)), some (vI (j : Int))] [] σj := by
        refine up_ind (P := fun j : Nat => ∀ σj, (CB σj 2 (sB B 13 e i) ∧ CK σj 1 (sB B 13 e i) (bt 0) ∧ SUP σj B e i ∧ Keep σ σj ∧ ∀ y : Int, 0 ≤ y ∧ y < (j : Int) → σj 30 i y = SHD (sB B 13 e i) (bt 0) y e) → V yX5_fittingYears cX5_fittingYears 6 (some .int) d (QI (fun v σ' => v = FTY B Z s e ∧ SUP σ' B e (B 1 0 + 1) ∧ Keep σ σ')) 54 [some (vR 0 0), some (vI s), some (vI e), some (vI (bsN (fun w => bI (FIT (sB B 13 e w) (bt 0) Z s)) i)), some (vI (i : Int)), some (vI (j : Int))] [] σj) ?_ ?_
        · intro σj hJ
          have hNj := hJ.2.2.2.1.CB (Or.inl rfl) hB
          refine V_iload_5 (pc := 54) dX5_fittingYears_54 ?_
          refine V_aload_0 (pc := 56) dX5_fittingYears_56 ?_
          refine V_getc (pc := 57) dX5_fittingYears_57 gf_X5_23 (by omega) ?_
          refine V_geti (pc := 60) dX5_fittingYears_60 gf_X5_175 (by omega) hNj.s1 ?_
          refine V_icmp_gt (pc := 63) 94 dX5_fittingYears_63 (by decide) (by omega) (by omega) (fun c_63 => ?_) (fun c_63 => ?_)
          · refine V_aload_0 (pc := 94) dX5_fittingYears_94 ?_
            refine V_aload_0 (pc := 95) dX5_fittingYears_95 ?_
            refine V_getc (pc := 96) dX5_fittingYears_96 gf_X5_49 (by omega) ?_
            refine V_iload_1 (pc := 99) dX5_fittingYears_99 ?_
            refine V_aald_26 (pc := 100) dX5_fittingYears_100 (by omega) (by omega) ?_
            refine V_callV1p (pc := 101) dX5_fittingYears_101 kv_X5_245 rc_0 (by omega) (d - 1) (by omega) rfl (c_X5_fits (by omega) (B := sB B 13 e i) (r := 0) hWT.s hJ.2.1 hWT hSN (hJ.2.2.2.1.zr hZ) (by omega) h11) ?_
            refine V_if_eq_b (pc := 104) 114 dX5_fittingYears_104 (by decide) (fun c_104 => ?_) (fun c_104 => ?_)
            · refine V_iinc_4 (pc := 114) dX5_fittingYears_114 ?_
              refine V_goto (pc := 117) 16 dX5_fittingYears_117 (by decide) ?_
              refine V.sub (by simp only [subL, Option.some.injEq, Sum.inl.injEq, Sum.inr.injEq, reduceCtorEq, true_or, or_true, false_or, true_and, and_true]; first | (rw [hS, bI_t c_104]; refine ⟨?_, by omega⟩; omega) | (rw [hS, bI_f c_104]; refine ⟨?_, by omega⟩; omega)) (ih _ ⟨⟨_, hJ.1⟩, fun w y hw hy => ?_, hJ.2.2.2.1⟩)
              by_cases q : w = i
              · subst q; exact hJ.2.2.2.2 y (by omega)
              · exact hJ.2.2.1 w y (by omega) hy
            · refine V_iload_3 (pc := 107) dX5_fittingYears_107 ?_
              refine V_iconst (pc := 108) dX5_fittingYears_108 ?_
              refine V_iload_4 (pc := 109) dX5_fittingYears_109 ?_
              refine V_ishl_1 (pc := 111) dX5_fittingYears_111 (by omega) ?_
              refine V_ior_add (pc := 112) dX5_fittingYears_112 (by assumption) ?_
              refine V_istore_3 (pc := 113) dX5_fittingYears_113 ?_
              refine V_iinc_4 (pc := 114) dX5_fittingYears_114 ?_
              refine V_goto (pc := 117) 16 dX5_fittingYears_117 (by decide) ?_
              refine V.sub (by simp only [subL, Option.some.injEq, Sum.inl.injEq, Sum.inr.injEq, reduceCtorEq, true_or, or_true, false_or, true_and, and_true]; first | (rw [hS, bI_t c_104]; refine ⟨?_, by omega⟩; omega) | (rw [hS, bI_f c_104]; refine ⟨?_, by omega⟩; omega)) (ih _ ⟨⟨_, hJ.1⟩, fun w y hw hy => ?_, hJ.2.2.2.1⟩)
              by_cases q : w = i
              · subst q; exact hJ.2.2.2.2 y (by omega)
              · exact hJ.2.2.1 w y (by omega) hy
          · exact absurd c_63 (by omega)
        · intro j hj ih2 σj hJ
          have hNj := hJ.2.2.2.1.CB (Or.inl rfl) hB
          refine V_iload_5 (pc := 54) dX5_fittingYears_54 ?_
          refine V_aload_0 (pc := 56) dX5_fittingYears_56 ?_
          refine V_getc (pc := 57) dX5_fittingYears_57 gf_X5_23 (by omega) ?_
          refine V_geti (pc := 60) dX5_fittingYears_60 gf_X5_175 (by omega) hNj.s1 ?_
          refine V_icmp_gt (pc := 63) 94 dX5_fittingYears_63 (by decide) (by omega) (by omega) (fun c_63 => ?_) (fun c_63 => ?_)
          · exact absurd c_63 (by omega)
          · refine V_aload_0 (pc := 66) dX5_fittingYears_66 ?_
            refine V_getc (pc := 67) dX5_fittingYears_67 gf_X5_55 (by omega) ?_
            refine V_iload_4 (pc := 70) dX5_fittingYears_70 ?_
            refine V_aald_29 (pc := 72) dX5_fittingYears_72 (by omega) (by omega) ?_
            refine V_iload_5 (pc := 73) dX5_fittingYears_73 ?_
            refine V_aload_0 (pc := 75) dX5_fittingYears_75 ?_
            refine V_getc (pc := 76) dX5_fittingYears_76 gf_X5_36 (by omega) ?_
            refine V_gets (pc := 79) dX5_fittingYears_79 gf_X5_169 (by omega) ?_
            refine V_iload_5 (pc := 82) dX5_fittingYears_82 ?_
            refine V_aald_19 (pc := 84) dX5_fittingYears_84 (by omega) (by omega) ?_
            refine V_iload_2 (pc := 85) dX5_fittingYears_85 ?_
            refine V_iald (pc := 86) dX5_fittingYears_86 sh_22 (by omega) (by omega) (hJ.2.1.sh (y := (j : Int)) (e := e) (by show 0 ≤ (j : Int) ∧ (j : Int) ≤ B 1 0; omega) he) ?_
            refine V_iast (pc := 87) dX5_fittingYears_87 sh_30 (by omega) (by omega) ?_
            refine V_iinc_5 (pc := 88) dX5_fittingYears_88 ?_
            refine V_goto (pc := 91) 54 dX5_fittingYears_91 (by decide) ?_
            refine V.sub (by simp only [subL, Option.some.injEq, Sum.inl.injEq, reduceCtorEq, true_or, or_true, false_or, true_and, and_true]; omega) (ih2 _ ⟨hJ.1.cong (fun t ht => by rw [setI_tag (by omega)]), hJ.2.1, fun w y hw hy => ?_, hJ.2.2.2.1.tr (Keep.set (t := 30) (by unfold SCR; omega)), fun y hy => ?_⟩)
            · have q : ¬ w = i := by omega
              simp only [setI_at, q, false_and, and_false, if_false]
              exact hJ.2.2.1 w y hw hy
            · by_cases q : y = j
              · subst q; simp [setI_at]
              · simp only [setI_at, q, and_false, if_false]
                exact hJ.2.2.2.2 y (by omega)
      refine V_iload_4 (pc := 16) dX5_fittingYears_16 ?_
      refine V_aload_0 (pc := 18) dX5_fittingYears_18 ?_
      refine V_getc (pc := 19) dX5_fittingYears_19 gf_X5_23 (by omega) ?_
      refine V_geti (pc := 22) dX5_fittingYears_22 gf_X5_175 (by omega) hNi.s1 ?_
      refine V_icmp_gt (pc := 25) 120 dX5_fittingYears_25 (by decide) (by omega) (by omega) (fun c_25 => ?_) (fun c_25 => ?_)
      · exact absurd c_25 (by omega)
      · refine V_aload_0 (pc := 28) dX5_fittingYears_28 ?_
        refine V_getc (pc := 29) dX5_fittingYears_29 gf_X5_26 (by omega) ?_
        refine V_gets (pc := 32) dX5_fittingYears_32 gf_X5_134 (by omega) ?_
        refine V_iload_2 (pc := 35) dX5_fittingYears_35 ?_
        refine V_iload_4 (pc := 36) dX5_fittingYears_36 ?_
        refine V_iast (pc := 38) dX5_fittingYears_38 sh_10 (by omega) (by omega) ?_
        refine V_aload_0 (pc := 39) dX5_fittingYears_39 ?_
        refine V_getc (pc := 40) dX5_fittingYears_40 gf_X5_36 (by omega) ?_
        refine V_aload_0 (pc := 43) dX5_fittingYears_43 ?_
        refine V_getc (pc := 44) dX5_fittingYears_44 gf_X5_26 (by omega) ?_
        refine V_iconst (pc := 47) dX5_fittingYears_47 ?_
        refine V_callV2z (pc := 48) dX5_fittingYears_48 kv_X5_99 rc_18 (by omega) (d - 1) (by omega) rfl (c_X2_follow (by omega) (by omega) (by omega) hT hWT (by omega)) (fun σ_48 h_48 => ?_)
        refine V_iconst (pc := 51) dX5_fittingYears_51 ?_
        refine V_istore_5 (pc := 52) dX5_fittingYears_52 ?_
        exact loop2 0 (by omega) _ ⟨h_48.2.CB hT, h_48.1, fun w y hw hy => by rw [h_48.2.tag (t := 30) (by omega)]; exact hI.2.1 w y hw hy, hI.2.2.tr ((Keep.set (t := 10) (k := 2) (by decide)).tr h_48.2.keep), fun y hy => by omega⟩
  refine V_iconst (pc := 0) dX5_fittingYears_0 ?_
  refine V_istore_3 (pc := 1) dX5_fittingYears_1 ?_
  refine V_aload_0 (pc := 2) dX5_fittingYears_2 ?_
  refine V_getc (pc := 3) dX5_fittingYears_3 gf_X5_26 (by omega) ?_
  refine V_aload_0 (pc := 6) dX5_fittingYears_6 ?_
  refine V_getc (pc := 7) dX5_fittingYears_7 gf_X5_23 (by omega) ?_
  refine V_callV1z (pc := 10) dX5_fittingYears_10 kv_X5_96 rc_3 (by omega) (d - 1) (by omega) rfl (c_X1_copyFrom (by omega) (by omega) (by omega) (by omega) hB hs) (fun σ_10 h_10 => ?_)
  refine V_iconst (pc := 13) dX5_fittingYears_13 ?_
  refine V_istore_4 (pc := 14) dX5_fittingYears_14 ?_
  exact loop 0 (by omega) _ ⟨⟨_, by rw [sB_id]; exact h_10.1⟩, fun w y hw hy => by omega, h_10.2.keep (Or.inl rfl)⟩

/-- only the tally changes -/
def KT (σ σ' : MM) : Prop := ∀ t : Nat, t ≠ 31 → σ' t = σ t
theorem KT.rf {σ : MM} : KT σ σ := fun _ _ => rfl
theorem KT.tr {σ σ1 σ2 : MM} (h : KT σ σ1) (h2 : KT σ1 σ2) : KT σ σ2 := fun t q => (h2 t q).trans (h t q)
theorem KT.set {σ : MM} {k z v : Int} : KT σ (setI σ 31 k z v) := fun t q => setI_tag q
theorem KT.CB {σ σ' : MM} {b : Int} {B : BK} (h : KT σ σ') (hB : CB σ b B) : CB σ' b B := hB.cong (fun t ht => by rw [h t (by omega)])
theorem KT.keep {σ σ' : MM} (h : KT σ σ') : Keep σ σ' := fun t k z a => by rw [h t (fun q => a (by subst q; unfold SCR; omega))]
theorem KT.sup {σ σ' : MM} {B : BK} {e n : Int} (h : KT σ σ') (hs : SUP σ B e n) : SUP σ' B e n := fun w y hw hy => by rw [h 30 (by decide)]; exact hs w y hw hy

set_option maxRecDepth 20000 in
set_option maxHeartbeats 1000000 in
theorem c_X5_leftAtWorst {d : Nat} (hd : 1 ≤ d) {σ : MM} {B : BK} {e f y : Int} (hB : CB σ 1 B) (hW : WB B) (hU : SUP σ B e (B 1 0 + 1)) (he : 0 ≤ e ∧ e < B 6 0) (hf : 0 ≤ f ∧ f ≤ 2147483647) (hy : 0 ≤ y ∧ y ≤ B 1 0) : V yX5_leftAtWorst cX5_leftAtWorst 6 (some .int) d (QI (fun v σ' => v = LFW B e f y ∧ KT σ σ')) 0 [some (vR 0 0), some (vI f), some (vI y), none, none, none] [] σ := by
  have hs := hW.s
  have loop2 : ∀ i : Nat, i ≤ (B 1 0 + 1).toNat → ∀ σi, ((∀ x : Int, 0 ≤ x ∧ x < 61 → σi 31 0 x = TLY B e f y x i) ∧ KT σ σi) → V yX5_leftAtWorst cX5_leftAtWorst 6 (some .int) d (QI (fun v σ' => v = LFW B e f y ∧ KT σ σ')) 26 [some (vR 0 0), some (vI f), some (vI y), some (vI (MOS B e f y i)), some (vI (i : Int)), none] [] σi := by
    refine up_ind (P := fun i : Nat => ∀ σi, ((∀ x : Int, 0 ≤ x ∧ x < 61 → σi 31 0 x = TLY B e f y x i) ∧ KT σ σi) → V yX5_leftAtWorst cX5_leftAtWorst 6 (some .int) d (QI (fun v σ' => v = LFW B e f y ∧ KT σ σ')) 26 [some (vR 0 0), some (vI f), some (vI y), some (vI (MOS B e f y i)), some (vI (i : Int)), none] [] σi) ?_ ?_
    · intro σi hI
      have hNi := hI.2.CB hB
      refine V_iload_4 (pc := 26) dX5_leftAtWorst_26 ?_
      refine V_aload_0 (pc := 28) dX5_leftAtWorst_28 ?_
      refine V_getc (pc := 29) dX5_leftAtWorst_29 gf_X5_23 (by omega) ?_
      refine V_geti (pc := 32) dX5_leftAtWorst_32 gf_X5_175 (by omega) hNi.s1 ?_
      refine V_icmp_gt (pc := 35) 87 dX5_leftAtWorst_35 (by decide) (by omega) (by omega) (fun c_35 => ?_) (fun c_35 => ?_)
      · refine V_iload_3 (pc := 87) dX5_leftAtWorst_87 ?_
        refine V_iretI (pc := 88) dX5_leftAtWorst_88 rfl ?_
        exact ⟨_, rfl, rfl, hI.2⟩
      · exact absurd c_35 (by omega)
    · intro i hi ih σi hI
      have hNi := hI.2.CB hB
      have hg := SHD_in (r := 0) (y := y) (WB_wrote (k := e) (v := (i : Int)) hW (by omega)) (e := e) he
      have hm := MOS_in B e f y i
      have ht := TLY_in B e f y (SHD (sB B 13 e i) (bt 0) y e) i
      refine V_iload_4 (pc := 26) dX5_leftAtWorst_26 ?_
      refine V_aload_0 (pc := 28) dX5_leftAtWorst_28 ?_
      refine V_getc (pc := 29) dX5_leftAtWorst_29 gf_X5_23 (by omega) ?_
      refine V_geti (pc := 32) dX5_leftAtWorst_32 gf_X5_175 (by omega) hNi.s1 ?_
      refine V_icmp_gt (pc := 35) 87 dX5_leftAtWorst_35 (by decide) (by omega) (by omega) (fun c_35 => ?_) (fun c_35 => ?_)
      · exact absurd c_35 (by omega)
      · refine V_iload_1 (pc := 38) dX5_leftAtWorst_38 ?_
        refine V_iload_4 (pc := 39) dX5_leftAtWorst_39 ?_
        refine V_callS2p (pc := 41) dX5_leftAtWorst_41 kv_X5_233 (d - 1) (by omega) rfl (c_X5_hasBit (by omega) hf (by omega)) ?_
        refine V_if_eq_b (pc := 44) 81 dX5_leftAtWorst_44 (by decide) (fun c_44 => ?_) (fun c_44 => ?_)
        · refine V_iinc_4 (pc := 81) dX5_leftAtWorst_81 ?_
          refine V_goto (pc := 84) 26 dX5_leftAtWorst_84 (by decide) ?_
          refine V.sub (by simp only [subL, Option.some.injEq, Sum.inl.injEq, Sum.inr.injEq, reduceCtorEq, true_or, or_true, false_or, true_and, and_true]; rw [MOS_no c_44]; refine ⟨rfl, by omega⟩) (ih _ ⟨fun x hx => by rw [TLY_S, bI_f (fun q => c_44 q.1), hI.1 x hx]; omega, hI.2⟩)
        · refine V_aload_0 (pc := 47) dX5_leftAtWorst_47 ?_
          refine V_getc (pc := 48) dX5_leftAtWorst_48 gf_X5_55 (by omega) ?_
          refine V_iload_4 (pc := 51) dX5_leftAtWorst_51 ?_
          refine V_aald_29 (pc := 53) dX5_leftAtWorst_53 (by omega) (by omega) ?_
          refine V_iload_2 (pc := 54) dX5_leftAtWorst_54 ?_
          refine V_iald (pc := 55) dX5_leftAtWorst_55 sh_30 (by omega) (by omega) ((hI.2.sup hU) i y (by omega) hy) ?_
          refine V_istore_5 (pc := 56) dX5_leftAtWorst_56 ?_
          refine V_aload_0 (pc := 58) dX5_leftAtWorst_58 ?_
          refine V_getc (pc := 59) dX5_leftAtWorst_59 gf_X5_58 (by omega) ?_
          refine V_iload_5 (pc := 62) dX5_leftAtWorst_62 ?_
          refine V_dup2 (pc := 64) dX5_leftAtWorst_64 rfl rfl ?_
          refine V_iald (pc := 65) dX5_leftAtWorst_65 sh_31 (by omega) (by omega) (hI.1 _ (by omega)) ?_
          refine V_iconst (pc := 66) dX5_leftAtWorst_66 ?_
          refine V_iadd (pc := 67) dX5_leftAtWorst_67 ?_
          refine V_iast (pc := 68) dX5_leftAtWorst_68 sh_31 (by omega) (by omega) ?_
          refine V_iload_3 (pc := 69) dX5_leftAtWorst_69 ?_
          refine V_aload_0 (pc := 70) dX5_leftAtWorst_70 ?_
          refine V_getc (pc := 71) dX5_leftAtWorst_71 gf_X5_58 (by omega) ?_
          refine V_iload_5 (pc := 74) dX5_leftAtWorst_74 ?_
          refine V_iald (pc := 76) dX5_leftAtWorst_76 sh_31 (by omega) (by omega) (v := TLY B e f y (SHD (sB B 13 e i) (bt 0) y e) i + 1) (by simp [setI_at]) ?_
          refine V_mmax (pc := 77) dX5_leftAtWorst_77 mth_max_X5_178 (by omega) (by omega) (by omega) ?_
          refine V_istore_3 (pc := 80) dX5_leftAtWorst_80 ?_
          refine V_iinc_4 (pc := 81) dX5_leftAtWorst_81 ?_
          refine V_goto (pc := 84) 26 dX5_leftAtWorst_84 (by decide) ?_
          refine V.sub (by simp only [subL, Option.some.injEq, Sum.inl.injEq, Sum.inr.injEq, reduceCtorEq, true_or, or_true, false_or, true_and, and_true]; rw [MOS_yes c_44 rfl (by omega)]; refine ⟨rfl, by omega⟩) (ih _ ⟨fun x hx => ?_, hI.2.tr KT.set⟩)
          by_cases q : x = (SHD (sB B 13 e i) (bt 0) y e)
          · subst q; simp only [setI_at, true_and, if_true]; rw [TLY_S, bI_t ⟨c_44, rfl⟩]
          · simp only [setI_at, q, and_false, if_false]; rw [TLY_S, bI_f (fun r => q r.2.symm), hI.1 x hx]; omega
  have loop1 : ∀ i : Nat, i ≤ 61 → ∀ σi, ((∀ x : Int, 0 ≤ x ∧ x < (i : Int) → σi 31 0 x = 0) ∧ KT σ σi) → V yX5_leftAtWorst cX5_leftAtWorst 6 (some .int) d (QI (fun v σ' => v = LFW B e f y ∧ KT σ σ')) 2 [some (vR 0 0), some (vI f), some (vI y), some (vI (i : Int)), none, none] [] σi := by
    refine up_ind (P := fun i : Nat => ∀ σi, ((∀ x : Int, 0 ≤ x ∧ x < (i : Int) → σi 31 0 x = 0) ∧ KT σ σi) → V yX5_leftAtWorst cX5_leftAtWorst 6 (some .int) d (QI (fun v σ' => v = LFW B e f y ∧ KT σ σ')) 2 [some (vR 0 0), some (vI f), some (vI y), some (vI (i : Int)), none, none] [] σi) ?_ ?_
    · intro σi hI
      have hNi := hI.2.CB hB
      refine V_iload_3 (pc := 2) dX5_leftAtWorst_2 ?_
      refine V_bipush (pc := 3) dX5_leftAtWorst_3 (by decide) ?_
      refine V_icmp_gt (pc := 5) 21 dX5_leftAtWorst_5 (by decide) (by omega) (by omega) (fun c_5 => ?_) (fun c_5 => ?_)
      · refine V_iconst (pc := 21) dX5_leftAtWorst_21 ?_
        refine V_istore_3 (pc := 22) dX5_leftAtWorst_22 ?_
        refine V_iconst (pc := 23) dX5_leftAtWorst_23 ?_
        refine V_istore_4 (pc := 24) dX5_leftAtWorst_24 ?_
        refine V.sub (by simp only [subL, Option.some.injEq, Sum.inl.injEq, Sum.inr.injEq, reduceCtorEq, true_or, or_true, false_or, true_and, and_true]; exact ⟨show MOS B e f y 0 = 0 from mxv_0 (fun _ _ => rfl), rfl⟩) (loop2 0 (by omega) _ ⟨fun x hx => hI.1 x (by omega), hI.2⟩)
      · exact absurd c_5 (by omega)
    · intro i hi ih σi hI
      refine V_iload_3 (pc := 2) dX5_leftAtWorst_2 ?_
      refine V_bipush (pc := 3) dX5_leftAtWorst_3 (by decide) ?_
      refine V_icmp_gt (pc := 5) 21 dX5_leftAtWorst_5 (by decide) (by omega) (by omega) (fun c_5 => ?_) (fun c_5 => ?_)
      · exact absurd c_5 (by omega)
      · refine V_aload_0 (pc := 8) dX5_leftAtWorst_8 ?_
        refine V_getc (pc := 9) dX5_leftAtWorst_9 gf_X5_58 (by omega) ?_
        refine V_iload_3 (pc := 12) dX5_leftAtWorst_12 ?_
        refine V_iconst (pc := 13) dX5_leftAtWorst_13 ?_
        refine V_iast (pc := 14) dX5_leftAtWorst_14 sh_31 (by omega) (by omega) ?_
        refine V_iinc_3 (pc := 15) dX5_leftAtWorst_15 ?_
        refine V_goto (pc := 18) 2 dX5_leftAtWorst_18 (by decide) ?_
        refine V.sub (by simp only [subL, Option.some.injEq, Sum.inl.injEq, reduceCtorEq, true_or, or_true, false_or, true_and, and_true]; omega) (ih _ ⟨fun x hx => ?_, hI.2.tr KT.set⟩)
        by_cases q : x = i
        · subst q; simp [setI_at]
        · simp only [setI_at, q, and_false, if_false]; exact hI.1 x (by omega)
  refine V_iconst (pc := 0) dX5_leftAtWorst_0 ?_
  refine V_istore_3 (pc := 1) dX5_leftAtWorst_1 ?_
  exact loop1 0 (by omega) σ ⟨fun x hx => by omega, KT.rf⟩

set_option maxRecDepth 20000 in
set_option maxHeartbeats 1000000 in
theorem c_X5_bestQuestion {d : Nat} (hd : 2 ≤ d) {σ : MM} {B : BK} {e f : Int} (hB : CB σ 1 B) (hW : WB B) (hU : SUP σ B e (B 1 0 + 1)) (he : 0 ≤ e ∧ e < B 6 0) (hf : 0 ≤ f ∧ f < 16777216) : V yX5_bestQuestion cX5_bestQuestion 6 (some .int) d (QI (fun v σ' => v = (BQ B e f (B 1 0 + 1).toNat).1 ∧ KT σ σ')) 0 [some (vR 0 0), some (vI f), none, none, none, none] [] σ := by
  have hs := hW.s
  have loop : ∀ i : Nat, i ≤ (B 1 0 + 1).toNat → ∀ σi : MM, (KT σ σi) → V yX5_bestQuestion cX5_bestQuestion 6 (some .int) d (QI (fun v σ' => v = (BQ B e f (B 1 0 + 1).toNat).1 ∧ KT σ σ')) 10 [some (vR 0 0), some (vI f), some (vI (BQ B e f i).1), some (vI (BQ B e f i).2), some (vI (i : Int)), none] [] σi := by
    refine up_ind (P := fun i : Nat => ∀ σi : MM, (KT σ σi) → V yX5_bestQuestion cX5_bestQuestion 6 (some .int) d (QI (fun v σ' => v = (BQ B e f (B 1 0 + 1).toNat).1 ∧ KT σ σ')) 10 [some (vR 0 0), some (vI f), some (vI (BQ B e f i).1), some (vI (BQ B e f i).2), some (vI (i : Int)), none] [] σi) ?_ ?_
    · intro σi hI
      have hNi := hI.CB hB
      refine V_iload_4 (pc := 10) dX5_bestQuestion_10 ?_
      refine V_aload_0 (pc := 12) dX5_bestQuestion_12 ?_
      refine V_getc (pc := 13) dX5_bestQuestion_13 gf_X5_23 (by omega) ?_
      refine V_geti (pc := 16) dX5_bestQuestion_16 gf_X5_175 (by omega) hNi.s1 ?_
      refine V_icmp_gt (pc := 19) 49 dX5_bestQuestion_19 (by decide) (by omega) (by omega) (fun c_19 => ?_) (fun c_19 => ?_)
      · refine V_iload_2 (pc := 49) dX5_bestQuestion_49 ?_
        refine V_iretI (pc := 50) dX5_bestQuestion_50 rfl ?_
        exact ⟨_, rfl, rfl, hI⟩
      · exact absurd c_19 (by omega)
    · intro i hi ih σi hI
      have hNi := hI.CB hB
      have q := BQ_in hs e f i
      have ql := LFW_in hs e f i
      have hS : BQ B e f (i + 1) = if LFW B e f i < (BQ B e f i).2 then ((i : Int), LFW B e f i) else BQ B e f i := rfl
      refine V_iload_4 (pc := 10) dX5_bestQuestion_10 ?_
      refine V_aload_0 (pc := 12) dX5_bestQuestion_12 ?_
      refine V_getc (pc := 13) dX5_bestQuestion_13 gf_X5_23 (by omega) ?_
      refine V_geti (pc := 16) dX5_bestQuestion_16 gf_X5_175 (by omega) hNi.s1 ?_
      refine V_icmp_gt (pc := 19) 49 dX5_bestQuestion_19 (by decide) (by omega) (by omega) (fun c_19 => ?_) (fun c_19 => ?_)
      · exact absurd c_19 (by omega)
      · refine V_aload_0 (pc := 22) dX5_bestQuestion_22 ?_
        refine V_iload_1 (pc := 23) dX5_bestQuestion_23 ?_
        refine V_iload_4 (pc := 24) dX5_bestQuestion_24 ?_
        refine V_callV2i (pc := 26) dX5_bestQuestion_26 kv_X5_239 rc_0 (by omega) (d - 1) (by omega) rfl (c_X5_leftAtWorst (by omega) hNi hW (hI.sup hU) he (by omega) (by omega)) (fun v_26 σ_26 h_26 => ?_)
        obtain ⟨hv, hk⟩ := h_26
        subst hv
        refine V_istore_5 (pc := 29) dX5_bestQuestion_29 ?_
        refine V_iload_5 (pc := 31) dX5_bestQuestion_31 ?_
        refine V_iload_3 (pc := 33) dX5_bestQuestion_33 ?_
        refine V_icmp_ge (pc := 34) 43 dX5_bestQuestion_34 (by decide) (by omega) (by omega) (fun c_34 => ?_) (fun c_34 => ?_)
        · refine V_iinc_4 (pc := 43) dX5_bestQuestion_43 ?_
          refine V_goto (pc := 46) 10 dX5_bestQuestion_46 (by decide) ?_
          refine V.sub (by simp only [subL, Option.some.injEq, Sum.inl.injEq, Sum.inr.injEq, reduceCtorEq, true_or, or_true, false_or, true_and, and_true]; rw [hS, if_neg (by omega)]; refine ⟨rfl, rfl, by omega⟩) (ih _ (hI.tr hk))
        · refine V_iload_4 (pc := 37) dX5_bestQuestion_37 ?_
          refine V_istore_2 (pc := 39) dX5_bestQuestion_39 ?_
          refine V_iload_5 (pc := 40) dX5_bestQuestion_40 ?_
          refine V_istore_3 (pc := 42) dX5_bestQuestion_42 ?_
          refine V_iinc_4 (pc := 43) dX5_bestQuestion_43 ?_
          refine V_goto (pc := 46) 10 dX5_bestQuestion_46 (by decide) ?_
          refine V.sub (by simp only [subL, Option.some.injEq, Sum.inl.injEq, Sum.inr.injEq, reduceCtorEq, true_or, or_true, false_or, true_and, and_true]; rw [hS, if_pos (by omega)]; refine ⟨rfl, rfl, by omega⟩) (ih _ (hI.tr hk))
  refine V_iconst (pc := 0) dX5_bestQuestion_0 ?_
  refine V_istore_2 (pc := 1) dX5_bestQuestion_1 ?_
  refine V_iload_1 (pc := 2) dX5_bestQuestion_2 ?_
  refine V_callS1p (pc := 3) dX5_bestQuestion_3 kv_X5_228 (d - 1) (by omega) rfl (c_J6_bitCount_0f7a4 (by omega) (by omega)) ?_
  refine V_istore_3 (pc := 6) dX5_bestQuestion_6 ?_
  refine V_iconst (pc := 7) dX5_bestQuestion_7 ?_
  refine V_istore_4 (pc := 8) dX5_bestQuestion_8 ?_
  exact loop 0 (by omega) _ KT.rf

set_option maxRecDepth 20000 in
set_option maxHeartbeats 1000000 in
theorem c_X5_dates {d : Nat} (hd : 7 ≤ d) {σ : MM} {B : BK} {Z : Nat → Int → Int → Int} {s e : Int} (hB : CB σ 1 B) (hG : GB B) (hZ : ZR σ Z) (hs0 : IR s) (he : IR e) : V yX5_dates cX5_dates 4 (some .int) d (QI (fun v σ' => v = q_dates B Z s e ∧ Keep σ σ')) 0 [some (vR 0 0), some (vI s), some (vI e), none] [] σ := by
  have hW := hG.w
  have hs := hW.s
  have hR9 := RFS_in B Z s
  have hF := FTY_in hs Z s e
  have hP := POP_in (r := FTY B Z s e)
  have bad : (e < 0 ∨ B 6 0 ≤ e) → V yX5_dates cX5_dates 4 (some .int) d (QI (fun v σ' => v = q_dates B Z s e ∧ Keep σ σ')) 19 [some (vR 0 0), some (vI s), some (vI e), some (vI (-2))] [] σ := by
    intro hE
    refine V_iload_3 (pc := 19) dX5_dates_19 ?_
    refine V_if_eq (pc := 20) 27 dX5_dates_20 (by decide) (by omega) (fun c_20 => ?_) (fun c_20 => ?_)
    · exact absurd c_20 (by omega)
    · refine V_iload_3 (pc := 23) dX5_dates_23 ?_
      refine V_goto (pc := 24) 36 dX5_dates_24 (by decide) ?_
      refine V_iretI (pc := 36) dX5_dates_36 rfl ?_
      first | exact absurd c_20 (by omega) | exact ⟨_, rfl, by unfold q_dates RQ; rw [if_pos (by omega)], Keep.rf⟩ | exact ⟨_, rfl, by unfold q_dates RQ; rw [if_neg (by omega), if_pos (by omega)], Keep.rf⟩ | exact ⟨_, rfl, by unfold q_dates RQ; rw [if_neg (by omega), if_neg (by omega)], hK⟩
  have good : ¬ (e < 0 ∨ B 6 0 ≤ e) → V yX5_dates cX5_dates 4 (some .int) d (QI (fun v σ' => v = q_dates B Z s e ∧ Keep σ σ')) 19 [some (vR 0 0), some (vI s), some (vI e), some (vI (RFS B Z s))] [] σ := by
    intro hE
    refine V_iload_3 (pc := 19) dX5_dates_19 ?_
    refine V_if_eq (pc := 20) 27 dX5_dates_20 (by decide) (by omega) (fun c_20 => ?_) (fun c_20 => ?_)
    · refine V_aload_0 (pc := 27) dX5_dates_27 ?_
      refine V_iload_1 (pc := 28) dX5_dates_28 ?_
      refine V_iload_2 (pc := 29) dX5_dates_29 ?_
      refine V_callV2i (pc := 30) dX5_dates_30 kv_X5_225 rc_0 (by omega) (d - 1) (by omega) rfl (c_X5_fittingYears (by omega) hB hG hZ (RFS_0 c_20).1 (RFS_0 c_20).2.2.1 (RFS_0 c_20).2.2.2 (by omega)) (fun v_30 σ_30 h_30 => ?_)
      obtain ⟨hv, hU, hK⟩ := h_30
      subst hv
      have hB2 := hK.CB (Or.inl rfl) hB
      refine V_callS1p (pc := 33) dX5_dates_33 kv_X5_228 (d - 1) (by omega) rfl (c_J6_bitCount_0f7a4 (by omega) (by omega)) ?_
      refine V_iretI (pc := 36) dX5_dates_36 rfl ?_
      first | exact absurd c_20 (by omega) | exact ⟨_, rfl, by unfold q_dates RQ; rw [if_pos (by omega)], Keep.rf⟩ | exact ⟨_, rfl, by unfold q_dates RQ; rw [if_neg (by omega), if_pos (by omega)], Keep.rf⟩ | exact ⟨_, rfl, by unfold q_dates RQ; rw [if_neg (by omega), if_neg (by omega)], hK⟩
    · refine V_iload_3 (pc := 23) dX5_dates_23 ?_
      refine V_goto (pc := 24) 36 dX5_dates_24 (by decide) ?_
      refine V_iretI (pc := 36) dX5_dates_36 rfl ?_
      first | exact absurd c_20 (by omega) | exact ⟨_, rfl, by unfold q_dates RQ; rw [if_pos (by omega)], Keep.rf⟩ | exact ⟨_, rfl, by unfold q_dates RQ; rw [if_neg (by omega), if_pos (by omega)], Keep.rf⟩ | exact ⟨_, rfl, by unfold q_dates RQ; rw [if_neg (by omega), if_neg (by omega)], hK⟩
  refine V_aload_0 (pc := 0) dX5_dates_0 ?_
  refine V_iload_2 (pc := 1) dX5_dates_1 ?_
  refine V_callV1p (pc := 2) dX5_dates_2 kv_X5_125 rc_0 (by omega) (d - 1) (by omega) rfl (c_X5_noEntry (by omega) hB hs (by omega)) ?_
  refine V_if_eq_b (pc := 5) 13 dX5_dates_5 (by decide) (fun c_5 => ?_) (fun c_5 => ?_)
  · refine V_aload_0 (pc := 13) dX5_dates_13 ?_
    refine V_iload_1 (pc := 14) dX5_dates_14 ?_
    refine V_callV1p (pc := 15) dX5_dates_15 kv_X5_222 rc_0 (by omega) (d - 1) (by omega) rfl (c_X5_refusedSeen (by omega) hB hW hZ (by omega)) ?_
    refine V_istore_3 (pc := 18) dX5_dates_18 ?_
    exact good (by omega)
  · refine V_bipush (pc := 8) dX5_dates_8 (by decide) ?_
    refine V_goto (pc := 10) 18 dX5_dates_10 (by decide) ?_
    refine V_istore_3 (pc := 18) dX5_dates_18 ?_
    exact bad (by omega)

set_option maxRecDepth 20000 in
set_option maxHeartbeats 1000000 in
theorem c_X5_ask {d : Nat} (hd : 7 ≤ d) {σ : MM} {B : BK} {Z : Nat → Int → Int → Int} {s e : Int} (hB : CB σ 1 B) (hG : GB B) (hZ : ZR σ Z) (hs0 : IR s) (he : IR e) : V yX5_ask cX5_ask 4 (some .int) d (QI (fun v σ' => v = q_ask B Z s e ∧ Keep σ σ')) 0 [some (vR 0 0), some (vI s), some (vI e), none] [] σ := by
  have hW := hG.w
  have hs := hW.s
  have hR9 := RFS_in B Z s
  have hF := FTY_in hs Z s e
  have hP := POP_in (r := FTY B Z s e)
  have bad : (e < 0 ∨ B 6 0 ≤ e) → V yX5_ask cX5_ask 4 (some .int) d (QI (fun v σ' => v = q_ask B Z s e ∧ Keep σ σ')) 19 [some (vR 0 0), some (vI s), some (vI e), some (vI (-2))] [] σ := by
    intro hE
    refine V_iload_3 (pc := 19) dX5_ask_19 ?_
    refine V_if_eq (pc := 20) 27 dX5_ask_20 (by decide) (by omega) (fun c_20 => ?_) (fun c_20 => ?_)
    · exact absurd c_20 (by omega)
    · refine V_iload_3 (pc := 23) dX5_ask_23 ?_
      refine V_goto (pc := 24) 37 dX5_ask_24 (by decide) ?_
      refine V_iretI (pc := 37) dX5_ask_37 rfl ?_
      first | exact absurd c_20 (by omega) | exact ⟨_, rfl, by unfold q_ask RQ; rw [if_pos (by omega)], Keep.rf⟩ | exact ⟨_, rfl, by unfold q_ask RQ; rw [if_neg (by omega), if_pos (by omega)], Keep.rf⟩ | exact ⟨_, rfl, by unfold q_ask RQ; rw [if_neg (by omega), if_neg (by omega)], hK.tr hK2.keep⟩
  have good : ¬ (e < 0 ∨ B 6 0 ≤ e) → V yX5_ask cX5_ask 4 (some .int) d (QI (fun v σ' => v = q_ask B Z s e ∧ Keep σ σ')) 19 [some (vR 0 0), some (vI s), some (vI e), some (vI (RFS B Z s))] [] σ := by
    intro hE
    refine V_iload_3 (pc := 19) dX5_ask_19 ?_
    refine V_if_eq (pc := 20) 27 dX5_ask_20 (by decide) (by omega) (fun c_20 => ?_) (fun c_20 => ?_)
    · refine V_aload_0 (pc := 27) dX5_ask_27 ?_
      refine V_aload_0 (pc := 28) dX5_ask_28 ?_
      refine V_iload_1 (pc := 29) dX5_ask_29 ?_
      refine V_iload_2 (pc := 30) dX5_ask_30 ?_
      refine V_callV2i (pc := 31) dX5_ask_31 kv_X5_225 rc_0 (by omega) (d - 1) (by omega) rfl (c_X5_fittingYears (by omega) hB hG hZ (RFS_0 c_20).1 (RFS_0 c_20).2.2.1 (RFS_0 c_20).2.2.2 (by omega)) (fun v_31 σ_31 h_31 => ?_)
      obtain ⟨hv, hU, hK⟩ := h_31
      subst hv
      have hB2 := hK.CB (Or.inl rfl) hB
      refine V_callV1i (pc := 34) dX5_ask_34 kv_X5_236 rc_0 (by omega) (d - 1) (by omega) rfl (c_X5_bestQuestion (by omega) hB2 hW hU (by omega) (by omega)) (fun v_34 σ_34 h_34 => ?_)
      obtain ⟨hv2, hK2⟩ := h_34
      subst hv2
      have hq := BQ_in hs e (FTY B Z s e) (B 1 0 + 1).toNat
      refine V_iretI (pc := 37) dX5_ask_37 rfl ?_
      first | exact absurd c_20 (by omega) | exact ⟨_, rfl, by unfold q_ask RQ; rw [if_pos (by omega)], Keep.rf⟩ | exact ⟨_, rfl, by unfold q_ask RQ; rw [if_neg (by omega), if_pos (by omega)], Keep.rf⟩ | exact ⟨_, rfl, by unfold q_ask RQ; rw [if_neg (by omega), if_neg (by omega)], hK.tr hK2.keep⟩
    · refine V_iload_3 (pc := 23) dX5_ask_23 ?_
      refine V_goto (pc := 24) 37 dX5_ask_24 (by decide) ?_
      refine V_iretI (pc := 37) dX5_ask_37 rfl ?_
      first | exact absurd c_20 (by omega) | exact ⟨_, rfl, by unfold q_ask RQ; rw [if_pos (by omega)], Keep.rf⟩ | exact ⟨_, rfl, by unfold q_ask RQ; rw [if_neg (by omega), if_pos (by omega)], Keep.rf⟩ | exact ⟨_, rfl, by unfold q_ask RQ; rw [if_neg (by omega), if_neg (by omega)], hK.tr hK2.keep⟩
  refine V_aload_0 (pc := 0) dX5_ask_0 ?_
  refine V_iload_2 (pc := 1) dX5_ask_1 ?_
  refine V_callV1p (pc := 2) dX5_ask_2 kv_X5_125 rc_0 (by omega) (d - 1) (by omega) rfl (c_X5_noEntry (by omega) hB hs (by omega)) ?_
  refine V_if_eq_b (pc := 5) 13 dX5_ask_5 (by decide) (fun c_5 => ?_) (fun c_5 => ?_)
  · refine V_aload_0 (pc := 13) dX5_ask_13 ?_
    refine V_iload_1 (pc := 14) dX5_ask_14 ?_
    refine V_callV1p (pc := 15) dX5_ask_15 kv_X5_222 rc_0 (by omega) (d - 1) (by omega) rfl (c_X5_refusedSeen (by omega) hB hW hZ (by omega)) ?_
    refine V_istore_3 (pc := 18) dX5_ask_18 ?_
    exact good (by omega)
  · refine V_bipush (pc := 8) dX5_ask_8 (by decide) ?_
    refine V_goto (pc := 10) 18 dX5_ask_10 (by decide) ?_
    refine V_istore_3 (pc := 18) dX5_ask_18 ?_
    exact bad (by omega)

set_option maxRecDepth 20000 in
set_option maxHeartbeats 1000000 in
theorem c_X5_leaves {d : Nat} (hd : 7 ≤ d) {σ : MM} {B : BK} {Z : Nat → Int → Int → Int} {s e : Int} (hB : CB σ 1 B) (hG : GB B) (hZ : ZR σ Z) (hs0 : IR s) (he : IR e) : V yX5_leaves cX5_leaves 6 (some .int) d (QI (fun v σ' => v = q_leaves B Z s e ∧ Keep σ σ')) 0 [some (vR 0 0), some (vI s), some (vI e), none, none, none] [] σ := by
  have hW := hG.w
  have hs := hW.s
  have hR9 := RFS_in B Z s
  have hF := FTY_in hs Z s e
  have hP := POP_in (r := FTY B Z s e)
  have bad : (e < 0 ∨ B 6 0 ≤ e) → V yX5_leaves cX5_leaves 6 (some .int) d (QI (fun v σ' => v = q_leaves B Z s e ∧ Keep σ σ')) 19 [some (vR 0 0), some (vI s), some (vI e), some (vI (-2)), none, none] [] σ := by
    intro hE
    refine V_iload_3 (pc := 19) dX5_leaves_19 ?_
    refine V_if_eq (pc := 20) 25 dX5_leaves_20 (by decide) (by omega) (fun c_20 => ?_) (fun c_20 => ?_)
    · exact absurd c_20 (by omega)
    · refine V_iload_3 (pc := 23) dX5_leaves_23 ?_
      refine V_iretI (pc := 24) dX5_leaves_24 rfl ?_
      first | exact absurd c_20 (by omega) | exact ⟨_, rfl, by unfold q_leaves RQ; rw [if_pos (by omega)], Keep.rf⟩ | exact ⟨_, rfl, by unfold q_leaves RQ; rw [if_neg (by omega), if_pos (by omega)], Keep.rf⟩ | exact ⟨_, rfl, by unfold q_leaves RQ; rw [if_neg (by omega), if_neg (by omega)]; exact (hq.2.2.1 (by omega)).symm, hK.tr hK2.keep⟩ | exact ⟨_, rfl, by unfold q_leaves RQ; rw [if_neg (by omega), if_neg (by omega), h_60.1]; exact (hq.2.2.2 (by omega)).symm, hK.tr (hK2.tr h_60.2).keep⟩
  have good : ¬ (e < 0 ∨ B 6 0 ≤ e) → V yX5_leaves cX5_leaves 6 (some .int) d (QI (fun v σ' => v = q_leaves B Z s e ∧ Keep σ σ')) 19 [some (vR 0 0), some (vI s), some (vI e), some (vI (RFS B Z s)), none, none] [] σ := by
    intro hE
    refine V_iload_3 (pc := 19) dX5_leaves_19 ?_
    refine V_if_eq (pc := 20) 25 dX5_leaves_20 (by decide) (by omega) (fun c_20 => ?_) (fun c_20 => ?_)
    · refine V_aload_0 (pc := 25) dX5_leaves_25 ?_
      refine V_iload_1 (pc := 26) dX5_leaves_26 ?_
      refine V_iload_2 (pc := 27) dX5_leaves_27 ?_
      refine V_callV2i (pc := 28) dX5_leaves_28 kv_X5_225 rc_0 (by omega) (d - 1) (by omega) rfl (c_X5_fittingYears (by omega) hB hG hZ (RFS_0 c_20).1 (RFS_0 c_20).2.2.1 (RFS_0 c_20).2.2.2 (by omega)) (fun v_28 σ_28 h_28 => ?_)
      obtain ⟨hv, hU, hK⟩ := h_28
      subst hv
      have hB2 := hK.CB (Or.inl rfl) hB
      refine V_istore_4 (pc := 31) dX5_leaves_31 ?_
      refine V_aload_0 (pc := 33) dX5_leaves_33 ?_
      refine V_iload_4 (pc := 34) dX5_leaves_34 ?_
      refine V_callV1i (pc := 36) dX5_leaves_36 kv_X5_236 rc_0 (by omega) (d - 1) (by omega) rfl (c_X5_bestQuestion (by omega) hB2 hW hU (by omega) (by omega)) (fun v_36 σ_36 h_36 => ?_)
      obtain ⟨hv2, hK2⟩ := h_36
      subst hv2
      have hq := BQ_in hs e (FTY B Z s e) (B 1 0 + 1).toNat
      refine V_istore_5 (pc := 39) dX5_leaves_39 ?_
      refine V_iload_5 (pc := 41) dX5_leaves_41 ?_
      refine V_iconst (pc := 43) dX5_leaves_43 ?_
      refine V_icmp_ne (pc := 44) 55 dX5_leaves_44 (by decide) (by omega) (by omega) (fun c_44 => ?_) (fun c_44 => ?_)
      · refine V_aload_0 (pc := 55) dX5_leaves_55 ?_
        refine V_iload_4 (pc := 56) dX5_leaves_56 ?_
        refine V_iload_5 (pc := 58) dX5_leaves_58 ?_
        refine V_callV2i (pc := 60) dX5_leaves_60 kv_X5_239 rc_0 (by omega) (d - 1) (by omega) rfl (c_X5_leftAtWorst (by omega) (hK2.CB hB2) hW (hK2.sup hU) (by omega) (by omega) (by omega)) (fun v_60 σ_60 h_60 => ?_)
        refine V_iretI (pc := 63) dX5_leaves_63 rfl ?_
        first | exact absurd c_20 (by omega) | exact ⟨_, rfl, by unfold q_leaves RQ; rw [if_pos (by omega)], Keep.rf⟩ | exact ⟨_, rfl, by unfold q_leaves RQ; rw [if_neg (by omega), if_pos (by omega)], Keep.rf⟩ | exact ⟨_, rfl, by unfold q_leaves RQ; rw [if_neg (by omega), if_neg (by omega)]; exact (hq.2.2.1 (by omega)).symm, hK.tr hK2.keep⟩ | exact ⟨_, rfl, by unfold q_leaves RQ; rw [if_neg (by omega), if_neg (by omega), h_60.1]; exact (hq.2.2.2 (by omega)).symm, hK.tr (hK2.tr h_60.2).keep⟩
      · refine V_iload_4 (pc := 47) dX5_leaves_47 ?_
        refine V_callS1p (pc := 49) dX5_leaves_49 kv_X5_228 (d - 1) (by omega) rfl (c_J6_bitCount_0f7a4 (by omega) (by omega)) ?_
        refine V_goto (pc := 52) 63 dX5_leaves_52 (by decide) ?_
        refine V_iretI (pc := 63) dX5_leaves_63 rfl ?_
        first | exact absurd c_20 (by omega) | exact ⟨_, rfl, by unfold q_leaves RQ; rw [if_pos (by omega)], Keep.rf⟩ | exact ⟨_, rfl, by unfold q_leaves RQ; rw [if_neg (by omega), if_pos (by omega)], Keep.rf⟩ | exact ⟨_, rfl, by unfold q_leaves RQ; rw [if_neg (by omega), if_neg (by omega)]; exact (hq.2.2.1 (by omega)).symm, hK.tr hK2.keep⟩ | exact ⟨_, rfl, by unfold q_leaves RQ; rw [if_neg (by omega), if_neg (by omega), h_60.1]; exact (hq.2.2.2 (by omega)).symm, hK.tr (hK2.tr h_60.2).keep⟩
    · refine V_iload_3 (pc := 23) dX5_leaves_23 ?_
      refine V_iretI (pc := 24) dX5_leaves_24 rfl ?_
      first | exact absurd c_20 (by omega) | exact ⟨_, rfl, by unfold q_leaves RQ; rw [if_pos (by omega)], Keep.rf⟩ | exact ⟨_, rfl, by unfold q_leaves RQ; rw [if_neg (by omega), if_pos (by omega)], Keep.rf⟩ | exact ⟨_, rfl, by unfold q_leaves RQ; rw [if_neg (by omega), if_neg (by omega)]; exact (hq.2.2.1 (by omega)).symm, hK.tr hK2.keep⟩ | exact ⟨_, rfl, by unfold q_leaves RQ; rw [if_neg (by omega), if_neg (by omega), h_60.1]; exact (hq.2.2.2 (by omega)).symm, hK.tr (hK2.tr h_60.2).keep⟩
  refine V_aload_0 (pc := 0) dX5_leaves_0 ?_
  refine V_iload_2 (pc := 1) dX5_leaves_1 ?_
  refine V_callV1p (pc := 2) dX5_leaves_2 kv_X5_125 rc_0 (by omega) (d - 1) (by omega) rfl (c_X5_noEntry (by omega) hB hs (by omega)) ?_
  refine V_if_eq_b (pc := 5) 13 dX5_leaves_5 (by decide) (fun c_5 => ?_) (fun c_5 => ?_)
  · refine V_aload_0 (pc := 13) dX5_leaves_13 ?_
    refine V_iload_1 (pc := 14) dX5_leaves_14 ?_
    refine V_callV1p (pc := 15) dX5_leaves_15 kv_X5_222 rc_0 (by omega) (d - 1) (by omega) rfl (c_X5_refusedSeen (by omega) hB hW hZ (by omega)) ?_
    refine V_istore_3 (pc := 18) dX5_leaves_18 ?_
    exact good (by omega)
  · refine V_bipush (pc := 8) dX5_leaves_8 (by decide) ?_
    refine V_goto (pc := 10) 18 dX5_leaves_10 (by decide) ?_
    refine V_istore_3 (pc := 18) dX5_leaves_18 ?_
    exact bad (by omega)

set_option maxRecDepth 20000 in
set_option maxHeartbeats 1000000 in
theorem c_X5_first {d : Nat} (hd : 7 ≤ d) {σ : MM} {B : BK} {Z : Nat → Int → Int → Int} {s e : Int} (hB : CB σ 1 B) (hG : GB B) (hZ : ZR σ Z) (hs0 : IR s) (he : IR e) : V yX5_first cX5_first 6 (some .int) d (QI (fun v σ' => v = q_first B Z s e ∧ Keep σ σ')) 0 [some (vR 0 0), some (vI s), some (vI e), none, none, none] [] σ := by
  have hW := hG.w
  have hs := hW.s
  have hR9 := RFS_in B Z s
  have hF := FTY_in hs Z s e
  have hP := POP_in (r := FTY B Z s e)
  have bad : (e < 0 ∨ B 6 0 ≤ e) → V yX5_first cX5_first 6 (some .int) d (QI (fun v σ' => v = q_first B Z s e ∧ Keep σ σ')) 19 [some (vR 0 0), some (vI s), some (vI e), some (vI (-2)), none, none] [] σ := by
    intro hE
    refine V_iload_3 (pc := 19) dX5_first_19 ?_
    refine V_if_eq (pc := 20) 25 dX5_first_20 (by decide) (by omega) (fun c_20 => ?_) (fun c_20 => ?_)
    · exact absurd c_20 (by omega)
    · refine V_iload_3 (pc := 23) dX5_first_23 ?_
      refine V_iretI (pc := 24) dX5_first_24 rfl ?_
      first | exact absurd c_20 (by omega) | exact ⟨_, rfl, by unfold q_first RQ; rw [if_pos (by omega)], Keep.rf⟩ | exact ⟨_, rfl, by unfold q_first RQ; rw [if_neg (by omega), if_pos (by omega)], Keep.rf⟩ | exact ⟨_, rfl, by unfold q_first RQ; rw [if_neg (by omega), if_neg (by omega)]⟩
  have good : ¬ (e < 0 ∨ B 6 0 ≤ e) → V yX5_first cX5_first 6 (some .int) d (QI (fun v σ' => v = q_first B Z s e ∧ Keep σ σ')) 19 [some (vR 0 0), some (vI s), some (vI e), some (vI (RFS B Z s)), none, none] [] σ := by
    intro hE
    have loop : RFS B Z s = 0 → ∀ i : Nat, i ≤ (B 1 0 + 1).toNat → ∀ σi, CB σi 1 B → Keep σ σi → (∀ x : Int, 0 ≤ x ∧ x < (i : Int) → ¬ bt (FTY B Z s e) x = 1) → V yX5_first cX5_first 6 (some .int) d (QI (fun v σ' => v = q_first B Z s e ∧ Keep σ σ')) 36 [some (vR 0 0), some (vI s), some (vI e), none, some (vI (FTY B Z s e)), some (vI (i : Int))] [] σi := by
      intro hR
      refine up_ind (P := fun i : Nat => ∀ σi, CB σi 1 B → Keep σ σi → (∀ x : Int, 0 ≤ x ∧ x < (i : Int) → ¬ bt (FTY B Z s e) x = 1) → V yX5_first cX5_first 6 (some .int) d (QI (fun v σ' => v = q_first B Z s e ∧ Keep σ σ')) 36 [some (vR 0 0), some (vI s), some (vI e), none, some (vI (FTY B Z s e)), some (vI (i : Int))] [] σi) ?_ ?_
      · intro σi hBi hKi hI
        refine V_iload_5 (pc := 36) dX5_first_36 ?_
        refine V_aload_0 (pc := 38) dX5_first_38 ?_
        refine V_getc (pc := 39) dX5_first_39 gf_X5_23 (by omega) ?_
        refine V_geti (pc := 42) dX5_first_42 gf_X5_175 (by omega) hBi.s1 ?_
        refine V_icmp_gt (pc := 45) 67 dX5_first_45 (by decide) (by omega) (by omega) (fun c_45 => ?_) (fun c_45 => ?_)
        · refine V_iconst (pc := 67) dX5_first_67 ?_
          refine V_iretI (pc := 68) dX5_first_68 rfl ?_
          exact ⟨_, rfl, by unfold q_first RQ; rw [if_neg hE, if_neg (by omega)]; exact (fst_no (p := (fun y => bt (FTY B Z s e) y = 1)) _ 0 (fun x hx => hI x (by omega))).symm, hKi⟩
        · exact absurd c_45 (by omega)
      · intro i hi ih σi hBi hKi hI
        refine V_iload_5 (pc := 36) dX5_first_36 ?_
        refine V_aload_0 (pc := 38) dX5_first_38 ?_
        refine V_getc (pc := 39) dX5_first_39 gf_X5_23 (by omega) ?_
        refine V_geti (pc := 42) dX5_first_42 gf_X5_175 (by omega) hBi.s1 ?_
        refine V_icmp_gt (pc := 45) 67 dX5_first_45 (by decide) (by omega) (by omega) (fun c_45 => ?_) (fun c_45 => ?_)
        · exact absurd c_45 (by omega)
        · refine V_iload_4 (pc := 48) dX5_first_48 ?_
          refine V_iload_5 (pc := 50) dX5_first_50 ?_
          refine V_callS2p (pc := 52) dX5_first_52 kv_X5_233 (d - 1) (by omega) rfl (c_X5_hasBit (by omega) (by omega) (by omega)) ?_
          refine V_if_eq_b (pc := 55) 61 dX5_first_55 (by decide) (fun c_55 => ?_) (fun c_55 => ?_)
          · refine V_iinc_5 (pc := 61) dX5_first_61 ?_
            refine V_goto (pc := 64) 36 dX5_first_64 (by decide) ?_
            refine V.sub (by simp only [subL, Option.some.injEq, Sum.inl.injEq, reduceCtorEq, true_or, or_true, false_or, true_and, and_true]; omega) (ih σi hBi hKi (nx_step hI c_55 (by omega)))
          · refine V_iload_5 (pc := 58) dX5_first_58 ?_
            refine V_iretI (pc := 60) dX5_first_60 rfl ?_
            exact ⟨_, rfl, by unfold q_first RQ; rw [if_neg hE, if_neg (by omega)]; exact (fst_is (p := (fun y => bt (FTY B Z s e) y = 1)) (x := (i : Int)) c_55 _ 0 (by omega) (fun x hx => hI x (by omega))).symm, hKi⟩
    refine V_iload_3 (pc := 19) dX5_first_19 ?_
    refine V_if_eq (pc := 20) 25 dX5_first_20 (by decide) (by omega) (fun c_20 => ?_) (fun c_20 => ?_)
    · refine V_aload_0 (pc := 25) dX5_first_25 ?_
      refine V_iload_1 (pc := 26) dX5_first_26 ?_
      refine V_iload_2 (pc := 27) dX5_first_27 ?_
      refine V_callV2i (pc := 28) dX5_first_28 kv_X5_225 rc_0 (by omega) (d - 1) (by omega) rfl (c_X5_fittingYears (by omega) hB hG hZ (RFS_0 c_20).1 (RFS_0 c_20).2.2.1 (RFS_0 c_20).2.2.2 (by omega)) (fun v_28 σ_28 h_28 => ?_)
      obtain ⟨hv, hU, hK⟩ := h_28
      subst hv
      have hB2 := hK.CB (Or.inl rfl) hB
      refine V_istore_4 (pc := 31) dX5_first_31 ?_
      refine V_iconst (pc := 33) dX5_first_33 ?_
      refine V_istore_5 (pc := 34) dX5_first_34 ?_
      refine V.sub (by simp only [subL, Option.some.injEq, Sum.inl.injEq, reduceCtorEq, true_or, or_true, false_or, true_and, and_true]; omega) (loop c_20 0 (by omega) _ hB2 hK (fun x hx => by omega))
    · refine V_iload_3 (pc := 23) dX5_first_23 ?_
      refine V_iretI (pc := 24) dX5_first_24 rfl ?_
      first | exact absurd c_20 (by omega) | exact ⟨_, rfl, by unfold q_first RQ; rw [if_pos (by omega)], Keep.rf⟩ | exact ⟨_, rfl, by unfold q_first RQ; rw [if_neg (by omega), if_pos (by omega)], Keep.rf⟩ | exact ⟨_, rfl, by unfold q_first RQ; rw [if_neg (by omega), if_neg (by omega)]⟩
  refine V_aload_0 (pc := 0) dX5_first_0 ?_
  refine V_iload_2 (pc := 1) dX5_first_1 ?_
  refine V_callV1p (pc := 2) dX5_first_2 kv_X5_125 rc_0 (by omega) (d - 1) (by omega) rfl (c_X5_noEntry (by omega) hB hs (by omega)) ?_
  refine V_if_eq_b (pc := 5) 13 dX5_first_5 (by decide) (fun c_5 => ?_) (fun c_5 => ?_)
  · refine V_aload_0 (pc := 13) dX5_first_13 ?_
    refine V_iload_1 (pc := 14) dX5_first_14 ?_
    refine V_callV1p (pc := 15) dX5_first_15 kv_X5_222 rc_0 (by omega) (d - 1) (by omega) rfl (c_X5_refusedSeen (by omega) hB hW hZ (by omega)) ?_
    refine V_istore_3 (pc := 18) dX5_first_18 ?_
    exact good (by omega)
  · refine V_bipush (pc := 8) dX5_first_8 (by decide) ?_
    refine V_goto (pc := 10) 18 dX5_first_10 (by decide) ?_
    refine V_istore_3 (pc := 18) dX5_first_18 ?_
    exact bad (by omega)

set_option maxRecDepth 20000 in
set_option maxHeartbeats 1000000 in
theorem c_X5_last {d : Nat} (hd : 7 ≤ d) {σ : MM} {B : BK} {Z : Nat → Int → Int → Int} {s e : Int} (hB : CB σ 1 B) (hG : GB B) (hZ : ZR σ Z) (hs0 : IR s) (he : IR e) : V yX5_last cX5_last 6 (some .int) d (QI (fun v σ' => v = q_last B Z s e ∧ Keep σ σ')) 0 [some (vR 0 0), some (vI s), some (vI e), none, none, none] [] σ := by
  have hW := hG.w
  have hs := hW.s
  have hR9 := RFS_in B Z s
  have hF := FTY_in hs Z s e
  have hP := POP_in (r := FTY B Z s e)
  have bad : (e < 0 ∨ B 6 0 ≤ e) → V yX5_last cX5_last 6 (some .int) d (QI (fun v σ' => v = q_last B Z s e ∧ Keep σ σ')) 19 [some (vR 0 0), some (vI s), some (vI e), some (vI (-2)), none, none] [] σ := by
    intro hE
    refine V_iload_3 (pc := 19) dX5_last_19 ?_
    refine V_if_eq (pc := 20) 25 dX5_last_20 (by decide) (by omega) (fun c_20 => ?_) (fun c_20 => ?_)
    · exact absurd c_20 (by omega)
    · refine V_iload_3 (pc := 23) dX5_last_23 ?_
      refine V_iretI (pc := 24) dX5_last_24 rfl ?_
      first | exact absurd c_20 (by omega) | exact ⟨_, rfl, by unfold q_last RQ; rw [if_pos (by omega)], Keep.rf⟩ | exact ⟨_, rfl, by unfold q_last RQ; rw [if_neg (by omega), if_pos (by omega)], Keep.rf⟩ | exact ⟨_, rfl, by unfold q_last RQ; rw [if_neg (by omega), if_neg (by omega)]⟩
  have good : ¬ (e < 0 ∨ B 6 0 ≤ e) → V yX5_last cX5_last 6 (some .int) d (QI (fun v σ' => v = q_last B Z s e ∧ Keep σ σ')) 19 [some (vR 0 0), some (vI s), some (vI e), some (vI (RFS B Z s)), none, none] [] σ := by
    intro hE
    have loop : RFS B Z s = 0 → ∀ i : Nat, i ≤ (B 1 0 + 1).toNat → ∀ σi, CB σi 1 B → Keep σ σi → (lst (fun y => bt (FTY B Z s e) y = 1) (B 1 0 + 1).toNat = lst (fun y => bt (FTY B Z s e) y = 1) ((B 1 0 + 1).toNat - i)) → V yX5_last cX5_last 6 (some .int) d (QI (fun v σ' => v = q_last B Z s e ∧ Keep σ σ')) 42 [some (vR 0 0), some (vI s), some (vI e), none, some (vI (FTY B Z s e)), some (vI (B 1 0 - (i : Int)))] [] σi := by
      intro hR
      refine up_ind (P := fun i : Nat => ∀ σi, CB σi 1 B → Keep σ σi → (lst (fun y => bt (FTY B Z s e) y = 1) (B 1 0 + 1).toNat = lst (fun y => bt (FTY B Z s e) y = 1) ((B 1 0 + 1).toNat - i)) → V yX5_last cX5_last 6 (some .int) d (QI (fun v σ' => v = q_last B Z s e ∧ Keep σ σ')) 42 [some (vR 0 0), some (vI s), some (vI e), none, some (vI (FTY B Z s e)), some (vI (B 1 0 - (i : Int)))] [] σi) ?_ ?_
      · intro σi hBi hKi hI
        refine V_iload_5 (pc := 42) dX5_last_42 ?_
        refine V_if_lt (pc := 44) 66 dX5_last_44 (by decide) (by omega) (fun c_44 => ?_) (fun c_44 => ?_)
        · refine V_iconst (pc := 66) dX5_last_66 ?_
          refine V_iretI (pc := 67) dX5_last_67 rfl ?_
          exact ⟨_, rfl, by unfold q_last RQ; rw [if_neg hE, if_neg (by omega), hI, Nat.sub_self]; rfl, hKi⟩
        · exact absurd c_44 (by omega)
      · intro i hi ih σi hBi hKi hI
        have hN : (B 1 0 + 1).toNat - i = ((B 1 0 + 1).toNat - (i + 1)) + 1 := by omega
        have hM : (((B 1 0 + 1).toNat - (i + 1) : Nat) : Int) = B 1 0 - i := by omega
        refine V_iload_5 (pc := 42) dX5_last_42 ?_
        refine V_if_lt (pc := 44) 66 dX5_last_44 (by decide) (by omega) (fun c_44 => ?_) (fun c_44 => ?_)
        · exact absurd c_44 (by omega)
        · refine V_iload_4 (pc := 47) dX5_last_47 ?_
          refine V_iload_5 (pc := 49) dX5_last_49 ?_
          refine V_callS2p (pc := 51) dX5_last_51 kv_X5_233 (d - 1) (by omega) rfl (c_X5_hasBit (by omega) (by omega) (by omega)) ?_
          refine V_if_eq_b (pc := 54) 60 dX5_last_54 (by decide) (fun c_54 => ?_) (fun c_54 => ?_)
          · refine V_iinc_5 (pc := 60) dX5_last_60 ?_
            refine V_goto (pc := 63) 42 dX5_last_63 (by decide) ?_
            refine V.sub (by simp only [subL, Option.some.injEq, Sum.inl.injEq, reduceCtorEq, true_or, or_true, false_or, true_and, and_true]; omega) (ih σi hBi hKi (by rw [hI, hN, lst_S, if_neg (by rw [hM]; exact c_54)]))
          · refine V_iload_5 (pc := 57) dX5_last_57 ?_
            refine V_iretI (pc := 59) dX5_last_59 rfl ?_
            exact ⟨_, rfl, by unfold q_last RQ; rw [if_neg hE, if_neg (by omega), hI, hN, lst_S, if_pos (by rw [hM]; exact c_54), hM], hKi⟩
    refine V_iload_3 (pc := 19) dX5_last_19 ?_
    refine V_if_eq (pc := 20) 25 dX5_last_20 (by decide) (by omega) (fun c_20 => ?_) (fun c_20 => ?_)
    · refine V_aload_0 (pc := 25) dX5_last_25 ?_
      refine V_iload_1 (pc := 26) dX5_last_26 ?_
      refine V_iload_2 (pc := 27) dX5_last_27 ?_
      refine V_callV2i (pc := 28) dX5_last_28 kv_X5_225 rc_0 (by omega) (d - 1) (by omega) rfl (c_X5_fittingYears (by omega) hB hG hZ (RFS_0 c_20).1 (RFS_0 c_20).2.2.1 (RFS_0 c_20).2.2.2 (by omega)) (fun v_28 σ_28 h_28 => ?_)
      obtain ⟨hv, hU, hK⟩ := h_28
      subst hv
      have hB2 := hK.CB (Or.inl rfl) hB
      refine V_istore_4 (pc := 31) dX5_last_31 ?_
      refine V_aload_0 (pc := 33) dX5_last_33 ?_
      refine V_getc (pc := 34) dX5_last_34 gf_X5_23 (by omega) ?_
      refine V_geti (pc := 37) dX5_last_37 gf_X5_175 (by omega) hB2.s1 ?_
      refine V_istore_5 (pc := 40) dX5_last_40 ?_
      refine V.sub (by simp only [subL, Option.some.injEq, Sum.inl.injEq, reduceCtorEq, true_or, or_true, false_or, true_and, and_true]; omega) (loop c_20 0 (by omega) _ hB2 hK (by rfl))
    · refine V_iload_3 (pc := 23) dX5_last_23 ?_
      refine V_iretI (pc := 24) dX5_last_24 rfl ?_
      first | exact absurd c_20 (by omega) | exact ⟨_, rfl, by unfold q_last RQ; rw [if_pos (by omega)], Keep.rf⟩ | exact ⟨_, rfl, by unfold q_last RQ; rw [if_neg (by omega), if_pos (by omega)], Keep.rf⟩ | exact ⟨_, rfl, by unfold q_last RQ; rw [if_neg (by omega), if_neg (by omega)]⟩
  refine V_aload_0 (pc := 0) dX5_last_0 ?_
  refine V_iload_2 (pc := 1) dX5_last_1 ?_
  refine V_callV1p (pc := 2) dX5_last_2 kv_X5_125 rc_0 (by omega) (d - 1) (by omega) rfl (c_X5_noEntry (by omega) hB hs (by omega)) ?_
  refine V_if_eq_b (pc := 5) 13 dX5_last_5 (by decide) (fun c_5 => ?_) (fun c_5 => ?_)
  · refine V_aload_0 (pc := 13) dX5_last_13 ?_
    refine V_iload_1 (pc := 14) dX5_last_14 ?_
    refine V_callV1p (pc := 15) dX5_last_15 kv_X5_222 rc_0 (by omega) (d - 1) (by omega) rfl (c_X5_refusedSeen (by omega) hB hW hZ (by omega)) ?_
    refine V_istore_3 (pc := 18) dX5_last_18 ?_
    exact good (by omega)
  · refine V_bipush (pc := 8) dX5_last_8 (by decide) ?_
    refine V_goto (pc := 10) 18 dX5_last_10 (by decide) ?_
    refine V_istore_3 (pc := 18) dX5_last_18 ?_
    exact bad (by omega)
