set_option maxRecDepth 20000 in
set_option maxHeartbeats 1000000 in
theorem c_X5_hide {d : Nat} (hd : 6 ≤ d) {σ : MM} {B : BK} {e y : Int} (hB : CB σ 1 B) (hG : GB B) (he : IR e) (hy : IR y) : V yX5_hide cX5_hide 4 (some .int) d (QI (fun v σ' => v = q_hide B e y ∧ Keep σ σ')) 0 [some (vR 0 0), some (vI e), some (vI y), none] [] σ := by
  have hW := hG.w
  have hs := hW.s
  have loop : (¬ ((e < 0 ∨ B 6 0 ≤ e) ∨ (B 0 0 = 0 ∨ y < 0 ∨ B 1 0 < y))) → ∀ i : Nat, i ≤ 10 → ∀ σi : MM, (CB σi 2 (ITB B e y i) ∧ Keep σ σi ∧ ∀ x : Int, 0 ≤ x ∧ x < (i : Int) → ¬ (SHD (ITB B e y x.toNat) (bt 0) (B 1 0) e < 5)) → V yX5_hide cX5_hide 4 (some .int) d (QI (fun v σ' => v = q_hide B e y ∧ Keep σ σ')) 32 [some (vR 0 0), some (vI e), some (vI y), some (vI (i : Int))] [] σi := by
    intro hR
    refine up_ind (P := fun i : Nat => ∀ σi : MM, (CB σi 2 (ITB B e y i) ∧ Keep σ σi ∧ ∀ x : Int, 0 ≤ x ∧ x < (i : Int) → ¬ (SHD (ITB B e y x.toNat) (bt 0) (B 1 0) e < 5)) → V yX5_hide cX5_hide 4 (some .int) d (QI (fun v σ' => v = q_hide B e y ∧ Keep σ σ')) 32 [some (vR 0 0), some (vI e), some (vI y), some (vI (i : Int))] [] σi) ?_ ?_
    · intro σi hI
      refine V_iload_3 (pc := 32) dX5_hide_32 ?_
      refine V_bipush (pc := 33) dX5_hide_33 (by decide) ?_
      refine V_icmp_gt (pc := 35) 92 dX5_hide_35 (by decide) (by omega) (by omega) (fun c_35 => ?_) (fun c_35 => ?_)
      · refine V_iconst (pc := 92) dX5_hide_92 ?_
        refine V_iretI (pc := 93) dX5_hide_93 rfl ?_
        exact ⟨_, rfl, by unfold q_hide; rw [if_neg hR]; exact (fst_no (p := (fun t => SHD (ITB B e y t.toNat) (bt 0) (B 1 0) e < 5)) 10 0 (fun x hx => hI.2.2 x (by omega))).symm, hI.2.1⟩
      · exact absurd c_35 (by omega)
    · intro i hi ih σi hI
      have he0 : 0 ≤ e ∧ e < B 6 0 := by omega
      have hy0 : 0 ≤ y ∧ y ≤ B 1 0 := by omega
      have h30 := hG.2.2.1
      have hWI := WB_ITB hW h30 he0 hy0 i (by omega)
      have e17 := ITB_17 (B := B) (e := e) (y := y) i
      have e1 : ITB B e y i 1 = B 1 := ITB_at (by decide) i
      have e6 : ITB B e y i 6 = B 6 := ITB_at (by decide) i
      have hsh := SHD_in (r := 0) (y := B 1 0) hWI (e := e) (by rw [e6]; exact he0)
      refine V_iload_3 (pc := 32) dX5_hide_32 ?_
      refine V_bipush (pc := 33) dX5_hide_33 (by decide) ?_
      refine V_icmp_gt (pc := 35) 92 dX5_hide_35 (by decide) (by omega) (by omega) (fun c_35 => ?_) (fun c_35 => ?_)
      · exact absurd c_35 (by omega)
      · refine V_aload_0 (pc := 38) dX5_hide_38 ?_
        refine V_getc (pc := 39) dX5_hide_39 gf_X5_36 (by omega) ?_
        refine V_aload_0 (pc := 42) dX5_hide_42 ?_
        refine V_getc (pc := 43) dX5_hide_43 gf_X5_26 (by omega) ?_
        refine V_iconst (pc := 46) dX5_hide_46 ?_
        refine V_callV2z (pc := 47) dX5_hide_47 kv_X5_99 rc_18 (by omega) (d - 1) (by omega) rfl (c_X2_follow (by omega) (by omega) (by omega) hI.1 hWI (by omega)) (fun σ_47 h_47 => ?_)
        have hF := h_47
        have hB2 := hF.2.CB (hI.2.1.CB (Or.inl rfl) hB)
        refine V_aload_0 (pc := 50) dX5_hide_50 ?_
        refine V_getc (pc := 51) dX5_hide_51 gf_X5_36 (by omega) ?_
        refine V_gets (pc := 54) dX5_hide_54 gf_X5_169 (by omega) ?_
        refine V_aload_0 (pc := 57) dX5_hide_57 ?_
        refine V_getc (pc := 58) dX5_hide_58 gf_X5_23 (by omega) ?_
        refine V_geti (pc := 61) dX5_hide_61 gf_X5_175 (by omega) hB2.s1 ?_
        refine V_aald_19 (pc := 64) dX5_hide_64 (by omega) (by omega) ?_
        refine V_iload_1 (pc := 65) dX5_hide_65 ?_
        refine V_iald (pc := 66) dX5_hide_66 sh_22 (by omega) (by omega) (hF.1.sh (y := B 1 0) (e := e) (by rw [e1]; omega) (by rw [e6]; exact he0)) ?_
        refine V_iconst (pc := 67) dX5_hide_67 ?_
        refine V_icmp_ge (pc := 68) 73 dX5_hide_68 (by decide) (by omega) (by omega) (fun c_68 => ?_) (fun c_68 => ?_)
        · refine V_aload_0 (pc := 73) dX5_hide_73 ?_
          refine V_getc (pc := 74) dX5_hide_74 gf_X5_26 (by omega) ?_
          refine V_gets (pc := 77) dX5_hide_77 gf_X5_255 (by omega) ?_
          refine V_iload_1 (pc := 80) dX5_hide_80 ?_
          refine V_iconst (pc := 81) dX5_hide_81 ?_
          refine V_iload_2 (pc := 82) dX5_hide_82 ?_
          refine V_callV3z (pc := 83) dX5_hide_83 kv_X5_259 rc_14 (by omega) (d - 1) (by omega) rfl (c_X0_add (by omega) (n := B 17 0 + i) (by omega) (by omega) (by rw [(hF.2.CB hI.1).dn, e17])) (fun σ_83 h_83 => ?_)
          refine V_iinc_3 (pc := 86) dX5_hide_86 ?_
          refine V_goto (pc := 89) 32 dX5_hide_89 (by decide) ?_
          refine V.sub (by simp only [subL, Option.some.injEq, Sum.inl.injEq, reduceCtorEq, true_or, or_true, false_or, true_and, and_true]; omega) (ih _ ⟨?_, ?_, nx_step hI.2.2 (fun q => absurd (show SHD (ITB B e y i) (bt 0) (B 1 0) e < 5 from q) (by omega)) (by omega)⟩)
          · rw [h_83]
            have := CB_act (e := e) (i := -1) (y := y) (hF.2.CB hI.1)
            rw [e17] at this
            exact this
          · rw [h_83]
            exact hI.2.1.tr (hF.2.keep.tr ((Keep.set (t := 15) (k := 2) (by decide)).tr ((Keep.set (t := 16) (k := 2) (by decide)).tr ((Keep.set (t := 17) (k := 2) (by decide)).tr (Keep.set (t := 14) (k := 2) (by decide))))))
        · refine V_iload_3 (pc := 71) dX5_hide_71 ?_
          refine V_iretI (pc := 72) dX5_hide_72 rfl ?_
          exact ⟨_, rfl, by unfold q_hide; rw [if_neg hR]; exact (fst_is (p := (fun t => SHD (ITB B e y t.toNat) (bt 0) (B 1 0) e < 5)) (x := (i : Int)) (by assumption) 10 0 (by omega) (fun x hx => hI.2.2 x (by omega))).symm, hI.2.1.tr hF.2.keep⟩
  refine V_aload_0 (pc := 0) dX5_hide_0 ?_
  refine V_iload_1 (pc := 1) dX5_hide_1 ?_
  refine V_callV1p (pc := 2) dX5_hide_2 kv_X5_125 rc_0 (by omega) (d - 1) (by omega) rfl (c_X5_noEntry (by omega) hB hs (by omega)) ?_
  refine V_if_ne_b (pc := 5) 16 dX5_hide_5 (by decide) (fun c_5 => ?_) (fun c_5 => ?_)
  · refine V_bipush (pc := 16) dX5_hide_16 (by decide) ?_
    refine V_iretI (pc := 18) dX5_hide_18 rfl ?_
    exact ⟨_, rfl, by unfold q_hide; rw [if_pos (by omega)], Keep.rf⟩
  · refine V_aload_0 (pc := 8) dX5_hide_8 ?_
    refine V_iload_2 (pc := 9) dX5_hide_9 ?_
    refine V_callV1p (pc := 10) dX5_hide_10 kv_X5_149 rc_0 (by omega) (d - 1) (by omega) rfl (c_X5_noYear (by omega) hB hs (by omega)) ?_
    refine V_if_eq_b (pc := 13) 19 dX5_hide_13 (by decide) (fun c_13 => ?_) (fun c_13 => ?_)
    · refine V_aload_0 (pc := 19) dX5_hide_19 ?_
      refine V_getc (pc := 20) dX5_hide_20 gf_X5_26 (by omega) ?_
      refine V_aload_0 (pc := 23) dX5_hide_23 ?_
      refine V_getc (pc := 24) dX5_hide_24 gf_X5_23 (by omega) ?_
      refine V_callV1z (pc := 27) dX5_hide_27 kv_X5_96 rc_3 (by omega) (d - 1) (by omega) rfl (c_X1_copyFrom (by omega) (by omega) (by omega) (by omega) hB hs) (fun σ_27 h_27 => ?_)
      refine V_iconst (pc := 30) dX5_hide_30 ?_
      refine V_istore_3 (pc := 31) dX5_hide_31 ?_
      exact loop (by omega) 0 (by omega) _ ⟨h_27.1, h_27.2.keep (Or.inl rfl), fun x hx => by omega⟩
    · refine V_bipush (pc := 16) dX5_hide_16 (by decide) ?_
      refine V_iretI (pc := 18) dX5_hide_18 rfl ?_
      exact ⟨_, rfl, by unfold q_hide; rw [if_pos (by omega)], Keep.rf⟩


/-- a book that has more acts than it counts -/
theorem CB_dn {σ : MM} {b : Int} {B B' : BK} (hB : CB σ b B') (h : ∀ t : Nat, t < 17 → B' t = B t) (hd : B 17 0 ≤ B' 17 0) (h17 : ∀ i : Int, 0 ≤ i ∧ i < B 17 0 → B' 18 i = B 18 i ∧ B' 19 i = B 19 i ∧ B' 20 i = B 20 i) : CB (setI σ 14 b 3 (B 17 0)) b B := by
  have hf : ∀ e, FAC B' e = FAC B e := fun e => FAC_cong (h 11 (by decide)) (congrFun (h 6 (by decide)) 0) e
  have hp : ∀ e, PLC B' e = PLC B e := fun e => PLC_cong (h 11 (by decide)) e
  obtain ⟨h1, h2, h3, h4, h5⟩ := hB
  rw [h 0 (by decide), h 1 (by decide), h 2 (by decide), h 3 (by decide), h 4 (by decide), h 5 (by decide), h 6 (by decide)] at h1
  rw [h 4 (by decide), h 7 (by decide), h 8 (by decide), h 9 (by decide)] at h2
  rw [h 5 (by decide), h 10 (by decide)] at h3
  rw [h 6 (by decide), h 11 (by decide), h 12 (by decide), h 13 (by decide), h 14 (by decide)] at h4
  simp only [hf, hp] at h4
  refine ⟨?_, ?_, ?_, ?_, ?_⟩
  · simp [setI_at, h1]
  · intro i hi; simp [setI_at, h2 i hi]
  · intro i hi; simp [setI_at, h3 i hi]
  · intro i hi; simp [setI_at, h4 i hi]
  · intro i hi
    have a := h5 i (by omega)
    have c := h17 i hi
    simp [setI_at, a, c]

set_option maxRecDepth 20000 in
set_option maxHeartbeats 1000000 in
theorem c_X5_save {d : Nat} (hd : 6 ≤ d) {σ : MM} {B : BK} {e : Int} (hB : CB σ 1 B) (hG : GB B) (he : IR e) : V yX5_save cX5_save 3 (some .int) d (QI (fun v σ' => v = q_save B e ∧ Keep σ σ')) 0 [some (vR 0 0), some (vI e), none] [] σ := by
  have hW := hG.w
  have hs := hW.s
  have loop : (¬ (e < 0 ∨ B 6 0 ≤ e)) → ∀ i : Nat, i ≤ (B 1 0 + 1 - B 13 e).toNat → ∀ σi : MM, ((∃ B' : BK, CB σi 2 B' ∧ (∀ t : Nat, t < 17 → B' t = B t) ∧ B 17 0 ≤ B' 17 0 ∧ ∀ i : Int, 0 ≤ i ∧ i < B 17 0 → B' 18 i = B 18 i ∧ B' 19 i = B 19 i ∧ B' 20 i = B 20 i) ∧ Keep σ σi ∧ ∀ x : Int, 0 ≤ x ∧ x < (B 13 e + (i : Int)) → ¬ (B 13 e ≤ x ∧ 5 ≤ SHD (aB B e (B 12 e) x) (bt 0) (B 1 0) e)) → V yX5_save cX5_save 3 (some .int) d (QI (fun v σ' => v = q_save B e ∧ Keep σ σ')) 32 [some (vR 0 0), some (vI e), some (vI (B 13 e + (i : Int)))] [] σi := by
    intro hR
    refine up_ind (P := fun i : Nat => ∀ σi : MM, ((∃ B' : BK, CB σi 2 B' ∧ (∀ t : Nat, t < 17 → B' t = B t) ∧ B 17 0 ≤ B' 17 0 ∧ ∀ i : Int, 0 ≤ i ∧ i < B 17 0 → B' 18 i = B 18 i ∧ B' 19 i = B 19 i ∧ B' 20 i = B 20 i) ∧ Keep σ σi ∧ ∀ x : Int, 0 ≤ x ∧ x < (B 13 e + (i : Int)) → ¬ (B 13 e ≤ x ∧ 5 ≤ SHD (aB B e (B 12 e) x) (bt 0) (B 1 0) e)) → V yX5_save cX5_save 3 (some .int) d (QI (fun v σ' => v = q_save B e ∧ Keep σ σ')) 32 [some (vR 0 0), some (vI e), some (vI (B 13 e + (i : Int)))] [] σi) ?_ ?_
    · intro σi hI
      have he0 : 0 ≤ e ∧ e < B 6 0 := by omega
      have h1 := hW.e he0
      have hNi := hI.2.1.CB (Or.inl rfl) hB
      refine V_iload_2 (pc := 32) dX5_save_32 ?_
      refine V_aload_0 (pc := 33) dX5_save_33 ?_
      refine V_getc (pc := 34) dX5_save_34 gf_X5_23 (by omega) ?_
      refine V_geti (pc := 37) dX5_save_37 gf_X5_175 (by omega) hNi.s1 ?_
      refine V_icmp_gt (pc := 40) 125 dX5_save_40 (by decide) (by omega) (by omega) (fun c_40 => ?_) (fun c_40 => ?_)
      · refine V_iconst (pc := 125) dX5_save_125 ?_
        refine V_iretI (pc := 126) dX5_save_126 rfl ?_
        exact ⟨_, rfl, by unfold q_save; rw [if_neg hR]; exact (fst_no (p := (fun y => B 13 e ≤ y ∧ 5 ≤ SHD (aB B e (B 12 e) y) (bt 0) (B 1 0) e)) _ 0 (fun x hx => hI.2.2 x (by omega))).symm, hI.2.1⟩
      · exact absurd c_40 (by omega)
    · intro i hi ih σi hI
      have he0 : 0 ≤ e ∧ e < B 6 0 := by omega
      have h30 := hG.2.2.1
      have h1 := hW.e he0
      have hNi := hI.2.1.CB (Or.inl rfl) hB
      obtain ⟨⟨B', hX, hX1, hX2, hX3⟩, hI1, hI2⟩ := hI
      have hT := CB_dn hX hX1 hX2 hX3
      have hWT := WB_act (e := e) (i := B 12 e) (y := (B 13 e + (i : Int))) hW (by omega) he0 (by omega) (by omega)
      have e1 : aB B e (B 12 e) (B 13 e + (i : Int)) 1 = B 1 := aB_at (by decide)
      have e6 : aB B e (B 12 e) (B 13 e + (i : Int)) 6 = B 6 := aB_at (by decide)
      have hsh := SHD_in (r := 0) (y := B 1 0) hWT (e := e) (by rw [e6]; exact he0)
      have hN2 : CB (setI σi 14 2 3 (B 17 0)) 1 B := (Keep.set (t := 14) (k := 2) (by decide)).CB (Or.inl rfl) hNi
      refine V_iload_2 (pc := 32) dX5_save_32 ?_
      refine V_aload_0 (pc := 33) dX5_save_33 ?_
      refine V_getc (pc := 34) dX5_save_34 gf_X5_23 (by omega) ?_
      refine V_geti (pc := 37) dX5_save_37 gf_X5_175 (by omega) hNi.s1 ?_
      refine V_icmp_gt (pc := 40) 125 dX5_save_40 (by decide) (by omega) (by omega) (fun c_40 => ?_) (fun c_40 => ?_)
      · exact absurd c_40 (by omega)
      · refine V_aload_0 (pc := 43) dX5_save_43 ?_
        refine V_getc (pc := 44) dX5_save_44 gf_X5_26 (by omega) ?_
        refine V_gets (pc := 47) dX5_save_47 gf_X5_255 (by omega) ?_
        refine V_aload_0 (pc := 50) dX5_save_50 ?_
        refine V_getc (pc := 51) dX5_save_51 gf_X5_23 (by omega) ?_
        refine V_gets (pc := 54) dX5_save_54 gf_X5_255 (by omega) ?_
        refine V_geti (pc := 57) dX5_save_57 gf_X5_265 (by omega) hNi.dn ?_
        refine V_puti (pc := 60) dX5_save_60 gf_X5_265 (by omega) ?_
        refine V_aload_0 (pc := 63) dX5_save_63 ?_
        refine V_getc (pc := 64) dX5_save_64 gf_X5_26 (by omega) ?_
        refine V_gets (pc := 67) dX5_save_67 gf_X5_255 (by omega) ?_
        refine V_iload_1 (pc := 70) dX5_save_70 ?_
        refine V_aload_0 (pc := 71) dX5_save_71 ?_
        refine V_getc (pc := 72) dX5_save_72 gf_X5_23 (by omega) ?_
        refine V_gets (pc := 75) dX5_save_75 gf_X5_131 (by omega) ?_
        refine V_iload_1 (pc := 78) dX5_save_78 ?_
        refine V_iald (pc := 79) dX5_save_79 sh_9 (by omega) (by omega) (hN2.a9 he0) ?_
        refine V_iload_2 (pc := 80) dX5_save_80 ?_
        refine V_callV3z (pc := 81) dX5_save_81 kv_X5_259 rc_14 (by omega) (d - 1) (by omega) rfl (c_X0_add (by omega) (n := B 17 0) (by omega) (by omega) hT.dn) (fun σ_81 h_81 => ?_)
        have hT2 := CB_act (e := e) (i := B 12 e) (y := (B 13 e + (i : Int))) hT
        rw [← h_81] at hT2
        subst h_81
        refine V_aload_0 (pc := 84) dX5_save_84 ?_
        refine V_getc (pc := 85) dX5_save_85 gf_X5_36 (by omega) ?_
        refine V_aload_0 (pc := 88) dX5_save_88 ?_
        refine V_getc (pc := 89) dX5_save_89 gf_X5_26 (by omega) ?_
        refine V_iconst (pc := 92) dX5_save_92 ?_
        refine V_callV2z (pc := 93) dX5_save_93 kv_X5_99 rc_18 (by omega) (d - 1) (by omega) rfl (c_X2_follow (by omega) (by omega) (by omega) hT2 hWT (by omega)) (fun σ_93 h_93 => ?_)
        have hF := h_93
        have hB2 := (hI1.tr ((Keep.set (t := 14) (k := 2) (by decide)).tr ((Keep.set (t := 15) (k := 2) (by decide)).tr ((Keep.set (t := 16) (k := 2) (by decide)).tr ((Keep.set (t := 17) (k := 2) (by decide)).tr ((Keep.set (t := 14) (k := 2) (by decide)).tr hF.2.keep)))))).CB (Or.inl rfl) hB
        refine V_aload_0 (pc := 96) dX5_save_96 ?_
        refine V_getc (pc := 97) dX5_save_97 gf_X5_36 (by omega) ?_
        refine V_gets (pc := 100) dX5_save_100 gf_X5_169 (by omega) ?_
        refine V_aload_0 (pc := 103) dX5_save_103 ?_
        refine V_getc (pc := 104) dX5_save_104 gf_X5_23 (by omega) ?_
        refine V_geti (pc := 107) dX5_save_107 gf_X5_175 (by omega) hB2.s1 ?_
        refine V_aald_19 (pc := 110) dX5_save_110 (by omega) (by omega) ?_
        refine V_iload_1 (pc := 111) dX5_save_111 ?_
        refine V_iald (pc := 112) dX5_save_112 sh_22 (by omega) (by omega) (hF.1.sh (y := B 1 0) (e := e) (by rw [e1]; omega) (by rw [e6]; exact he0)) ?_
        refine V_iconst (pc := 113) dX5_save_113 ?_
        refine V_icmp_lt (pc := 114) 119 dX5_save_114 (by decide) (by omega) (by omega) (fun c_114 => ?_) (fun c_114 => ?_)
        · refine V_iinc_2 (pc := 119) dX5_save_119 ?_
          refine V_goto (pc := 122) 32 dX5_save_122 (by decide) ?_
          refine V.sub (by simp only [subL, Option.some.injEq, Sum.inl.injEq, reduceCtorEq, true_or, or_true, false_or, true_and, and_true]; omega) (ih _ ⟨⟨_, hF.2.CB hT2, fun t ht => aB_at ht, by simp [aB, sB]; omega, fun x hx => ?_⟩, (hI1.tr ((Keep.set (t := 14) (k := 2) (by decide)).tr ((Keep.set (t := 15) (k := 2) (by decide)).tr ((Keep.set (t := 16) (k := 2) (by decide)).tr ((Keep.set (t := 17) (k := 2) (by decide)).tr ((Keep.set (t := 14) (k := 2) (by decide)).tr hF.2.keep)))))), nx_step hI2 (by omega) (by omega)⟩)
          have q : ¬ x = B 17 0 := by omega
          simp [aB, sB, q]
        · refine V_iload_2 (pc := 117) dX5_save_117 ?_
          refine V_iretI (pc := 118) dX5_save_118 rfl ?_
          exact ⟨_, rfl, by unfold q_save; rw [if_neg hR]; exact (fst_is (p := (fun y => B 13 e ≤ y ∧ 5 ≤ SHD (aB B e (B 12 e) y) (bt 0) (B 1 0) e)) (x := (B 13 e + (i : Int))) (by omega) _ 0 (by omega) (fun x hx => hI2 x (by omega))).symm, (hI1.tr ((Keep.set (t := 14) (k := 2) (by decide)).tr ((Keep.set (t := 15) (k := 2) (by decide)).tr ((Keep.set (t := 16) (k := 2) (by decide)).tr ((Keep.set (t := 17) (k := 2) (by decide)).tr ((Keep.set (t := 14) (k := 2) (by decide)).tr hF.2.keep))))))⟩
  refine V_aload_0 (pc := 0) dX5_save_0 ?_
  refine V_iload_1 (pc := 1) dX5_save_1 ?_
  refine V_callV1p (pc := 2) dX5_save_2 kv_X5_125 rc_0 (by omega) (d - 1) (by omega) rfl (c_X5_noEntry (by omega) hB hs (by omega)) ?_
  refine V_if_eq_b (pc := 5) 11 dX5_save_5 (by decide) (fun c_5 => ?_) (fun c_5 => ?_)
  · refine V_aload_0 (pc := 11) dX5_save_11 ?_
    refine V_getc (pc := 12) dX5_save_12 gf_X5_26 (by omega) ?_
    refine V_aload_0 (pc := 15) dX5_save_15 ?_
    refine V_getc (pc := 16) dX5_save_16 gf_X5_23 (by omega) ?_
    refine V_callV1z (pc := 19) dX5_save_19 kv_X5_96 rc_3 (by omega) (d - 1) (by omega) rfl (c_X1_copyFrom (by omega) (by omega) (by omega) (by omega) hB hs) (fun σ_19 h_19 => ?_)
    refine V_aload_0 (pc := 22) dX5_save_22 ?_
    refine V_getc (pc := 23) dX5_save_23 gf_X5_23 (by omega) ?_
    refine V_gets (pc := 26) dX5_save_26 gf_X5_134 (by omega) ?_
    refine V_iload_1 (pc := 29) dX5_save_29 ?_
    refine V_iald (pc := 30) dX5_save_30 sh_10 (by omega) (by omega) ((h_19.2.CB (by omega) hB).a10 (by omega)) ?_
    refine V_istore_2 (pc := 31) dX5_save_31 ?_
    refine V.sub (by simp only [subL, Option.some.injEq, Sum.inl.injEq, reduceCtorEq, true_or, or_true, false_or, true_and, and_true]; omega) (loop (by omega) 0 (by omega) _ ⟨⟨B, h_19.1, fun _ _ => rfl, Int.le_refl _, fun _ _ => ⟨rfl, rfl, rfl⟩⟩, h_19.2.keep (Or.inl rfl), fun x hx => by have := hW.e (i := e) (by omega); omega⟩)
  · refine V_bipush (pc := 8) dX5_save_8 (by decide) ?_
    refine V_iretI (pc := 10) dX5_save_10 rfl ?_
    exact ⟨_, rfl, by unfold q_save; rw [if_pos (by omega)], Keep.rf⟩

theorem HVY_in {B : BK} (hW : WB B) : ∀ n : Nat, (0 ≤ (HVY B n).2 ∧ (HVY B n).2 ≤ 420) ∧ -1 ≤ (HVY B n).1 ∧ (HVY B n).1 < n
  | 0 => ⟨TOT_in hW, by show -1 ≤ (-1 : Int) ∧ (-1 : Int) < ((0 : Nat) : Int); omega⟩
  | n + 1 => by
    have ih := HVY_in hW n
    have h := TOT_in (WB_wrote (k := (n : Int)) (v := 99) hW (by omega))
    rw [HVY]
    split <;> (try simp only) <;> omega
theorem ALS_6 {B B' T : BK} (h : B' 6 = B 6) : ALS B' T = ALS B T := by unfold ALS; rw [h]
theorem RK_tot {σ : MM} {y : Int} {B B' T : BK} (h : RK σ 1 y B' T) (h6 : B' 6 = B 6) : ∀ e : Int, 0 ≤ e ∧ e < B 6 0 → RS σ 1 y 0 e = T 0 e := fun e he => (h.2.1 e (by rw [h6]; exact he)).1

set_option maxRecDepth 20000 in
set_option maxHeartbeats 1000000 in
theorem c_tot2 {d : Nat} (hd : 0 ≤ d) {σ : MM} {j b y : Int} {B T : BK} (hj : 0 ≤ j ∧ j < 2) (hb : 0 ≤ b ∧ b < 6) (hB : CB σ b B) (hW : WB B) (hy : 0 ≤ y ∧ y < 21) (hK : ∀ e : Int, 0 ≤ e ∧ e < B 6 0 → RS σ j y 0 e = T 0 e) : V yX2_total cX2_total 5 (some .int) d (QI (fun v σ' => v = ALS B T ∧ σ' = σ)) 0 [some (vR 18 j), some (vR 3 b), some (vI y), none, none] [] σ := by
  have hs := hW.s
  have loop : ∀ i : Nat, i ≤ (B 6 0).toNat → V yX2_total cX2_total 5 (some .int) d (QI (fun v σ' => v = ALS B T ∧ σ' = σ)) 5 [some (vR 18 j), some (vR 3 b), some (vI y), some (vI (sumN (T 0) i)), some (vI (i : Int))] [] σ := by
    refine up_ind (P := fun i : Nat => V yX2_total cX2_total 5 (some .int) d (QI (fun v σ' => v = ALS B T ∧ σ' = σ)) 5 [some (vR 18 j), some (vR 3 b), some (vI y), some (vI (sumN (T 0) i)), some (vI (i : Int))] [] σ) ?_ ?_
    ·
      refine V_iload_4 (pc := 5) dX2_total_5 ?_
      refine V_aload_1 (pc := 7) dX2_total_7 ?_
      refine V_geti (pc := 8) dX2_total_8 gf_X2_37 (by omega) hB.s6 ?_
      refine V_icmp_ge (pc := 11) 32 dX2_total_11 (by decide) (by omega) (by omega) (fun c_11 => ?_) (fun c_11 => ?_)
      · refine V_iload_3 (pc := 32) dX2_total_32 ?_
        refine V_iretI (pc := 33) dX2_total_33 rfl ?_
        exact ⟨_, rfl, rfl, rfl⟩
      · exact absurd c_11 (by omega)
    · intro i hi ih
      refine V_iload_4 (pc := 5) dX2_total_5 ?_
      refine V_aload_1 (pc := 7) dX2_total_7 ?_
      refine V_geti (pc := 8) dX2_total_8 gf_X2_37 (by omega) hB.s6 ?_
      refine V_icmp_ge (pc := 11) 32 dX2_total_11 (by decide) (by omega) (by omega) (fun c_11 => ?_) (fun c_11 => ?_)
      · exact absurd c_11 (by omega)
      · refine V_iload_3 (pc := 14) dX2_total_14 ?_
        refine V_aload_0 (pc := 15) dX2_total_15 ?_
        refine V_gets (pc := 16) dX2_total_16 gf_X2_11 (by omega) ?_
        refine V_iload_2 (pc := 19) dX2_total_19 ?_
        refine V_aald_19 (pc := 20) dX2_total_20 (by omega) (by omega) ?_
        refine V_iload_4 (pc := 21) dX2_total_21 ?_
        refine V_iald (pc := 23) dX2_total_23 sh_22 (by omega) (by omega) ((RS_0 σ j y i).symm.trans (hK i (by omega))) ?_
        refine V_iadd (pc := 24) dX2_total_24 ?_
        refine V_istore_3 (pc := 25) dX2_total_25 ?_
        refine V_iinc_4 (pc := 26) dX2_total_26 ?_
        refine V_goto (pc := 29) 5 dX2_total_29 (by decide) ?_
        refine V.sub (by simp only [subL, Option.some.injEq, Sum.inl.injEq, reduceCtorEq, true_or, or_true, false_or, true_and, and_true]; exact ⟨rfl, by omega⟩) ih
  refine V_iconst (pc := 0) dX2_total_0 ?_
  refine V_istore_3 (pc := 1) dX2_total_1 ?_
  refine V_iconst (pc := 2) dX2_total_2 ?_
  refine V_istore_4 (pc := 3) dX2_total_3 ?_
  exact loop 0 (by omega)

set_option maxRecDepth 20000 in
set_option maxHeartbeats 1000000 in
theorem c_X5_heavy {d : Nat} (hd : 6 ≤ d) {σ : MM} {B : BK} (hB : CB σ 1 B) (hG : GB B) (hC : CK σ 0 B (bt 0)) : V yX5_heavy cX5_heavy 5 (some .int) d (QI (fun v σ' => v = q_heavy B ∧ Keep σ σ')) 0 [some (vR 0 0), none, none, none, none] [] σ := by
  have hW := hG.w
  have hs := hW.s
  have loop : (¬ B 0 0 = 0) → ∀ i : Nat, i ≤ (B 6 0).toNat → ∀ σi : MM, (CB σi 2 B ∧ Keep σ σi) → V yX5_heavy cX5_heavy 5 (some .int) d (QI (fun v σ' => v = q_heavy B ∧ Keep σ σ')) 44 [some (vR 0 0), some (vI (HVY B i).1), some (vI (HVY B i).2), some (vI (i : Int)), none] [] σi := by
    intro hR
    refine up_ind (P := fun i : Nat => ∀ σi : MM, (CB σi 2 B ∧ Keep σ σi) → V yX5_heavy cX5_heavy 5 (some .int) d (QI (fun v σ' => v = q_heavy B ∧ Keep σ σ')) 44 [some (vR 0 0), some (vI (HVY B i).1), some (vI (HVY B i).2), some (vI (i : Int)), none] [] σi) ?_ ?_
    · intro σi hI
      have hNi := hI.2.CB (Or.inl rfl) hB
      refine V_iload_3 (pc := 44) dX5_heavy_44 ?_
      refine V_aload_0 (pc := 45) dX5_heavy_45 ?_
      refine V_getc (pc := 46) dX5_heavy_46 gf_X5_23 (by omega) ?_
      refine V_geti (pc := 49) dX5_heavy_49 gf_X5_159 (by omega) hNi.s6 ?_
      refine V_icmp_ge (pc := 52) 133 dX5_heavy_52 (by decide) (by omega) (by omega) (fun c_52 => ?_) (fun c_52 => ?_)
      · refine V_iload_1 (pc := 133) dX5_heavy_133 ?_
        refine V_iretI (pc := 134) dX5_heavy_134 rfl ?_
        exact ⟨_, rfl, by unfold q_heavy; rw [if_neg hR], hI.2⟩
      · exact absurd c_52 (by omega)
    · intro i hi ih σi hI
      have hNi := hI.2.CB (Or.inl rfl) hB
      have hT := CB_put (k := (i : Int)) (v := 99) hI.1 (Or.inr (Or.inr (Or.inr (Or.inr (Or.inl ⟨rfl, rfl, rfl⟩)))))
      have hWT := WB_wrote (k := (i : Int)) (v := 99) hW (by omega)
      have hwe := hW.e (i := (i : Int)) (by omega)
      have t1 := TOT_in hWT
      have t2 := HVY_in hW i
      have hS : HVY B (i + 1) = if TOT (sB B 13 i 99) < (HVY B i).2 then ((i : Int), TOT (sB B 13 i 99)) else HVY B i := rfl
      refine V_iload_3 (pc := 44) dX5_heavy_44 ?_
      refine V_aload_0 (pc := 45) dX5_heavy_45 ?_
      refine V_getc (pc := 46) dX5_heavy_46 gf_X5_23 (by omega) ?_
      refine V_geti (pc := 49) dX5_heavy_49 gf_X5_159 (by omega) hNi.s6 ?_
      refine V_icmp_ge (pc := 52) 133 dX5_heavy_52 (by decide) (by omega) (by omega) (fun c_52 => ?_) (fun c_52 => ?_)
      · exact absurd c_52 (by omega)
      · refine V_aload_0 (pc := 55) dX5_heavy_55 ?_
        refine V_getc (pc := 56) dX5_heavy_56 gf_X5_26 (by omega) ?_
        refine V_gets (pc := 59) dX5_heavy_59 gf_X5_134 (by omega) ?_
        refine V_iload_3 (pc := 62) dX5_heavy_62 ?_
        refine V_bipush (pc := 63) dX5_heavy_63 (by decide) ?_
        refine V_iast (pc := 65) dX5_heavy_65 sh_10 (by omega) (by omega) ?_
        refine V_aload_0 (pc := 66) dX5_heavy_66 ?_
        refine V_getc (pc := 67) dX5_heavy_67 gf_X5_36 (by omega) ?_
        refine V_aload_0 (pc := 70) dX5_heavy_70 ?_
        refine V_getc (pc := 71) dX5_heavy_71 gf_X5_26 (by omega) ?_
        refine V_iconst (pc := 74) dX5_heavy_74 ?_
        refine V_callV2z (pc := 75) dX5_heavy_75 kv_X5_99 rc_18 (by omega) (d - 1) (by omega) rfl (c_X2_follow (by omega) (by omega) (by omega) hT hWT (by omega)) (fun σ_75 h_75 => ?_)
        have hF := h_75
        have hB2 := hF.2.CB ((Keep.set (t := 10) (k := 2) (by decide)).CB (Or.inl rfl) hNi)
        refine V_aload_0 (pc := 78) dX5_heavy_78 ?_
        refine V_getc (pc := 79) dX5_heavy_79 gf_X5_26 (by omega) ?_
        refine V_gets (pc := 82) dX5_heavy_82 gf_X5_134 (by omega) ?_
        refine V_iload_3 (pc := 85) dX5_heavy_85 ?_
        refine V_aload_0 (pc := 86) dX5_heavy_86 ?_
        refine V_getc (pc := 87) dX5_heavy_87 gf_X5_23 (by omega) ?_
        refine V_gets (pc := 90) dX5_heavy_90 gf_X5_134 (by omega) ?_
        refine V_iload_3 (pc := 93) dX5_heavy_93 ?_
        refine V_iald (pc := 94) dX5_heavy_94 sh_10 (by omega) (by omega) (hB2.a10 (by omega)) ?_
        refine V_iast (pc := 95) dX5_heavy_95 sh_10 (by omega) (by omega) ?_
        have hKs : Keep σ (setI σ_75 10 2 i (B 13 i)) := hI.2.tr ((Keep.set (t := 10) (k := 2) (by decide)).tr (hF.2.keep.tr (Keep.set (t := 10) (k := 2) (by decide))))
        have hB3 := hKs.CB (Or.inl rfl) hB
        have hT3 : CB (setI σ_75 10 2 i (B 13 i)) 2 B := by
          have := CB_put (k := (i : Int)) (v := B 13 i) (hF.2.CB hT) (Or.inr (Or.inr (Or.inr (Or.inr (Or.inl ⟨rfl, rfl, rfl⟩)))))
          rw [sB_sB, sB_id] at this
          exact this
        have hv9 : ALS B (YS (sB B 13 i 99) (bt 0) (B 1 0).toNat) = TOT (sB B 13 i 99) := rfl
        rw [← hv9] at hS t1
        refine V_aload_0 (pc := 96) dX5_heavy_96 ?_
        refine V_getc (pc := 97) dX5_heavy_97 gf_X5_36 (by omega) ?_
        refine V_aload_0 (pc := 100) dX5_heavy_100 ?_
        refine V_getc (pc := 101) dX5_heavy_101 gf_X5_23 (by omega) ?_
        refine V_aload_0 (pc := 104) dX5_heavy_104 ?_
        refine V_getc (pc := 105) dX5_heavy_105 gf_X5_23 (by omega) ?_
        refine V_geti (pc := 108) dX5_heavy_108 gf_X5_175 (by omega) hB3.s1 ?_
        refine V_callV2p (pc := 111) dX5_heavy_111 kv_X5_196 rc_18 (by omega) (d - 1) (by omega) rfl (c_tot2 (by omega) (T := YS (sB B 13 i 99) (bt 0) (B 1 0).toNat) (by omega) (by omega) hB3 hW (by omega) (fun e he => (RK_tot (hF.1.rk (y := B 1 0) (by show 0 ≤ B 1 0 ∧ B 1 0 ≤ B 1 0; omega)) rfl e he))) ?_
        refine V_istore_4 (pc := 114) dX5_heavy_114 ?_
        refine V_iload_4 (pc := 116) dX5_heavy_116 ?_
        refine V_iload_2 (pc := 118) dX5_heavy_118 ?_
        refine V_icmp_ge (pc := 119) 127 dX5_heavy_119 (by decide) (by omega) (by omega) (fun c_119 => ?_) (fun c_119 => ?_)
        · refine V_iinc_3 (pc := 127) dX5_heavy_127 ?_
          refine V_goto (pc := 130) 44 dX5_heavy_130 (by decide) ?_
          refine V.sub (by simp only [subL, Option.some.injEq, Sum.inl.injEq, Sum.inr.injEq, reduceCtorEq, true_or, or_true, false_or, true_and, and_true]; rw [hS, if_neg (by omega)]; refine ⟨rfl, rfl, by omega⟩) (ih _ ⟨hT3, hKs⟩)
        · refine V_iload_3 (pc := 122) dX5_heavy_122 ?_
          refine V_istore_1 (pc := 123) dX5_heavy_123 ?_
          refine V_iload_4 (pc := 124) dX5_heavy_124 ?_
          refine V_istore_2 (pc := 126) dX5_heavy_126 ?_
          refine V_iinc_3 (pc := 127) dX5_heavy_127 ?_
          refine V_goto (pc := 130) 44 dX5_heavy_130 (by decide) ?_
          refine V.sub (by simp only [subL, Option.some.injEq, Sum.inl.injEq, Sum.inr.injEq, reduceCtorEq, true_or, or_true, false_or, true_and, and_true]; rw [hS, if_pos (by omega)]; refine ⟨rfl, rfl, by omega⟩) (ih _ ⟨hT3, hKs⟩)
  refine V_aload_0 (pc := 0) dX5_heavy_0 ?_
  refine V_callV0p (pc := 1) dX5_heavy_1 kv_X5_155 rc_0 (by omega) (d - 1) (by omega) rfl (c_X5_noBook (by omega) hB hs) ?_
  refine V_if_eq_b (pc := 4) 10 dX5_heavy_4 (by decide) (fun c_4 => ?_) (fun c_4 => ?_)
  · refine V_iconst (pc := 10) dX5_heavy_10 ?_
    refine V_istore_1 (pc := 11) dX5_heavy_11 ?_
    refine V_aload_0 (pc := 12) dX5_heavy_12 ?_
    refine V_getc (pc := 13) dX5_heavy_13 gf_X5_32 (by omega) ?_
    refine V_aload_0 (pc := 16) dX5_heavy_16 ?_
    refine V_getc (pc := 17) dX5_heavy_17 gf_X5_23 (by omega) ?_
    refine V_aload_0 (pc := 20) dX5_heavy_20 ?_
    refine V_getc (pc := 21) dX5_heavy_21 gf_X5_23 (by omega) ?_
    refine V_geti (pc := 24) dX5_heavy_24 gf_X5_175 (by omega) hB.s1 ?_
    refine V_callV2p (pc := 27) dX5_heavy_27 kv_X5_196 rc_18 (by omega) (d - 1) (by omega) rfl (c_ALL (by omega) hB hW hC (by omega)) ?_
    refine V_istore_2 (pc := 30) dX5_heavy_30 ?_
    refine V_aload_0 (pc := 31) dX5_heavy_31 ?_
    refine V_getc (pc := 32) dX5_heavy_32 gf_X5_26 (by omega) ?_
    refine V_aload_0 (pc := 35) dX5_heavy_35 ?_
    refine V_getc (pc := 36) dX5_heavy_36 gf_X5_23 (by omega) ?_
    refine V_callV1z (pc := 39) dX5_heavy_39 kv_X5_96 rc_3 (by omega) (d - 1) (by omega) rfl (c_X1_copyFrom (by omega) (by omega) (by omega) (by omega) hB hs) (fun σ_39 h_39 => ?_)
    refine V_iconst (pc := 42) dX5_heavy_42 ?_
    refine V_istore_3 (pc := 43) dX5_heavy_43 ?_
    exact loop (by omega) 0 (by omega) _ ⟨h_39.1, h_39.2.keep (Or.inl rfl)⟩
  · refine V_bipush (pc := 7) dX5_heavy_7 (by decide) ?_
    refine V_iretI (pc := 9) dX5_heavy_9 rfl ?_
    exact ⟨_, rfl, by unfold q_heavy; rw [if_pos (by omega)], Keep.rf⟩
