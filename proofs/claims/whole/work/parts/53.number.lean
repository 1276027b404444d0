set_option maxRecDepth 20000 in
set_option maxHeartbeats 1000000 in
theorem c_X3_isWord {d : Nat} (hd : 4 ≤ d) {σ : MM} {T : Int → Int} {n : Int} {p : Int} {w : Nat} (hR : RDF σ T n) (hp : 0 ≤ p ∧ p ≤ n) (hw : w < 15) (hT : TOK σ T n p) : V yX3_isWord cX3_isWord 3 (some .boolean) d (QI (fun v σ' => v = bI (WRD T n p w) ∧ σ' = σ)) 0 [some (vR 1 0), some (vR 90 (w : Int)), none] [] σ := by
  have hn7 := hR.2.1
  have hTS := TS_in (T := T) hp
  have hTE := TE_in (T := T) hp
  have hK := TK_in T n p
  have hL := SLN_in w hw
  have loop : (TK T n p = 1 ∧ TE T n p - TS T n p = SLN w) → ∀ i : Nat, i ≤ (SLN w).toNat → (∀ x : Int, 0 ≤ x ∧ x < (i : Int) → T (TS T n p + x) = SCH w x) → V yX3_isWord cX3_isWord 3 (some .boolean) d (QI (fun v σ' => v = bI (WRD T n p w) ∧ σ' = σ)) 28 [some (vR 1 0), some (vR 90 (w : Int)), some (vI (i : Int))] [] σ := by
    intro hRR
    refine up_ind (P := fun i : Nat => (∀ x : Int, 0 ≤ x ∧ x < (i : Int) → T (TS T n p + x) = SCH w x) → V yX3_isWord cX3_isWord 3 (some .boolean) d (QI (fun v σ' => v = bI (WRD T n p w) ∧ σ' = σ)) 28 [some (vR 1 0), some (vR 90 (w : Int)), some (vI (i : Int))] [] σ) ?_ ?_
    · intro hI
      refine V_iload_2 (pc := 28) dX3_isWord_28 ?_
      refine V_aload_1 (pc := 29) dX3_isWord_29 ?_
      refine V_callVs0 (pc := 30) dX3_isWord_30 kv_X3_130 rfl hw (d - 1) (by omega) rfl (c_J0_length_8abf5 (by omega) hw) ?_
      refine V_icmp_ge (pc := 33) 62 dX3_isWord_33 (by decide) (by omega) (by omega) (fun c_33 => ?_) (fun c_33 => ?_)
      · refine V_iconst (pc := 62) dX3_isWord_62 ?_
        refine V_iretZ (pc := 63) dX3_isWord_63 rfl (by omega) ?_
        exact ⟨_, rfl, (bI_t (WRD_iff.mpr ⟨hRR.1, hRR.2, fun x hx => hI x (by omega)⟩)).symm, rfl⟩
      · exact absurd c_33 (by omega)
    · intro i hi ih hI
      have hc := SCH_in hw (x := (i : Int)) (by omega)
      have hb := BYA_at (T := T) (n := n) (x := TS T n p + i) (by omega)
      have ht := (hR.2.2 (TS T n p + i) (by omega)).2
      refine V_iload_2 (pc := 28) dX3_isWord_28 ?_
      refine V_aload_1 (pc := 29) dX3_isWord_29 ?_
      refine V_callVs0 (pc := 30) dX3_isWord_30 kv_X3_130 rfl hw (d - 1) (by omega) rfl (c_J0_length_8abf5 (by omega) hw) ?_
      refine V_icmp_ge (pc := 33) 62 dX3_isWord_33 (by decide) (by omega) (by omega) (fun c_33 => ?_) (fun c_33 => ?_)
      · exact absurd c_33 (by omega)
      · refine V_aload_0 (pc := 36) dX3_isWord_36 ?_
        refine V_aload_0 (pc := 37) dX3_isWord_37 ?_
        refine V_geti (pc := 38) dX3_isWord_38 gf_X3_28 (by omega) hT.2.1 ?_
        refine V_iload_2 (pc := 41) dX3_isWord_41 ?_
        refine V_iadd (pc := 42) dX3_isWord_42 ?_
        refine V_callV1p (pc := 43) dX3_isWord_43 kv_X3_135 rc_1 (by omega) (d - 1) (by omega) rfl (c_X3_byteAt (by omega) hR (by omega)) ?_
        refine V_aload_1 (pc := 46) dX3_isWord_46 ?_
        refine V_iload_2 (pc := 47) dX3_isWord_47 ?_
        refine V_callVs1 (pc := 48) dX3_isWord_48 kv_X3_139 rfl hw (d - 1) (by omega) rfl (c_J0_charAt_5068e (by omega) hw (by omega)) ?_
        refine V_icmp_eq (pc := 51) 56 dX3_isWord_51 (by decide) (by omega) (by omega) (fun c_51 => ?_) (fun c_51 => ?_)
        · refine V_iinc_2 (pc := 56) dX3_isWord_56 ?_
          refine V_goto (pc := 59) 28 dX3_isWord_59 (by decide) ?_
          refine V.sub (by simp only [subL, Option.some.injEq, Sum.inl.injEq, reduceCtorEq, true_or, or_true, false_or, true_and, and_true]; omega) (ih (fun x hx => by by_cases q : x = i; (subst q; omega); exact hI x (by omega)))
        · refine V_iconst (pc := 54) dX3_isWord_54 ?_
          refine V_iretZ (pc := 55) dX3_isWord_55 rfl (by omega) ?_
          exact ⟨_, rfl, (bI_f (fun q => by have := (WRD_iff.mp q).2.2 i (by omega); omega)).symm, rfl⟩
  refine V_aload_0 (pc := 0) dX3_isWord_0 ?_
  refine V_geti (pc := 1) dX3_isWord_1 gf_X3_25 (by omega) hT.1 ?_
  refine V_iconst (pc := 4) dX3_isWord_4 ?_
  refine V_icmp_ne (pc := 5) 24 dX3_isWord_5 (by decide) (by omega) (by omega) (fun c_5 => ?_) (fun c_5 => ?_)
  · refine V_iconst (pc := 24) dX3_isWord_24 ?_
    refine V_iretZ (pc := 25) dX3_isWord_25 rfl (by omega) ?_
    exact ⟨_, rfl, (bI_f (fun q => by omega)).symm, rfl⟩
  · refine V_aload_0 (pc := 8) dX3_isWord_8 ?_
    refine V_geti (pc := 9) dX3_isWord_9 gf_X3_31 (by omega) hT.2.2.1 ?_
    refine V_aload_0 (pc := 12) dX3_isWord_12 ?_
    refine V_geti (pc := 13) dX3_isWord_13 gf_X3_28 (by omega) hT.2.1 ?_
    refine V_isub (pc := 16) dX3_isWord_16 ?_
    refine V_aload_1 (pc := 17) dX3_isWord_17 ?_
    refine V_callVs0 (pc := 18) dX3_isWord_18 kv_X3_130 rfl hw (d - 1) (by omega) rfl (c_J0_length_8abf5 (by omega) hw) ?_
    refine V_icmp_eq (pc := 21) 26 dX3_isWord_21 (by decide) (by omega) (by omega) (fun c_21 => ?_) (fun c_21 => ?_)
    · refine V_iconst (pc := 26) dX3_isWord_26 ?_
      refine V_istore_2 (pc := 27) dX3_isWord_27 ?_
      exact loop ⟨by omega, by omega⟩ 0 (by omega) (fun x hx => by omega)
    · refine V_iconst (pc := 24) dX3_isWord_24 ?_
      refine V_iretZ (pc := 25) dX3_isWord_25 rfl (by omega) ?_
      exact ⟨_, rfl, (bI_f (fun q => by omega)).symm, rfl⟩

theorem RST_tok {σ : MM} {T : Int → Int} {n p : Int} (h2 : σ 1 0 2 = 0) (h3 : σ 1 0 3 = -1) (hp : 0 ≤ p ∧ p ≤ n) (ht : TOK σ T n p) : RST σ T n (0, p) := ⟨h2, ⟨Int.le_refl 0, (by decide : (0 : Int) ≤ 3)⟩, hp, fun _ => ⟨ht, h3⟩, fun q => absurd rfl q, by rw [ht.1]; exact TK_in T n p⟩
theorem RST_flt {σ : MM} {T : Int → Int} {n f p : Int} (hf : 1 ≤ f ∧ f ≤ 3) (h2 : σ 1 0 2 = f) (h3 : σ 1 0 3 = p) (hp : 0 ≤ p ∧ p ≤ n) (hk : 0 ≤ σ 1 0 4 ∧ σ 1 0 4 ≤ 4) : RST σ T n (f, p) := ⟨h2, by show 0 ≤ f ∧ f ≤ 3; omega, hp, fun q => absurd (show f = 0 from q) (by omega), fun _ => h3, hk⟩
theorem OffT.rst {σ σ' : MM} {T : Int → Int} {n p q : Int} (h : OffT σ σ') (hs : RST σ T n (0, p)) (hq : 0 ≤ q ∧ q ≤ n) (ht : TOK σ' T n q) : RST σ' T n (0, q) := RST_tok ((h 1 0 2 (by omega)).trans hs.1) ((h 1 0 3 (by omega)).trans (hs.2.2.2.1 rfl).2) hq ht
theorem NBF_1 {T : Int → Int} {n lo hi : Int} {w : Nat} {s : Int × Int} (h : s.1 ≠ 0) : NBF T n w lo hi s = (s, 0) := if_pos h
theorem NBF_2 {T : Int → Int} {n lo hi : Int} {w : Nat} {s : Int × Int} (h : s.1 = 0) (h2 : ¬ WRD T n s.2 w) : NBF T n w lo hi s = ((1, TS T n s.2), 0) := by unfold NBF; rw [if_neg (fun q => q h), if_pos h2]
theorem NBF_3 {T : Int → Int} {n lo hi : Int} {w : Nat} {s : Int × Int} (h : s.1 = 0) (h2 : WRD T n s.2 w) (h3 : TK T n (TE T n s.2) ≠ 2) : NBF T n w lo hi s = ((1, TS T n (TE T n s.2)), 0) := by unfold NBF; rw [if_neg (fun q => q h), if_neg (fun q => q h2), if_pos h3]
theorem NBF_4 {T : Int → Int} {n lo hi : Int} {w : Nat} {s : Int × Int} (h : s.1 = 0) (h2 : WRD T n s.2 w) (h3 : TK T n (TE T n s.2) = 2) (h4 : TV T n (TE T n s.2) < lo ∨ hi < TV T n (TE T n s.2)) : NBF T n w lo hi s = ((2, TS T n (TE T n s.2)), 0) := by unfold NBF; rw [if_neg (fun q => q h), if_neg (fun q => q h2), if_neg (fun q => q h3), if_pos h4]
theorem NBF_5 {T : Int → Int} {n lo hi : Int} {w : Nat} {s : Int × Int} (h : s.1 = 0) (h2 : WRD T n s.2 w) (h3 : TK T n (TE T n s.2) = 2) (h4 : ¬ (TV T n (TE T n s.2) < lo ∨ hi < TV T n (TE T n s.2))) : NBF T n w lo hi s = ((0, TE T n (TE T n s.2)), TV T n (TE T n s.2)) := by unfold NBF; rw [if_neg (fun q => q h), if_neg (fun q => q h2), if_neg (fun q => q h3), if_neg h4]
theorem TV_in {T : Int → Int} {n i : Int} (hi : 0 ≤ i ∧ i ≤ n) (h : TK T n i = 2) : 0 ≤ TV T n i := by
  have h1 := TE_in (T := T) hi
  exact NM_in (fun x hx => TE_dig hi h x (by omega))

set_option maxRecDepth 20000 in
set_option maxHeartbeats 1000000 in
theorem c_X3_numberBehind {d : Nat} (hd : 5 ≤ d) {σ : MM} {T : Int → Int} {n : Int} {w : Nat} {lo hi : Int} {s : Int × Int} (hR : RDF σ T n) (hw : w < 15) (hlo : 0 ≤ lo ∧ lo ≤ 100) (hhi : -1 ≤ hi ∧ hi ≤ 100) (hS : RST σ T n s) : V yX3_numberBehind cX3_numberBehind 5 (some .int) d (QI (fun v σ' => v = (NBF T n w lo hi s).2 ∧ RST σ' T n (NBF T n w lo hi s).1 ∧ OffR σ σ')) 0 [some (vR 1 0), some (vR 90 (w : Int)), some (vI lo), some (vI hi), none] [] σ := by
  have hn7 := hR.2.1
  obtain ⟨h2, hf3, hp3, hS0, hS1, hS4⟩ := hS
  have good : s.1 = 0 → WRD T n s.2 w → V yX3_numberBehind cX3_numberBehind 5 (some .int) d (QI (fun v σ' => v = (NBF T n w lo hi s).2 ∧ RST σ' T n (NBF T n w lo hi s).1 ∧ OffR σ σ')) 29 [some (vR 1 0), some (vR 90 (w : Int)), some (vI lo), some (vI hi), none] [] σ := by
    intro hs0 hWd
    obtain ⟨hTk, h3⟩ := hS0 hs0
    rw [hs0] at h2
    have hRd := hR
    have hTE := TE_in (T := T) hp3
    have hTS := TS_in (T := T) hp3
    have hp4 : 0 ≤ TE T n s.2 ∧ TE T n s.2 ≤ n := by omega
    have hTE2 := TE_in (T := T) hp4
    have hTS2 := TS_in (T := T) hp4
    have hK2 := TK_in T n (TE T n s.2)
    refine V_aload_0 (pc := 29) dX3_numberBehind_29 ?_
    refine V_callV0z (pc := 30) dX3_numberBehind_30 kv_X3_37 rc_1 (by omega) (d - 1) (by omega) rfl (c_X3_advance (by omega) hRd (by omega) (hTk.2.2.1)) (fun σ_30 h_30 => ?_)
    refine V_aload_0 (pc := 33) dX3_numberBehind_33 ?_
    refine V_geti (pc := 34) dX3_numberBehind_34 gf_X3_25 (by omega) h_30.1.1 ?_
    refine V_iconst (pc := 37) dX3_numberBehind_37 ?_
    refine V_icmp_eq (pc := 38) 48 dX3_numberBehind_38 (by decide) (by omega) (by omega) (fun c_38 => ?_) (fun c_38 => ?_)
    · refine V_aload_0 (pc := 48) dX3_numberBehind_48 ?_
      have hv0 := TV_in (T := T) (n := n) (i := TE T n s.2) (by omega) (by omega)
      refine V_geti (pc := 49) dX3_numberBehind_49 gf_X3_34 (by omega) (v := min 1000 (TV T n (TE T n s.2))) (h_30.1.2.2.2 (by omega)) ?_
      refine V_iload_2 (pc := 52) dX3_numberBehind_52 ?_
      refine V_icmp_lt (pc := 53) 64 dX3_numberBehind_53 (by decide) (by omega) (by omega) (fun c_53 => ?_) (fun c_53 => ?_)
      · refine V_aload_0 (pc := 64) dX3_numberBehind_64 ?_
        refine V_iconst (pc := 65) dX3_numberBehind_65 ?_
        refine V_callV1z (pc := 66) dX3_numberBehind_66 kv_X3_44 rc_1 (by omega) (d - 1) (by omega) rfl (c_X3_blame (by omega) (f0 := 0) (by rw [h_30.2 1 0 2 (by omega)]; exact h2) (by omega) h_30.1.2.1) (fun σ_66 h_66 => ?_)
        refine V_iconst (pc := 69) dX3_numberBehind_69 ?_
        refine V_iretI (pc := 70) dX3_numberBehind_70 rfl ?_
        rw [if_pos rfl] at h_66
        have e := NBF_4 (lo := lo) (hi := hi) hs0 hWd c_38 (by omega)
        rw [e]
        exact ⟨_, rfl, rfl, by rw [h_66]; exact RST_flt (by omega) (by simp [setI_at]) (by simp [setI_at]) (by omega) (by simp [setI_at, h_30.1.1]; omega), by rw [h_66]; exact h_30.2.R.tr ((OffR.set (by omega)).tr (OffR.set (by omega)))⟩
      · refine V_aload_0 (pc := 56) dX3_numberBehind_56 ?_
        refine V_geti (pc := 57) dX3_numberBehind_57 gf_X3_34 (by omega) (v := min 1000 (TV T n (TE T n s.2))) (h_30.1.2.2.2 (by omega)) ?_
        refine V_iload_3 (pc := 60) dX3_numberBehind_60 ?_
        refine V_icmp_le (pc := 61) 71 dX3_numberBehind_61 (by decide) (by omega) (by omega) (fun c_61 => ?_) (fun c_61 => ?_)
        · refine V_aload_0 (pc := 71) dX3_numberBehind_71 ?_
          refine V_geti (pc := 72) dX3_numberBehind_72 gf_X3_34 (by omega) (v := min 1000 (TV T n (TE T n s.2))) (h_30.1.2.2.2 (by omega)) ?_
          refine V_istore_4 (pc := 75) dX3_numberBehind_75 ?_
          refine V_aload_0 (pc := 77) dX3_numberBehind_77 ?_
          refine V_callV0z (pc := 78) dX3_numberBehind_78 kv_X3_37 rc_1 (by omega) (d - 1) (by omega) rfl (c_X3_advance (by omega) (h_30.2.rdf hRd) (by omega) h_30.1.2.2.1) (fun σ_78 h_78 => ?_)
          refine V_iload_4 (pc := 81) dX3_numberBehind_81 ?_
          refine V_iretI (pc := 83) dX3_numberBehind_83 rfl ?_
          have e := NBF_5 (lo := lo) (hi := hi) hs0 hWd c_38 (by omega)
          rw [e]
          exact ⟨_, rfl, by show _ = TV T n (TE T n s.2); omega, RST_tok (by rw [h_78.2 1 0 2 (by omega), h_30.2 1 0 2 (by omega)]; exact h2) (by rw [h_78.2 1 0 3 (by omega), h_30.2 1 0 3 (by omega)]; exact h3) (by omega) h_78.1, (h_30.2.tr h_78.2).R⟩
        · refine V_aload_0 (pc := 64) dX3_numberBehind_64 ?_
          refine V_iconst (pc := 65) dX3_numberBehind_65 ?_
          refine V_callV1z (pc := 66) dX3_numberBehind_66 kv_X3_44 rc_1 (by omega) (d - 1) (by omega) rfl (c_X3_blame (by omega) (f0 := 0) (by rw [h_30.2 1 0 2 (by omega)]; exact h2) (by omega) h_30.1.2.1) (fun σ_66 h_66 => ?_)
          refine V_iconst (pc := 69) dX3_numberBehind_69 ?_
          refine V_iretI (pc := 70) dX3_numberBehind_70 rfl ?_
          rw [if_pos rfl] at h_66
          have e := NBF_4 (lo := lo) (hi := hi) hs0 hWd c_38 (by omega)
          rw [e]
          exact ⟨_, rfl, rfl, by rw [h_66]; exact RST_flt (by omega) (by simp [setI_at]) (by simp [setI_at]) (by omega) (by simp [setI_at, h_30.1.1]; omega), by rw [h_66]; exact h_30.2.R.tr ((OffR.set (by omega)).tr (OffR.set (by omega)))⟩
    · refine V_aload_0 (pc := 41) dX3_numberBehind_41 ?_
      refine V_iconst (pc := 42) dX3_numberBehind_42 ?_
      refine V_callV1z (pc := 43) dX3_numberBehind_43 kv_X3_44 rc_1 (by omega) (d - 1) (by omega) rfl (c_X3_blame (by omega) (f0 := 0) (by rw [h_30.2 1 0 2 (by omega)]; exact h2) (by omega) h_30.1.2.1) (fun σ_43 h_43 => ?_)
      refine V_iconst (pc := 46) dX3_numberBehind_46 ?_
      refine V_iretI (pc := 47) dX3_numberBehind_47 rfl ?_
      rw [if_pos rfl] at h_43
      have e := NBF_3 (lo := lo) (hi := hi) hs0 hWd c_38
      rw [e]
      exact ⟨_, rfl, rfl, by rw [h_43]; exact RST_flt (by omega) (by simp [setI_at]) (by simp [setI_at]) (by omega) (by simp [setI_at, h_30.1.1]; omega), by rw [h_43]; exact h_30.2.R.tr ((OffR.set (by omega)).tr (OffR.set (by omega)))⟩
  have bad : s.1 ≠ 0 → V yX3_numberBehind cX3_numberBehind 5 (some .int) d (QI (fun v σ' => v = (NBF T n w lo hi s).2 ∧ RST σ' T n (NBF T n w lo hi s).1 ∧ OffR σ σ')) 20 [some (vR 1 0), some (vR 90 (w : Int)), some (vI lo), some (vI hi), none] [] σ := by
    intro hs1
    refine V_aload_0 (pc := 20) dX3_numberBehind_20 ?_
    refine V_geti (pc := 21) dX3_numberBehind_21 gf_X3_19 (by omega) h2 ?_
    refine V_if_eq (pc := 24) 29 dX3_numberBehind_24 (by decide) (by omega) (fun c_24 => ?_) (fun c_24 => ?_)
    · exact absurd c_24 (by omega)
    · refine V_iconst (pc := 27) dX3_numberBehind_27 ?_
      refine V_iretI (pc := 28) dX3_numberBehind_28 rfl ?_
      rw [NBF_1 hs1]
      exact ⟨_, rfl, rfl, ⟨h2, hf3, hp3, hS0, hS1, hS4⟩, OffR.rf⟩
  have nowd : s.1 = 0 → ¬ WRD T n s.2 w → V yX3_numberBehind cX3_numberBehind 5 (some .int) d (QI (fun v σ' => v = (NBF T n w lo hi s).2 ∧ RST σ' T n (NBF T n w lo hi s).1 ∧ OffR σ σ')) 20 [some (vR 1 0), some (vR 90 (w : Int)), some (vI lo), some (vI hi), none] [] (setI (setI σ 1 0 2 1) 1 0 3 (TS T n s.2)) := by
    intro hs0 hWd
    refine V_aload_0 (pc := 20) dX3_numberBehind_20 ?_
    refine V_geti (pc := 21) dX3_numberBehind_21 gf_X3_19 (by omega) (v := 1) (by simp [setI_at]) ?_
    refine V_if_eq (pc := 24) 29 dX3_numberBehind_24 (by decide) (by omega) (fun c_24 => ?_) (fun c_24 => ?_)
    · exact absurd c_24 (by omega)
    · refine V_iconst (pc := 27) dX3_numberBehind_27 ?_
      refine V_iretI (pc := 28) dX3_numberBehind_28 rfl ?_
      have e := NBF_2 (lo := lo) (hi := hi) hs0 hWd
      rw [e]
      have hTS := TS_in (T := T) hp3
      exact ⟨_, rfl, rfl, RST_flt (by omega) (by simp [setI_at]) (by simp [setI_at]) (by omega) (by have hkk := (hS0 hs0).1.1; have hK := TK_in T n s.2; simp [setI_at, hkk]; omega), (OffR.set (by omega)).tr (OffR.set (by omega))⟩
  have okay : s.1 = 0 → WRD T n s.2 w → V yX3_numberBehind cX3_numberBehind 5 (some .int) d (QI (fun v σ' => v = (NBF T n w lo hi s).2 ∧ RST σ' T n (NBF T n w lo hi s).1 ∧ OffR σ σ')) 20 [some (vR 1 0), some (vR 90 (w : Int)), some (vI lo), some (vI hi), none] [] σ := by
    intro hs0 hWd
    refine V_aload_0 (pc := 20) dX3_numberBehind_20 ?_
    refine V_geti (pc := 21) dX3_numberBehind_21 gf_X3_19 (by omega) h2 ?_
    refine V_if_eq (pc := 24) 29 dX3_numberBehind_24 (by decide) (by omega) (fun c_24 => ?_) (fun c_24 => ?_)
    · exact good hs0 hWd
    · refine V_iconst (pc := 27) dX3_numberBehind_27 ?_
      refine V_iretI (pc := 28) dX3_numberBehind_28 rfl ?_
      exact absurd hs0 (by omega)
  refine V_aload_0 (pc := 0) dX3_numberBehind_0 ?_
  refine V_geti (pc := 1) dX3_numberBehind_1 gf_X3_19 (by omega) (v := s.1) (by first | exact h2 | (rw [h_17]; rw [if_pos c_4]; simp [setI_at])) ?_
  refine V_if_ne (pc := 4) 20 dX3_numberBehind_4 (by decide) (by omega) (fun c_4 => ?_) (fun c_4 => ?_)
  · exact bad c_4
  · refine V_aload_0 (pc := 7) dX3_numberBehind_7 ?_
    refine V_aload_1 (pc := 8) dX3_numberBehind_8 ?_
    refine V_callV1p (pc := 9) dX3_numberBehind_9 kv_X3_55 rc_1 (by omega) (d - 1) (by omega) rfl (c_X3_isWord (by omega) hR hp3 hw (hS0 c_4).1) ?_
    refine V_if_ne_b (pc := 12) 20 dX3_numberBehind_12 (by decide) (fun c_12 => ?_) (fun c_12 => ?_)
    · exact okay c_4 c_12
    · refine V_aload_0 (pc := 15) dX3_numberBehind_15 ?_
      refine V_iconst (pc := 16) dX3_numberBehind_16 ?_
      refine V_callV1z (pc := 17) dX3_numberBehind_17 kv_X3_44 rc_1 (by omega) (d - 1) (by omega) rfl (c_X3_blame (by omega) (f0 := s.1) h2 (by omega) (hS0 c_4).1.2.1) (fun σ_17 h_17 => ?_)
      rw [if_pos c_4] at h_17
      subst h_17
      exact nowd c_4 c_12
