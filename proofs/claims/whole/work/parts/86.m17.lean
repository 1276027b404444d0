/-! THE REFERENCE reads a book -/
theorem MRl.over {σ σ' : MM} {X : CST} {a b : Int} (hX : MRl σ X) (hO : XOK X) (h : ∀ (t : Nat) (k z : Int), ¬ (t = 34 ∧ 6 ≤ z ∧ z ≤ 15) → ¬ ISL 4 t z → σ' t k z = σ t k z) (h6 : σ' 34 0 6 = 0) (h14 : σ' 34 0 14 = a) (h15 : σ' 34 0 15 = b) : MRl σ' (X.B, X.Z, X.T, (0, a, b), X.I, X.K) := by
  obtain ⟨hM, hZ, _, _, hI⟩ := hX
  have c : ∀ {u : Int} {B : BK}, MB σ u B → GB B → 4 ≠ u → MB σ' u B := by
    intro u B hb hg hu
    have m1 : OffM 4 σ (fun t k z => if 40 ≤ t ∧ t ≤ 45 then σ' t k z else σ t k z) := fun t k z q1 q2 => by
      show (if 40 ≤ t ∧ t ≤ 45 then σ' t k z else σ t k z) = σ t k z
      split
      · exact h t k z (by omega) q2
      · rfl
    exact (m1.mb hb hg hu).cong (fun t ht => by funext k z; show σ' t k z = if 40 ≤ t ∧ t ≤ 45 then σ' t k z else σ t k z; rw [if_pos ht])
  have e : ∀ t : Nat, (35 ≤ t ∧ t ≤ 39) ∨ t = 46 → σ' t = σ t := fun t q => by funext k z; exact h t k z (by omega) (by unfold ISL; omega)
  refine ⟨c hM hO.1 (by decide), hZ.cong (e 35 (by omega)) (e 36 (by omega)) (e 37 (by omega)), ⟨h6, fun x hx => absurd hx (by show ¬ (0 ≤ x ∧ x < 0); omega)⟩, ⟨h14, h15⟩, fun k hk => ?_⟩
  show σ' 46 0 k = X.K k ∧ (X.K k = 1 → MB σ' (1 + k) (X.I k))
  rw [e 46 (by omega)]
  refine ⟨(hI k hk).1, fun q => ?_⟩
  rcases hO.2.2.2 k hk with r | r
  · omega
  · exact c ((hI k hk).2 q) r.2 (by omega)
theorem NBF_b {T : Int → Int} {n lo hi : Int} {w : Nat} {s : Int × Int} (h : s.1 ≠ 0) : NBF T n w lo hi s = (s, 0) := if_pos h

set_option maxRecDepth 20000 in
set_option maxHeartbeats 1000000 in
theorem c_X6_book {d : Nat} (hd : 7 ≤ d) {σ : MM} {X : CST} (hX : MRl σ X) (hO : XOK X) : V yX6_book cX6_book 1 (some .int) d (QI (fun v σ' => v = q_book X ∧ MRl σ' (s_book X) ∧ FM σ σ')) 0 [some (vR 34 0)] [] σ := by
  have hM := hX.1
  have hG := hO.1
  have hW := hG.w
  have hs := hW.s
  have hF := hX.2.2.2.1
  have hT := hX.2.2.1
  have hI6 := hX.2.2.2.2
  have hZ := hX.2.1
  have h30 := hG.2.2.1
  have hn := hO.2.1.1
  have hTr := hO.2.1.2
  have hT0 : TPE (setI σ 34 0 0 0) X.T X.n := ⟨(S34 (by decide)).trans hT.1, fun x hx => by rw [setI_tag (by decide)]; exact hT.2 x hx⟩
  have hX0 : MRl (setI σ 34 0 0 0) X := (KM.set (σ := σ) (t := 34) (k := 0) (z := 0) (v := 0) (by unfold SCM; omega)).mrl hX
  have hF0 : FM σ (setI σ 34 0 0 0) := FM.set (by decide)
  have at118 : ∀ (k : Nat) (σi : MM), k ≤ 700 → RSM σi X.T X.n (RBI X.T X.n k).1 → ((RBI X.T X.n k).1.1 = 0 → MB σi 4 (RBI X.T X.n k).2) → OffL (setI σ 34 0 0 0) σi → ((RBI X.T X.n k).1.1 ≠ 0 ∨ TK X.T X.n (RBI X.T X.n k).1.2 = 0) → V yX6_book cX6_book 1 (some .int) d (QI (fun v σ' => v = q_book X ∧ MRl σ' (s_book X) ∧ FM σ σ')) 118 [some (vR 34 0)] [] σi := by
    intro k σi hk hRi hMi hOi hst
    have hbk := BOK_at hk hst
    have hr3 := hRi.2.1
    refine V_aload_0 (pc := 118) dX6_book_118 ?_
    refine V_callV0z (pc := 119) dX6_book_119 kv_X6_226 rc_34 (by omega) (d - 1) (by omega) rfl (c_X6_isOver (by omega) (a := (RBI X.T X.n k).1.1) (b := σi 34 0 13) hRi.1 rfl (by omega)) (fun σ_119 h_119 => ?_)
    have hFL : FM σ σ_119 := hF0.tr (fun t q => by funext k z; rw [h_119.2.2 t k z (by omega)]; exact hOi t k z (by omega) (by unfold ISL; omega))
    refine V_aload_0 (pc := 122) dX6_book_122 ?_
    refine V_geti (pc := 123) dX6_book_123 gf_X6_126 (by omega) (v := (RBI X.T X.n k).1.1) ((h_119.2.2 34 0 12 (by omega)).trans hRi.1) ?_
    refine V_if_eq (pc := 126) 132 dX6_book_126 (by decide) (by omega) (fun c_126 => ?_) (fun c_126 => ?_)
    · have hgb : GB (RBI X.T X.n k).2 := by rw [← hbk]; exact BOK_GB hn (by rw [hbk]; omega)
      have hM4 : MB σ_119 4 (RBI X.T X.n k).2 := (hMi (by omega)).cong (fun t q => by funext k z; exact h_119.2.2 t k z (by omega))
      have hX2 : MRl σ_119 (X.B, X.Z, X.T, (0, 0, -1), X.I, X.K) := hX0.over hO (fun t k z q1 q2 => by rw [h_119.2.2 t k z (by omega)]; exact hOi t k z (by omega) q2) h_119.1 (h_119.2.1.1.trans (by omega)) (h_119.2.1.2.trans (if_pos (by omega)))
      have hO2 : XOK (X.B, X.Z, X.T, (0, 0, -1), X.I, X.K) := ⟨hO.1, ⟨⟨by show (0 : Int) ≤ 0; decide, by show (0 : Int) ≤ 700; decide⟩, fun x hx => absurd hx (by show ¬ (0 ≤ x ∧ x < 0); omega)⟩, ⟨⟨by show (0 : Int) ≤ 0; decide, by show (0 : Int) ≤ 3; decide⟩, ⟨by show (-1 : Int) ≤ -1; decide, by show (-1 : Int) ≤ 700; decide⟩⟩, hO.2.2.2⟩
      refine V_aload_0 (pc := 132) dX6_book_132 ?_
      refine V_iconst (pc := 133) dX6_book_133 ?_
      refine V_iconst (pc := 134) dX6_book_134 ?_
      refine V_callV2z (pc := 135) dX6_book_135 kv_X6_229 rc_34 (by omega) (d - 1) (by omega) rfl (c_X6_copyBook (by omega) (by omega) (by omega) (by omega)) (fun σ_135 h_135 => ?_)
      have hMb := h_135.1 _ hgb hM4
      refine V_aload_0 (pc := 138) dX6_book_138 ?_
      refine V_getc (pc := 139) dX6_book_139 gf_X6_31 (by omega) ?_
      refine V_iconst (pc := 142) dX6_book_142 ?_
      refine V_iald (pc := 143) dX6_book_143 sh_40 (by omega) (by omega) hMb.l ?_
      refine V_iretI (pc := 144) dX6_book_144 rfl ?_
      have hc : (RBI X.T X.n k).1.1 = 0 := by omega
      have e : s_book X = NEWB (X.B, X.Z, X.T, (0, 0, -1), X.I, X.K) (RBI X.T X.n k).2 := by unfold s_book; rw [hbk, if_pos hc, if_pos hc, hc]; rfl
      refine ⟨_, rfl, by unfold q_book; rw [hbk, if_pos hc], ?_, hFL.tr h_135.2.fm⟩
      rw [e]
      exact hX2.newb hO2 h_135.2 hMb
    · refine V_bipush (pc := 129) dX6_book_129 (by decide) ?_
      refine V_iretI (pc := 131) dX6_book_131 rfl ?_
      have hc : ¬ (RBI X.T X.n k).1.1 = 0 := by omega
      have e : s_book X = (X.B, X.Z, X.T, (0, (RBI X.T X.n k).1.1, (RBI X.T X.n k).1.2), X.I, X.K) := by unfold s_book; rw [hbk, if_neg hc, if_neg hc]
      refine ⟨_, rfl, by unfold q_book; rw [hbk, if_neg hc], ?_, hFL⟩
      rw [e]
      exact hX0.over hO (fun t k z q1 q2 => by rw [h_119.2.2 t k z (by omega)]; exact hOi t k z (by omega) q2) h_119.1 h_119.2.1.1 (h_119.2.1.2.trans ((if_neg hc).trans (hRi.2.2.2.2.1 hc)))
  have at27 : ∀ (σ1 : MM) (p : Int) (B : BK), RSM σ1 X.T X.n (0, p) → MB σ1 4 B → DB B → (0 ≤ B 0 0 ∧ B 0 0 ≤ 700) → OffL (setI σ 34 0 0 0) σ1 → (∀ σ2 : MM, RSM σ2 X.T X.n (STE X.T X.n (LIN X.T X.n p B)).1 → ((STE X.T X.n (LIN X.T X.n p B)).1.1 = 0 → MB σ2 4 (STE X.T X.n (LIN X.T X.n p B)).2) → OffL (setI σ 34 0 0 0) σ2 → V yX6_book cX6_book 1 (some .int) d (QI (fun v σ' => v = q_book X ∧ MRl σ' (s_book X) ∧ FM σ σ')) 13 [some (vR 34 0)] [] σ2) → V yX6_book cX6_book 1 (some .int) d (QI (fun v σ' => v = q_book X ∧ MRl σ' (s_book X) ∧ FM σ σ')) 27 [some (vR 34 0)] [] σ1 := by
    intro σ1 p B hR1 hM1 hD hB0 hO1 cont
    have hDr := (LIN_in (T := X.T) hR1.2.2.1 hD).2.1
    have at94 : ∀ σ2 : MM, RSM σ2 X.T X.n (LIN X.T X.n p B).1 → ((LIN X.T X.n p B).1.1 = 0 → MB σ2 4 (LIN X.T X.n p B).2) → OffL (setI σ 34 0 0 0) σ2 → V yX6_book cX6_book 1 (some .int) d (QI (fun v σ' => v = q_book X ∧ MRl σ' (s_book X) ∧ FM σ σ')) 94 [some (vR 34 0)] [] σ2 := by
      intro σ2 hR2 hM2 hO2
      refine V_aload_0 (pc := 94) dX6_book_94 ?_
      refine V_callV0p (pc := 95) dX6_book_95 kv_X6_208 rc_34 (by omega) (d - 1) (by omega) rfl (c_X6_isGood (by omega) hR2) ?_
      refine V_if_eq_b (pc := 98) 105 dX6_book_98 (by decide) (fun c_98 => ?_) (fun c_98 => ?_)
      · refine V_aload_0 (pc := 105) dX6_book_105 ?_
        refine V_getc (pc := 106) dX6_book_106 gf_X6_31 (by omega) ?_
        refine V_iconst (pc := 109) dX6_book_109 ?_
        refine V_dup2 (pc := 110) dX6_book_110 rfl rfl ?_
        refine V_iald (pc := 111) dX6_book_111 sh_40 (by omega) (by omega) rfl ?_
        refine V_iconst (pc := 112) dX6_book_112 ?_
        refine V_iadd (pc := 113) dX6_book_113 ?_
        refine V_iast (pc := 114) dX6_book_114 sh_40 (by omega) (by omega) ?_
        refine V_goto (pc := 115) 13 dX6_book_115 (by decide) ?_
        exact cont _ (by rw [STE_1 c_98]; exact hR2.set (by decide)) (fun q => absurd (by rw [STE_1 c_98] at q; exact q) c_98) (hO2.tr (OffL.set (by unfold ISL; omega)))
      · refine V_aload_0 (pc := 101) dX6_book_101 ?_
        refine V_callV0z (pc := 102) dX6_book_102 kv_X6_223 rc_34 (by omega) (d - 1) (by omega) rfl (c_X6_ends (by omega) (hO2.tpe hT0) hn hTr hR2) (fun σ_102 h_102 => ?_)
        refine V_aload_0 (pc := 105) dX6_book_105 ?_
        refine V_getc (pc := 106) dX6_book_106 gf_X6_31 (by omega) ?_
        refine V_iconst (pc := 109) dX6_book_109 ?_
        refine V_dup2 (pc := 110) dX6_book_110 rfl rfl ?_
        refine V_iald (pc := 111) dX6_book_111 sh_40 (by omega) (by omega) rfl ?_
        refine V_iconst (pc := 112) dX6_book_112 ?_
        refine V_iadd (pc := 113) dX6_book_113 ?_
        refine V_iast (pc := 114) dX6_book_114 sh_40 (by omega) (by omega) ?_
        refine V_goto (pc := 115) 13 dX6_book_115 (by decide) ?_
        have hO3 : OffL (setI σ 34 0 0 0) (setI σ_102 40 0 4 (σ_102 40 0 4 + 1)) := (hO2.tr h_102.2.l).tr (OffL.set (by unfold ISL; omega))
        by_cases q3 : TK X.T X.n (LIN X.T X.n p B).1.2 = 3
        · have hes : ENS X.T X.n (LIN X.T X.n p B).1 = (0, TE X.T X.n (LIN X.T X.n p B).1.2) := by unfold ENS; rw [if_neg (fun z => z c_98), if_neg (fun z => z q3)]
          refine cont _ (by rw [STE_3 c_98 q3]; show RSM _ _ _ (0, TE X.T X.n (LIN X.T X.n p B).1.2); rw [← hes]; exact h_102.1.set (by decide)) (fun _ => ?_) hO3
          rw [STE_3 c_98 q3]
          exact MB4.put (j := 0) (z := 0 - 1) (hM2 c_98) hDr (Or.inl ⟨rfl, rfl⟩) (fun t x a b c => by rw [setI_at, if_neg (by omega), h_102.2 t 0 x (by omega)]) (fun z => absurd rfl z) (fun _ => by rw [setI_same, h_102.2 40 0 4 (by omega), (hM2 c_98).r3.2.2.2])
        · have hes : ENS X.T X.n (LIN X.T X.n p B).1 = (1, TS X.T X.n (LIN X.T X.n p B).1.2) := by unfold ENS; rw [if_neg (fun z => z c_98), if_pos q3]
          refine cont _ (by rw [STE_2 c_98 q3]; show RSM _ _ _ (1, TS X.T X.n (LIN X.T X.n p B).1.2); rw [← hes]; exact h_102.1.set (by decide)) (fun q => ?_) hO3
          rw [STE_2 c_98 q3] at q
          exact absurd (show (1 : Int) = 0 from q) (by decide)
    refine V_aload_0 (pc := 27) dX6_book_27 ?_
    refine V_getc (pc := 28) dX6_book_28 gf_X6_31 (by omega) ?_
    refine V_iconst (pc := 31) dX6_book_31 ?_
    refine V_iald (pc := 32) dX6_book_32 sh_40 (by omega) (by omega) (v := B 0 0) hM1.r3.2.2.2 ?_
    refine V_if_ne (pc := 33) 90 dX6_book_33 (by decide) (by omega) (fun c_33 => ?_) (fun c_33 => ?_)
    · refine V_aload_0 (pc := 90) dX6_book_90 ?_
      refine V_callV0z (pc := 91) dX6_book_91 kv_X6_220 rc_34 (by omega) (d - 1) (by omega) rfl (c_X6_lineHere (by omega) (hO1.tpe hT0) hn hTr hR1 hM1 hD (by omega)) (fun σ_91 h_91 => ?_)
      exact at94 _ h_91.1 h_91.2.1 (hO1.tr h_91.2.2)
    · refine V_aload_0 (pc := 36) dX6_book_36 ?_
      refine V_ldc2 (pc := 37) dX6_book_37 (z := 50717) ldc_X6_212 ?_
      refine V_callV1z (pc := 40) dX6_book_40 kv_X6_145 rc_34 (by omega) (d - 1) (by omega) rfl (c_X6_asks (by omega) (hO1.tpe hT0) hn hTr hR1 (w := 0) (by decide) COD_e0 (by omega)) (fun σ_40 h_40 => ?_)
      refine V_aload_0 (pc := 43) dX6_book_43 ?_
      refine V_iconst (pc := 44) dX6_book_44 ?_
      refine V_aload_0 (pc := 45) dX6_book_45 ?_
      refine V_ldc2 (pc := 46) dX6_book_46 (z := 13385674) ldc_X6_214 ?_
      refine V_iconst (pc := 49) dX6_book_49 ?_
      refine V_bipush (pc := 50) dX6_book_50 (by decide) ?_
      refine V_callV3i (pc := 52) dX6_book_52 kv_X6_162 rc_34 (by omega) (d - 1) (by omega) rfl (c_X6_number_ (by omega) ((hO1.tr h_40.2.l).tpe hT0) hn hTr h_40.1 (w := 4) (by decide) COD_e4 (by omega) (by omega) (by omega)) (fun v_52 σ_52 h_52 => ?_)
      refine V_callV2z (pc := 55) dX6_book_55 kv_X6_169 rc_34 (by omega) (d - 1) (by omega) rfl (c_X6_tells (by omega) (by omega)) (fun σ_55 h_55 => ?_)
      subst h_55
      refine V_aload_0 (pc := 58) dX6_book_58 ?_
      refine V_iconst (pc := 59) dX6_book_59 ?_
      refine V_aload_0 (pc := 60) dX6_book_60 ?_
      refine V_ldc2 (pc := 61) dX6_book_61 (z := 8798) ldc_X6_216 ?_
      refine V_iconst (pc := 64) dX6_book_64 ?_
      refine V_iconst (pc := 65) dX6_book_65 ?_
      refine V_callV3i (pc := 66) dX6_book_66 kv_X6_162 rc_34 (by omega) (d - 1) (by omega) rfl (c_X6_number_ (by omega) ((((hO1.tr h_40.2.l).tr h_52.2.2.l).tr (OffL.set (by unfold ISL; omega))).tpe hT0) hn hTr (h_52.2.1.set (by decide)) (w := 5) (by decide) COD_e5 (by omega) (by omega) (by omega)) (fun v_66 σ_66 h_66 => ?_)
      refine V_callV2z (pc := 69) dX6_book_69 kv_X6_169 rc_34 (by omega) (d - 1) (by omega) rfl (c_X6_tells (by omega) (by omega)) (fun σ_69 h_69 => ?_)
      subst h_69
      refine V_aload_0 (pc := 72) dX6_book_72 ?_
      refine V_iconst (pc := 73) dX6_book_73 ?_
      refine V_aload_0 (pc := 74) dX6_book_74 ?_
      refine V_ldc2 (pc := 75) dX6_book_75 (z := 298288) ldc_X6_218 ?_
      refine V_iconst (pc := 78) dX6_book_78 ?_
      refine V_bipush (pc := 79) dX6_book_79 (by decide) ?_
      refine V_callV3i (pc := 81) dX6_book_81 kv_X6_162 rc_34 (by omega) (d - 1) (by omega) rfl (c_X6_number_ (by omega) (((((hO1.tr h_40.2.l).tr h_52.2.2.l).tr (OffL.set (by unfold ISL; omega))).tr (h_66.2.2.l.tr (OffL.set (by unfold ISL; omega)))).tpe hT0) hn hTr (h_66.2.1.set (by decide)) (w := 6) (by decide) COD_e6 (by omega) (by omega) (by omega)) (fun v_81 σ_81 h_81 => ?_)
      refine V_callV2z (pc := 84) dX6_book_84 kv_X6_169 rc_34 (by omega) (d - 1) (by omega) rfl (c_X6_tells (by omega) (by omega)) (fun σ_84 h_84 => ?_)
      subst h_84
      refine V_goto (pc := 87) 94 dX6_book_87 (by decide) ?_
      have hO4 : OffL (setI σ 34 0 0 0) (setI σ_81 41 0 (28 + 2) v_81) := (((((hO1.tr h_40.2.l).tr h_52.2.2.l).tr (OffL.set (by unfold ISL; omega))).tr (h_66.2.2.l.tr (OffL.set (by unfold ISL; omega)))).tr (h_81.2.2.l)).tr (OffL.set (by unfold ISL; omega))
      by_cases qw : WRD X.T X.n p 0
      · have ha : ASS X.T X.n 0 (0, p) = (0, TE X.T X.n p) := by unfold ASS; rw [if_neg (fun z => z rfl), if_pos qw]
        rw [ha] at h_40 h_52 h_66 h_81
        have hl : LIN X.T X.n p B = HDL X.T X.n p B := LIN_1 (fun z => by have := z.mp qw; omega) qw
        have hl1 : (LIN X.T X.n p B).1 = (NBF X.T X.n 6 0 10 (NBF X.T X.n 5 0 3 (NBF X.T X.n 4 1 20 (0, TE X.T X.n p)).1).1).1 := by rw [hl]; rfl
        have hl2 : (LIN X.T X.n p B).2 = sB (sB (sB B 1 0 (NBF X.T X.n 4 1 20 (0, TE X.T X.n p)).2) 2 0 (NBF X.T X.n 5 0 3 (NBF X.T X.n 4 1 20 (0, TE X.T X.n p)).1).2) 3 0 (NBF X.T X.n 6 0 10 (NBF X.T X.n 5 0 3 (NBF X.T X.n 4 1 20 (0, TE X.T X.n p)).1).1).2 := by rw [hl]; rfl
        refine at94 _ (by rw [hl1]; exact h_81.2.1.set (by decide)) (fun q => ?_) hO4
        rw [hl1] at q
        rw [hl2]
        have i3 := (NBF_in (T := X.T) (n := X.n) (lo := 0) (hi := 10) (w := 6) h_66.2.1.2.2.1 h_66.2.1.2.1).2.2 q
        have i2 := (NBF_in (T := X.T) (n := X.n) (lo := 0) (hi := 3) (w := 5) h_52.2.1.2.2.1 h_52.2.1.2.1).2.2 i3.2.2.1
        have i1 := (NBF_in (T := X.T) (n := X.n) (lo := 1) (hi := 20) (w := 4) h_40.1.2.2.1 h_40.1.2.1).2.2 i2.2.2.1
        have d1 := DB_put hD (j := 1) (v := (NBF X.T X.n 4 1 20 (0, TE X.T X.n p)).2) (Or.inl ⟨rfl, by omega, by omega⟩)
        have d2 := DB_put d1 (j := 2) (v := (NBF X.T X.n 5 0 3 (NBF X.T X.n 4 1 20 (0, TE X.T X.n p)).1).2) (Or.inr (Or.inl ⟨rfl, by omega, by omega⟩))
        have m1 : MB (setI σ_52 41 0 (28 + 0) v_52) 4 (sB B 1 0 (NBF X.T X.n 4 1 20 (0, TE X.T X.n p)).2) := MB4.put (z := 28 + 0) hM1 hD (Or.inr ⟨by decide, by decide, by omega⟩) (fun t x a b c => by rw [setI_at, if_neg (by omega), h_52.2.2 t 0 x (by omega), h_40.2 t 0 x (by omega)]) (fun _ => by rw [setI_same]; exact h_52.1 i2.2.2.1) (fun z => absurd z (by decide))
        have m2 : MB (setI σ_66 41 0 (28 + 1) v_66) 4 (sB (sB B 1 0 (NBF X.T X.n 4 1 20 (0, TE X.T X.n p)).2) 2 0 (NBF X.T X.n 5 0 3 (NBF X.T X.n 4 1 20 (0, TE X.T X.n p)).1).2) := MB4.put (z := 28 + 1) m1 d1 (Or.inr ⟨by decide, by decide, by omega⟩) (fun t x a b c => by rw [setI_at, if_neg (by omega), h_66.2.2 t 0 x (by omega)]) (fun _ => by rw [setI_same]; exact h_66.1 i3.2.2.1) (fun z => absurd z (by decide))
        exact MB4.put (z := 28 + 2) m2 d2 (Or.inr ⟨by decide, by decide, by omega⟩) (fun t x a b c => by rw [setI_at, if_neg (by omega), h_81.2.2 t 0 x (by omega)]) (fun _ => by rw [setI_same]; exact h_81.1 q) (fun z => absurd z (by decide))
      · have ha : ASS X.T X.n 0 (0, p) = (1, TS X.T X.n p) := by unfold ASS; rw [if_neg (fun z => z rfl), if_neg qw]
        have n1 : ((1, TS X.T X.n p) : Int × Int).1 ≠ 0 := by show (1 : Int) ≠ 0; decide
        rw [ha, NBF_b n1] at h_52 h_66 h_81
        rw [NBF_b n1] at h_66 h_81
        rw [NBF_b n1] at h_81
        have hl : LIN X.T X.n p B = ((1, TS X.T X.n p), B) := LIN_0 ⟨fun z => absurd z qw, fun z => by omega⟩
        refine at94 _ (by rw [hl]; exact h_81.2.1.set (by decide)) (fun q => ?_) hO4
        rw [hl] at q
        exact absurd (show (1 : Int) = 0 from q) (by decide)
  have loop : ∀ m k : Nat, m + k = 700 → k ≤ 700 → ∀ σi : MM, RSM σi X.T X.n (RBI X.T X.n k).1 → ((RBI X.T X.n k).1.1 = 0 → MB σi 4 (RBI X.T X.n k).2) → OffL (setI σ 34 0 0 0) σi → V yX6_book cX6_book 1 (some .int) d (QI (fun v σ' => v = q_book X ∧ MRl σ' (s_book X) ∧ FM σ σ')) 13 [some (vR 34 0)] [] σi := by
    intro m
    induction m with
    | zero =>
      intro k hmk hk σi hRi hMi hOi
      have hin := RBI_in (T := X.T) hn k hk
      refine V_aload_0 (pc := 13) dX6_book_13 ?_
      refine V_callV0p (pc := 14) dX6_book_14 kv_X6_208 rc_34 (by omega) (d - 1) (by omega) rfl (c_X6_isGood (by omega) hRi) ?_
      refine V_if_eq_b (pc := 17) 118 dX6_book_17 (by decide) (fun c_17 => ?_) (fun c_17 => ?_)
      · exact at118 k σi hk hRi hMi hOi (Or.inl c_17)
      · have htk := TK_in X.T X.n (RBI X.T X.n k).1.2
        refine V_aload_0 (pc := 20) dX6_book_20 ?_
        refine V_geti (pc := 21) dX6_book_21 gf_X6_115 (by omega) (v := TK X.T X.n (RBI X.T X.n k).1.2) (hRi.2.2.2.1 c_17).1.2.1 ?_
        refine V_if_eq (pc := 24) 118 dX6_book_24 (by decide) (by omega) (fun c_24 => ?_) (fun c_24 => ?_)
        · exact at118 k σi hk hRi hMi hOi (Or.inr c_24)
        · rcases (by rw [show k = 700 by omega]; exact RBI_700 hn : (RBI X.T X.n k).1.1 ≠ 0 ∨ TK X.T X.n (RBI X.T X.n k).1.2 = 0) with q | q
          · exact absurd c_17 q
          · exact absurd q c_24
    | succ m ih =>
      intro k hmk hk σi hRi hMi hOi
      have hin := RBI_in (T := X.T) hn k hk
      refine V_aload_0 (pc := 13) dX6_book_13 ?_
      refine V_callV0p (pc := 14) dX6_book_14 kv_X6_208 rc_34 (by omega) (d - 1) (by omega) rfl (c_X6_isGood (by omega) hRi) ?_
      refine V_if_eq_b (pc := 17) 118 dX6_book_17 (by decide) (fun c_17 => ?_) (fun c_17 => ?_)
      · exact at118 k σi hk hRi hMi hOi (Or.inl c_17)
      · have htk := TK_in X.T X.n (RBI X.T X.n k).1.2
        refine V_aload_0 (pc := 20) dX6_book_20 ?_
        refine V_geti (pc := 21) dX6_book_21 gf_X6_115 (by omega) (v := TK X.T X.n (RBI X.T X.n k).1.2) (hRi.2.2.2.1 c_17).1.2.1 ?_
        refine V_if_eq (pc := 24) 118 dX6_book_24 (by decide) (by omega) (fun c_24 => ?_) (fun c_24 => ?_)
        · exact at118 k σi hk hRi hMi hOi (Or.inr c_24)
        · have e0 : (RBI X.T X.n k).1 = (0, (RBI X.T X.n k).1.2) := pr0 c_17
          have hgo : RBI X.T X.n (k + 1) = STE X.T X.n (LIN X.T X.n (RBI X.T X.n k).1.2 (RBI X.T X.n k).2) := RBI_go c_17 c_24
          refine at27 σi (RBI X.T X.n k).1.2 (RBI X.T X.n k).2 (by rw [← e0]; exact hRi) (hMi c_17) hin.2.1 (by omega) hOi (fun σ2 a b c => ?_)
          rw [← hgo] at a b
          exact ih (k + 1) (by omega) (by omega) σ2 a b c
  refine V_aload_0 (pc := 0) dX6_book_0 ?_
  refine V_iconst (pc := 1) dX6_book_1 ?_
  refine V_puti (pc := 2) dX6_book_2 gf_X6_74 (by omega) ?_
  refine V_aload_0 (pc := 5) dX6_book_5 ?_
  refine V_callV0z (pc := 6) dX6_book_6 kv_X6_202 rc_34 (by omega) (d - 1) (by omega) rfl (c_X6_clears (by omega)) (fun σ_6 h_6 => ?_)
  refine V_aload_0 (pc := 9) dX6_book_9 ?_
  refine V_callV0z (pc := 10) dX6_book_10 kv_X6_205 rc_34 (by omega) (d - 1) (by omega) rfl (c_X6_begins (by omega) (h_6.2.tpe hT0) hn hTr) (fun σ_10 h_10 => ?_)
  exact loop 700 0 (by omega) (by omega) _ h_10.1 (fun _ => h_10.2.mb h_6.1) (h_6.2.tr h_10.2.l)
