theorem MRW.prf {σ σ' : MM} {y e s b : Int} {E T : BK} (h : MUP σ σ' y e (max 0 (s - 10)) b 0) (hT : MRW σ y E T) (he : 0 ≤ e ∧ e < E 6 0) (hy : E 13 e ≤ y) (hs : σ 50 0 (7 * y + e) = s) (hb : σ 52 0 e = b) : MRW σ' y E (PRF E T e (-1)) := by
  have e0 := hT e he
  have e1 : PRF E T e (-1) = upA T e (max 0 (s - 10)) b 0 := by unfold PRF; rw [if_pos rfl, ← hs, ← hb, e0.1, e0.2.2 hy]
  rw [e1]
  exact h.rw hT
theorem MRW.new {σ σ' : MM} {y e i : Int} {E T : BK} (h : MUP σ σ' y e (min (E 7 i) (E 8 i)) i (bI (min (E 7 i) (E 8 i) < E 8 i))) (hT : MRW σ y E T) (hi : i ≠ -1) : MRW σ' y E (PRF E T e i) := by
  have e1 : PRF E T e i = upA T e (min (E 7 i) (E 8 i)) i (bI (min (E 7 i) (E 8 i) < E 8 i)) := by unfold PRF; rw [if_neg hi]; rfl
  rw [e1]
  exact h.rw hT

set_option maxRecDepth 20000 in
set_option maxHeartbeats 1000000 in
theorem c_X6_actsOf {d : Nat} (hd : 2 ≤ d) {σ : MM} {B E : BK} {wv : Int} {T : BK} {y : Int} (hM : MB σ 0 B) (hW : WB B) (hL : LD σ B E wv) (hy : 0 ≤ y ∧ y < 21) (hTB : TB E y T) (hT0 : MRW σ y E T) : V yX6_actsOf cX6_actsOf 4 none d (QZ (fun σ' => MRW σ' y E (ACT E y T (E 17 0).toNat) ∧ MOF y σ σ')) 0 [some (vR 34 0), some (vI y), none, none] [] σ := by
  have hs := hW.s
  have hLA := hL.la
  have e7 : E 7 = B 7 := hL.e (by omega)
  have e8 : E 8 = B 8 := hL.e (by omega)
  have hs6 := hL.s6
  have hs4 := hL.s4
  have hWE := hL.w
  have hEs := hWE.s
  have hKI : (((B 17 0).toNat + (if σ 34 0 26 = -1 then 0 else (σ 34 0 28).toNat) : Nat) : Int) = B 17 0 + (if σ 34 0 26 = -1 then 0 else σ 34 0 28) := by
    by_cases q : σ 34 0 26 = -1
    · rw [if_pos q, if_pos q]; omega
    · rw [if_neg q, if_neg q]; have := hLA.2.1; omega
  have hN0 : σ 34 0 29 = -1 → (E 17 0).toNat = (B 17 0).toNat + (if σ 34 0 26 = -1 then 0 else (σ 34 0 28).toNat) := fun q => by
    have := hLA.2.2.2.2.1
    rw [if_pos q, Int.add_zero, ← hKI] at this
    rw [this]; omega
  have hN1 : σ 34 0 29 ≠ -1 → (E 17 0).toNat = (B 17 0).toNat + (if σ 34 0 26 = -1 then 0 else (σ 34 0 28).toNat) + 1 := fun q => by
    have := hLA.2.2.2.2.1
    rw [if_neg q, ← hKI] at this
    rw [this]; omega
  have hTbE : ∀ i : Nat, i ≤ (E 17 0).toNat → ∀ e : Int, 0 ≤ e ∧ e < E 6 0 → 0 ≤ ACT E y T i 0 e ∧ ACT E y T i 0 e ≤ 60 := fun i hi e he => ((TB_ACT hWE hTB i (by omega)) e he).1
  have hN01 : (B 17 0).toNat + (if σ 34 0 26 = -1 then 0 else (σ 34 0 28).toNat) ≤ (E 17 0).toNat := by
    by_cases q : σ 34 0 29 = -1
    · rw [hN0 q]; omega
    · rw [hN1 q]; omega
  have at145 : ∀ σi, MRW σi y E (ACT E y T ((B 17 0).toNat + (if σ 34 0 26 = -1 then 0 else (σ 34 0 28).toNat))) → MOF y σ σi → V yX6_actsOf cX6_actsOf 4 none d (QZ (fun σ' => MRW σ' y E (ACT E y T (E 17 0).toNat) ∧ MOF y σ σ')) 145 [some (vR 34 0), some (vI y), none, none] [] σi := by
    intro σi hT hO
    have hMi := hO.1.mb hM
    have e34 : σi 34 = σ 34 := hO.1 34 (by decide) (by decide) (by decide)
    have hl1 := hLA.1
    have hl3 := hLA.2.2.1
    have hry : σ 34 0 29 ≠ -1 → IR (σ 34 0 30) := fun q => (hLA.2.2.2.2.2.2 q).1
    refine V_aload_0 (pc := 145) dX6_actsOf_145 ?_
    refine V_geti (pc := 146) dX6_actsOf_146 gf_X6_267 (by omega) (v := σ 34 0 29) (by rw [e34]) ?_
    refine V_iconst (pc := 149) dX6_actsOf_149 ?_
    refine V_icmp_eq (pc := 150) 195 dX6_actsOf_150 (by decide) (by omega) (by omega) (fun c_150 => ?_) (fun c_150 => ?_)
    · refine V_vret (pc := 195) dX6_actsOf_195 rfl ?_
      exact ⟨rfl, by rw [hN0 c_150]; exact hT, hO⟩
    · refine V_aload_0 (pc := 153) dX6_actsOf_153 ?_
      refine V_geti (pc := 154) dX6_actsOf_154 gf_X6_306 (by omega) (v := σ 34 0 30) (by rw [e34]) ?_
      refine V_iload_1 (pc := 157) dX6_actsOf_157 ?_
      refine V_icmp_ne (pc := 158) 195 dX6_actsOf_158 (by decide) (by omega) (by omega) (fun c_158 => ?_) (fun c_158 => ?_)
      · obtain ⟨hR0, hR1, hR2, hR3⟩ := hLA.2.2.2.2.2.2 c_150
        rw [← hKI] at hR1 hR2 hR3
        refine V_vret (pc := 195) dX6_actsOf_195 rfl ?_
        refine ⟨rfl, ?_, hO⟩
        rw [hN1 c_150, ACT_S, if_neg (fun q => c_158 (by have := q.1; rw [hR3] at this; exact this))]
        exact hT
      · refine V_aload_0 (pc := 161) dX6_actsOf_161 ?_
        refine V_aload_0 (pc := 162) dX6_actsOf_162 ?_
        refine V_geti (pc := 163) dX6_actsOf_163 gf_X6_267 (by omega) (v := σ 34 0 29) (by rw [e34]) ?_
        refine V_iload_1 (pc := 166) dX6_actsOf_166 ?_
        refine V_callV2p (pc := 167) dX6_actsOf_167 kv_X6_293 rc_34 (by omega) (d - 1) (by omega) rfl (c_X6_isThere (by omega) (hO.1.mb hM) hW (hO.1.ld hL) (by omega) (by omega)) ?_
        refine V_if_eq_b (pc := 170) 195 dX6_actsOf_170 (by decide) (fun c_170 => ?_) (fun c_170 => ?_)
        · obtain ⟨hR0, hR1, hR2, hR3⟩ := hLA.2.2.2.2.2.2 c_150
          rw [← hKI] at hR1 hR2 hR3
          refine V_vret (pc := 195) dX6_actsOf_195 rfl ?_
          refine ⟨rfl, ?_, hO⟩
          rw [hN1 c_150, ACT_S, if_neg (fun q => c_170 (by have := q.2; rw [hR1] at this; exact this))]
          exact hT
        · refine V_aload_0 (pc := 173) dX6_actsOf_173 ?_
          refine V_aload_0 (pc := 174) dX6_actsOf_174 ?_
          refine V_geti (pc := 175) dX6_actsOf_175 gf_X6_267 (by omega) (v := σ 34 0 29) (by rw [e34]) ?_
          refine V_iload_1 (pc := 178) dX6_actsOf_178 ?_
          refine V_aload_0 (pc := 179) dX6_actsOf_179 ?_
          refine V_getc (pc := 180) dX6_actsOf_180 gf_X6_43 (by omega) ?_
          refine V_iconst (pc := 183) dX6_actsOf_183 ?_
          refine V_aload_0 (pc := 184) dX6_actsOf_184 ?_
          refine V_geti (pc := 185) dX6_actsOf_185 gf_X6_267 (by omega) (v := σ 34 0 29) (by rw [e34]) ?_
          refine V_imul (pc := 188) dX6_actsOf_188 ?_
          refine V_iconst (pc := 189) dX6_actsOf_189 ?_
          refine V_iadd (pc := 190) dX6_actsOf_190 ?_
          refine V_iald (pc := 191) dX6_actsOf_191 sh_44 (by omega) (by omega) (hMi.t1 (by omega)) ?_
          refine V_callV3z (pc := 192) dX6_actsOf_192 kv_X6_296 rc_34 (by omega) (d - 1) (by omega) rfl (c_X6_begin0 (by omega) hMi hW (by omega) (by omega) (by have := hW.e (i := σ 34 0 29) (by omega); omega)) (fun σ_192 h_192 => ?_)
          obtain ⟨hR0, hR1, hR2, hR3⟩ := hLA.2.2.2.2.2.2 c_150
          rw [← hKI] at hR1 hR2 hR3
          refine V_vret (pc := 195) dX6_actsOf_195 rfl ?_
          refine ⟨rfl, ?_, hO.tr (MUP.of h_192 (by omega))⟩
          rw [hN1 c_150, ACT_S, if_pos ⟨by rw [hR3]; exact c_158, by rw [hR1]; exact c_170⟩, hR1, hR2]
          rw [← e7, ← e8] at h_192
          exact MRW.new h_192 hT (by have := hW.e (i := σ 34 0 29) (by omega); omega)
  have loop2 : σ 34 0 26 ≠ -1 → σ 34 0 27 = y → E 13 (σ 34 0 26) ≤ y → ∀ i : Nat, i ≤ (σ 34 0 28).toNat → ∀ σi, MRW σi y E (ACT E y T ((B 17 0).toNat + i)) → MOF y σ σi → V yX6_actsOf cX6_actsOf 4 none d (QZ (fun σ' => MRW σ' y E (ACT E y T (E 17 0).toNat) ∧ MOF y σ σ')) 122 [some (vR 34 0), some (vI y), some (vI (i : Int)), none] [] σi := by
    intro hb hy9 ht9
    have hl1 := hLA.1
    have hl2 := hLA.2.1
    refine up_ind (P := fun i : Nat => ∀ σi, MRW σi y E (ACT E y T ((B 17 0).toNat + i)) → MOF y σ σi → V yX6_actsOf cX6_actsOf 4 none d (QZ (fun σ' => MRW σ' y E (ACT E y T (E 17 0).toNat) ∧ MOF y σ σ')) 122 [some (vR 34 0), some (vI y), some (vI (i : Int)), none] [] σi) ?_ ?_
    · intro σi hT hO
      have hMi := hO.1.mb hM
      have e34 : σi 34 = σ 34 := hO.1 34 (by decide) (by decide) (by decide)
      refine V_iload_2 (pc := 122) dX6_actsOf_122 ?_
      refine V_aload_0 (pc := 123) dX6_actsOf_123 ?_
      refine V_geti (pc := 124) dX6_actsOf_124 gf_X6_264 (by omega) (v := σ 34 0 28) (by rw [e34]) ?_
      refine V_icmp_ge (pc := 127) 145 dX6_actsOf_127 (by decide) (by omega) (by omega) (fun c_127 => ?_) (fun c_127 => ?_)
      · refine V.sub (by simp only [subL, Option.some.injEq, Sum.inl.injEq, Sum.inr.injEq, reduceCtorEq, true_or, or_true, false_or, true_and, and_true]) (at145 σi (by rw [if_neg hb]; exact hT) hO)
      · exact absurd c_127 (by omega)
    · intro i hi ih σi hT hO
      have hMi := hO.1.mb hM
      have e34 : σi 34 = σ 34 := hO.1 34 (by decide) (by decide) (by decide)
      rw [if_neg hb] at hN01
      have hQ := (hLA.2.2.2.2.2.1 hb).2 (((B 17 0).toNat + i : Nat) : Int) (by omega)
      have hTb9 := hTbE ((B 17 0).toNat + i) (by omega)
      have hTbE : ∀ i : Nat, _ := fun i => hTbE ((B 17 0).toNat + i)
      refine V_iload_2 (pc := 122) dX6_actsOf_122 ?_
      refine V_aload_0 (pc := 123) dX6_actsOf_123 ?_
      refine V_geti (pc := 124) dX6_actsOf_124 gf_X6_264 (by omega) (v := σ 34 0 28) (by rw [e34]) ?_
      refine V_icmp_ge (pc := 127) 145 dX6_actsOf_127 (by decide) (by omega) (by omega) (fun c_127 => ?_) (fun c_127 => ?_)
      · exact absurd c_127 (by omega)
      · refine V_aload_0 (pc := 130) dX6_actsOf_130 ?_
        refine V_aload_0 (pc := 131) dX6_actsOf_131 ?_
        refine V_geti (pc := 132) dX6_actsOf_132 gf_X6_261 (by omega) (v := σ 34 0 26) (by rw [e34]) ?_
        refine V_iload_1 (pc := 135) dX6_actsOf_135 ?_
        refine V_callV2z (pc := 136) dX6_actsOf_136 kv_X6_300 rc_34 (by omega) (d - 1) (by omega) rfl (c_X6_bleach0 (by omega) (s := σi 50 0 (7 * y + σ 34 0 26)) (b := σi 52 0 (σ 34 0 26)) (by omega) (by omega) (by have h1 := hTbE i (by omega) (σ 34 0 26) (by omega); have h2 := (hT (σ 34 0 26) (by omega)).1; omega) rfl rfl) (fun σ_136 h_136 => ?_)
        refine V_iinc_2 (pc := 139) dX6_actsOf_139 ?_
        refine V_goto (pc := 142) 122 dX6_actsOf_142 (by decide) ?_
        refine V.sub (by simp only [subL, Option.some.injEq, Sum.inl.injEq, reduceCtorEq, true_or, or_true, false_or, true_and, and_true]; omega) (ih _ ?_ (hO.tr (MUP.of h_136 (by omega))))
        rw [← Nat.add_assoc, ACT_S, if_pos ⟨by rw [hQ.2.2]; exact hy9, by rw [hQ.1]; exact ht9⟩, hQ.1, hQ.2.1]
        exact MRW.prf h_136 hT (by omega) ht9 rfl rfl
  have at92 : ∀ σi, MRW σi y E (ACT E y T (B 17 0).toNat) → MOF y σ σi → V yX6_actsOf cX6_actsOf 4 none d (QZ (fun σ' => MRW σ' y E (ACT E y T (E 17 0).toNat) ∧ MOF y σ σ')) 92 [some (vR 34 0), some (vI y), none, none] [] σi := by
    intro σi hT hO
    have hMi := hO.1.mb hM
    have e34 : σi 34 = σ 34 := hO.1 34 (by decide) (by decide) (by decide)
    have hl1 := hLA.1
    have hl2 := hLA.2.1
    refine V_aload_0 (pc := 92) dX6_actsOf_92 ?_
    refine V_geti (pc := 93) dX6_actsOf_93 gf_X6_261 (by omega) (v := σ 34 0 26) (by rw [e34]) ?_
    refine V_iconst (pc := 96) dX6_actsOf_96 ?_
    refine V_icmp_eq (pc := 97) 145 dX6_actsOf_97 (by decide) (by omega) (by omega) (fun c_97 => ?_) (fun c_97 => ?_)
    · exact at145 σi (by rw [if_pos c_97, Nat.add_zero]; exact hT) hO
    · refine V_aload_0 (pc := 100) dX6_actsOf_100 ?_
      refine V_geti (pc := 101) dX6_actsOf_101 gf_X6_303 (by omega) (v := σ 34 0 27) (by rw [e34]) ?_
      have hby := (hLA.2.2.2.2.2.1 c_97).1
      refine V_iload_1 (pc := 104) dX6_actsOf_104 ?_
      refine V_icmp_ne (pc := 105) 145 dX6_actsOf_105 (by decide) (by omega) (by omega) (fun c_105 => ?_) (fun c_105 => ?_)
      · refine at145 σi ?_ hO
        obtain ⟨hQ0, hQ1⟩ := hLA.2.2.2.2.2.1 c_97
        rw [if_neg c_97, ACT_skip _ (fun k hk q => c_105 (by have h9 := (hQ1 k (by omega)).2.2; rw [h9] at q; exact q.1))]
        exact hT
      · refine V_aload_0 (pc := 108) dX6_actsOf_108 ?_
        refine V_aload_0 (pc := 109) dX6_actsOf_109 ?_
        refine V_geti (pc := 110) dX6_actsOf_110 gf_X6_261 (by omega) (v := σ 34 0 26) (by rw [e34]) ?_
        refine V_iload_1 (pc := 113) dX6_actsOf_113 ?_
        refine V_callV2p (pc := 114) dX6_actsOf_114 kv_X6_293 rc_34 (by omega) (d - 1) (by omega) rfl (c_X6_isThere (by omega) (hO.1.mb hM) hW (hO.1.ld hL) (by omega) (by omega)) ?_
        refine V_if_eq_b (pc := 117) 145 dX6_actsOf_117 (by decide) (fun c_117 => ?_) (fun c_117 => ?_)
        · refine at145 σi ?_ hO
          obtain ⟨hQ0, hQ1⟩ := hLA.2.2.2.2.2.1 c_97
          rw [if_neg c_97, ACT_skip _ (fun k hk q => c_117 (by have h9 := (hQ1 k (by omega)).1; rw [h9] at q; exact q.2))]
          exact hT
        · refine V_iconst (pc := 120) dX6_actsOf_120 ?_
          refine V_istore_2 (pc := 121) dX6_actsOf_121 ?_
          refine V.sub (by simp only [subL, Option.some.injEq, Sum.inl.injEq, Sum.inr.injEq, reduceCtorEq, true_or, or_true, false_or, true_and, and_true]; rfl) (loop2 c_97 c_105 c_117 0 (by omega) σi (by rw [Nat.add_zero]; exact hT) hO)
  have loop1 : ∀ i : Nat, i ≤ (B 17 0).toNat → ∀ σi, MRW σi y E (ACT E y T i) → MOF y σ σi → V yX6_actsOf cX6_actsOf 4 none d (QZ (fun σ' => MRW σ' y E (ACT E y T (E 17 0).toNat) ∧ MOF y σ σ')) 2 [some (vR 34 0), some (vI y), some (vI (i : Int)), none] [] σi := by
    refine up_ind (P := fun i : Nat => ∀ σi, MRW σi y E (ACT E y T i) → MOF y σ σi → V yX6_actsOf cX6_actsOf 4 none d (QZ (fun σ' => MRW σ' y E (ACT E y T (E 17 0).toNat) ∧ MOF y σ σ')) 2 [some (vR 34 0), some (vI y), some (vI (i : Int)), none] [] σi) ?_ ?_
    · intro σi hT hO
      have hMi := hO.1.mb hM
      refine V_iload_2 (pc := 2) dX6_actsOf_2 ?_
      refine V_aload_0 (pc := 3) dX6_actsOf_3 ?_
      refine V_getc (pc := 4) dX6_actsOf_4 gf_X6_34 (by omega) ?_
      refine V_bipush (pc := 7) dX6_actsOf_7 (by decide) ?_
      refine V_iald (pc := 9) dX6_actsOf_9 sh_41 (by omega) (by omega) hMi.h6 ?_
      refine V_icmp_ge (pc := 10) 92 dX6_actsOf_10 (by decide) (by omega) (by omega) (fun c_10 => ?_) (fun c_10 => ?_)
      · refine V.sub (by simp only [subL, Option.some.injEq, Sum.inl.injEq, Sum.inr.injEq, reduceCtorEq, true_or, or_true, false_or, true_and, and_true]) (at92 σi hT hO)
      · exact absurd c_10 (by omega)
    · intro i hi ih σi hT hO
      have hMi := hO.1.mb hM
      have hA := hLA.2.2.2.1 (i : Int) (by omega)
      have ha := hW.a (i := (i : Int)) (by omega)
      have hTb := hTbE
      refine V_iload_2 (pc := 2) dX6_actsOf_2 ?_
      refine V_aload_0 (pc := 3) dX6_actsOf_3 ?_
      refine V_getc (pc := 4) dX6_actsOf_4 gf_X6_34 (by omega) ?_
      refine V_bipush (pc := 7) dX6_actsOf_7 (by decide) ?_
      refine V_iald (pc := 9) dX6_actsOf_9 sh_41 (by omega) (by omega) hMi.h6 ?_
      refine V_icmp_ge (pc := 10) 92 dX6_actsOf_10 (by decide) (by omega) (by omega) (fun c_10 => ?_) (fun c_10 => ?_)
      · exact absurd c_10 (by omega)
      · refine V_aload_0 (pc := 13) dX6_actsOf_13 ?_
        refine V_getc (pc := 14) dX6_actsOf_14 gf_X6_46 (by omega) ?_
        refine V_iconst (pc := 17) dX6_actsOf_17 ?_
        refine V_iload_2 (pc := 18) dX6_actsOf_18 ?_
        refine V_imul (pc := 19) dX6_actsOf_19 ?_
        refine V_iconst (pc := 20) dX6_actsOf_20 ?_
        refine V_iadd (pc := 21) dX6_actsOf_21 ?_
        refine V_iald (pc := 22) dX6_actsOf_22 sh_45 (by omega) (by omega) (hMi.a1 (by omega)) ?_
        refine V_istore_3 (pc := 23) dX6_actsOf_23 ?_
        refine V_aload_0 (pc := 24) dX6_actsOf_24 ?_
        refine V_getc (pc := 25) dX6_actsOf_25 gf_X6_46 (by omega) ?_
        refine V_iconst (pc := 28) dX6_actsOf_28 ?_
        refine V_iload_2 (pc := 29) dX6_actsOf_29 ?_
        refine V_imul (pc := 30) dX6_actsOf_30 ?_
        refine V_iconst (pc := 31) dX6_actsOf_31 ?_
        refine V_iadd (pc := 32) dX6_actsOf_32 ?_
        refine V_iald (pc := 33) dX6_actsOf_33 sh_45 (by omega) (by omega) (hMi.a3 (by omega)) ?_
        refine V_iload_1 (pc := 34) dX6_actsOf_34 ?_
        refine V_icmp_ne (pc := 35) 86 dX6_actsOf_35 (by decide) (by omega) (by omega) (fun c_35 => ?_) (fun c_35 => ?_)
        · refine V_iinc_2 (pc := 86) dX6_actsOf_86 ?_
          refine V_goto (pc := 89) 2 dX6_actsOf_89 (by decide) ?_
          refine V.sub (by simp only [subL, Option.some.injEq, Sum.inl.injEq, reduceCtorEq, true_or, or_true, false_or, true_and, and_true]; omega) (ih _ (by rw [ACT_S, if_neg (fun q => c_35 (by have := q.1; rw [hA.2.2] at this; exact this))]; exact hT) (hO))
        · refine V_aload_0 (pc := 38) dX6_actsOf_38 ?_
          refine V_iload_3 (pc := 39) dX6_actsOf_39 ?_
          refine V_iload_1 (pc := 40) dX6_actsOf_40 ?_
          refine V_callV2p (pc := 41) dX6_actsOf_41 kv_X6_293 rc_34 (by omega) (d - 1) (by omega) rfl (c_X6_isThere (by omega) (hO.1.mb hM) hW (hO.1.ld hL) (by omega) (by omega)) ?_
          refine V_if_ne_b (pc := 44) 50 dX6_actsOf_44 (by decide) (fun c_44 => ?_) (fun c_44 => ?_)
          · refine V_aload_0 (pc := 50) dX6_actsOf_50 ?_
            refine V_getc (pc := 51) dX6_actsOf_51 gf_X6_46 (by omega) ?_
            refine V_iconst (pc := 54) dX6_actsOf_54 ?_
            refine V_iload_2 (pc := 55) dX6_actsOf_55 ?_
            refine V_imul (pc := 56) dX6_actsOf_56 ?_
            refine V_iald (pc := 57) dX6_actsOf_57 sh_45 (by omega) (by omega) (hMi.a0 (by omega)) ?_
            refine V_if_ne (pc := 58) 80 dX6_actsOf_58 (by decide) (by first | omega | (split <;> omega)) (fun c_58 => ?_) (fun c_58 => ?_)
            · have hk : B 19 i = -1 := by
                by_cases q : B 19 i = -1
                · exact q
                · rw [if_neg q] at c_58; exact absurd rfl c_58
              refine V_aload_0 (pc := 80) dX6_actsOf_80 ?_
              refine V_iload_3 (pc := 81) dX6_actsOf_81 ?_
              refine V_iload_1 (pc := 82) dX6_actsOf_82 ?_
              refine V_callV2z (pc := 83) dX6_actsOf_83 kv_X6_300 rc_34 (by omega) (d - 1) (by omega) rfl (c_X6_bleach0 (by omega) (s := σi 50 0 (7 * y + B 18 i)) (b := σi 52 0 (B 18 i)) (by omega) (by omega) (by have h1 := hTb i (by omega) (B 18 i) (by omega); have h2 := (hT (B 18 i) (by omega)).1; omega) rfl rfl) (fun σ_83 h_83 => ?_)
              refine V_iinc_2 (pc := 86) dX6_actsOf_86 ?_
              refine V_goto (pc := 89) 2 dX6_actsOf_89 (by decide) ?_
              refine V.sub (by simp only [subL, Option.some.injEq, Sum.inl.injEq, reduceCtorEq, true_or, or_true, false_or, true_and, and_true]; omega) (ih _ (by rw [ACT_S, if_pos ⟨by rw [hA.2.2]; exact c_35, by rw [hA.1]; exact c_44⟩, hA.1, hA.2.1, hk]; exact MRW.prf h_83 hT (by omega) c_44 rfl rfl) (hO.tr (MUP.of h_83 (by omega))))
            · have hk : B 19 i ≠ -1 := fun q => by rw [if_pos q] at c_58; omega
              refine V_aload_0 (pc := 61) dX6_actsOf_61 ?_
              refine V_iload_3 (pc := 62) dX6_actsOf_62 ?_
              refine V_iload_1 (pc := 63) dX6_actsOf_63 ?_
              refine V_aload_0 (pc := 64) dX6_actsOf_64 ?_
              refine V_getc (pc := 65) dX6_actsOf_65 gf_X6_46 (by omega) ?_
              refine V_iconst (pc := 68) dX6_actsOf_68 ?_
              refine V_iload_2 (pc := 69) dX6_actsOf_69 ?_
              refine V_imul (pc := 70) dX6_actsOf_70 ?_
              refine V_iconst (pc := 71) dX6_actsOf_71 ?_
              refine V_iadd (pc := 72) dX6_actsOf_72 ?_
              refine V_iald (pc := 73) dX6_actsOf_73 sh_45 (by omega) (by omega) (hMi.a2 (by omega) hk) ?_
              refine V_callV3z (pc := 74) dX6_actsOf_74 kv_X6_296 rc_34 (by omega) (d - 1) (by omega) rfl (c_X6_begin0 (by omega) hMi hW (by omega) (by omega) (by omega)) (fun σ_74 h_74 => ?_)
              refine V_goto (pc := 77) 86 dX6_actsOf_77 (by decide) ?_
              refine V_iinc_2 (pc := 86) dX6_actsOf_86 ?_
              refine V_goto (pc := 89) 2 dX6_actsOf_89 (by decide) ?_
              refine V.sub (by simp only [subL, Option.some.injEq, Sum.inl.injEq, reduceCtorEq, true_or, or_true, false_or, true_and, and_true]; omega) (ih _ (by rw [ACT_S, if_pos ⟨by rw [hA.2.2]; exact c_35, by rw [hA.1]; exact c_44⟩, hA.1, hA.2.1]; rw [← e7, ← e8] at h_74; exact MRW.new h_74 hT hk) (hO.tr (MUP.of h_74 (by omega))))
          · refine V_goto (pc := 47) 86 dX6_actsOf_47 (by decide) ?_
            refine V_iinc_2 (pc := 86) dX6_actsOf_86 ?_
            refine V_goto (pc := 89) 2 dX6_actsOf_89 (by decide) ?_
            refine V.sub (by simp only [subL, Option.some.injEq, Sum.inl.injEq, reduceCtorEq, true_or, or_true, false_or, true_and, and_true]; omega) (ih _ (by rw [ACT_S, if_neg (fun q => c_44 (by have := q.2; rw [hA.1] at this; exact this))]; exact hT) (hO))
  refine V_iconst (pc := 0) dX6_actsOf_0 ?_
  refine V_istore_2 (pc := 1) dX6_actsOf_1 ?_
  exact loop1 0 (by omega) σ hT0 MOF.rf
