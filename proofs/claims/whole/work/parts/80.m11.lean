set_option maxRecDepth 20000 in
set_option maxHeartbeats 1000000 in
theorem c_X6_paste {d : Nat} (hd : 2 ≤ d) {σ : MM} {X : CST} {s i t k m : Int} (hX : MRl σ X) (hO : XOK X) (hs0 : IR s) (hi : IR i) (ht : IR t) (hk : IR k) (hm : IR m) : V yX6_paste cX6_paste 7 (some .int) d (QI (fun v σ' => v = q_paste X.Z s i t k m ∧ MRl σ' (NEWZ X (s_paste X.Z s i t k m)) ∧ FM σ σ')) 0 [some (vR 34 0), some (vI s), some (vI i), some (vI t), some (vI k), some (vI m), none] [] σ := by
  have hM := hX.1
  have hG := hO.1
  have hW := hG.w
  have hs := hW.s
  have hF := hX.2.2.2.1
  have hT := hX.2.2.1
  have hI6 := hX.2.2.2.2
  have hZ := hX.2.1
  have h30 := hG.2.2.1
  have loop : ((0 ≤ s ∧ s < 4) ∧ (0 ≤ t ∧ t < 4)) → X.Z 0 s 0 = 1 → X.Z 0 t 0 = 1 → X.Z 1 s 0 = X.Z 1 t 0 → (0 ≤ i ∧ 0 ≤ m ∧ i + m ≤ X.Z 2 s 0) → (0 ≤ k ∧ k + m ≤ X.Z 2 t 0) → ∀ j : Nat, j ≤ m.toNat → ∀ σi : MM, ((∀ x : Int, 0 ≤ x ∧ x < (j : Int) → σi 38 0 x = X.Z 3 s (i + x)) ∧ (∀ (t' : Nat) (k' z : Int), t' ≠ 38 → σi t' k' z = (setI σ 34 0 0 0) t' k' z)) → V yX6_paste cX6_paste 7 (some .int) d (QI (fun v σ' => v = q_paste X.Z s i t k m ∧ MRl σ' (NEWZ X (s_paste X.Z s i t k m)) ∧ FM σ σ')) 118 [some (vR 34 0), some (vI s), some (vI i), some (vI t), some (vI k), some (vI m), some (vI (j : Int))] [] σi := by
    intro hst h1 h2 hw12 hr1 hr2
    obtain ⟨⟨h36, hn⟩, h37⟩ := hZ.c (k := s) hst.1 h1
    obtain ⟨⟨h36t, hnt⟩, h37t⟩ := hZ.c (k := t) hst.2 h2
    have loop2 : ∀ j : Nat, j ≤ m.toNat → ∀ σi : MM, ((∀ x : Int, 0 ≤ x ∧ x < m → σi 38 0 x = X.Z 3 s (i + x)) ∧ (∀ x : Int, 0 ≤ x ∧ x < (j : Int) → σi 37 0 (60 * t + k + x) = X.Z 3 s (i + x)) ∧ (∀ x : Int, ¬ (60 * t + k ≤ x ∧ x < 60 * t + k + (j : Int)) → σi 37 0 x = σ 37 0 x) ∧ (∀ (t' : Nat) (k' z : Int), t' ≠ 37 → t' ≠ 38 → σi t' k' z = (setI σ 34 0 0 0) t' k' z)) → V yX6_paste cX6_paste 7 (some .int) d (QI (fun v σ' => v = q_paste X.Z s i t k m ∧ MRl σ' (NEWZ X (s_paste X.Z s i t k m)) ∧ FM σ σ')) 155 [some (vR 34 0), some (vI s), some (vI i), some (vI t), some (vI k), some (vI m), some (vI (j : Int))] [] σi := by
      refine up_ind (P := fun j : Nat => ∀ σi : MM, ((∀ x : Int, 0 ≤ x ∧ x < m → σi 38 0 x = X.Z 3 s (i + x)) ∧ (∀ x : Int, 0 ≤ x ∧ x < (j : Int) → σi 37 0 (60 * t + k + x) = X.Z 3 s (i + x)) ∧ (∀ x : Int, ¬ (60 * t + k ≤ x ∧ x < 60 * t + k + (j : Int)) → σi 37 0 x = σ 37 0 x) ∧ (∀ (t' : Nat) (k' z : Int), t' ≠ 37 → t' ≠ 38 → σi t' k' z = (setI σ 34 0 0 0) t' k' z)) → V yX6_paste cX6_paste 7 (some .int) d (QI (fun v σ' => v = q_paste X.Z s i t k m ∧ MRl σ' (NEWZ X (s_paste X.Z s i t k m)) ∧ FM σ σ')) 155 [some (vR 34 0), some (vI s), some (vI i), some (vI t), some (vI k), some (vI m), some (vI (j : Int))] [] σi) ?_ ?_
      · intro σi hI
        refine V_iload_6 (pc := 155) dX6_paste_155 ?_
        refine V_iload_5 (pc := 157) dX6_paste_157 ?_
        refine V_icmp_ge (pc := 159) 190 dX6_paste_159 (by decide) (by omega) (by omega) (fun c_159 => ?_) (fun c_159 => ?_)
        · refine V_iconst (pc := 190) dX6_paste_190 ?_
          refine V_iretI (pc := 191) dX6_paste_191 rfl ?_
          have hMZ : MZ σi (ZPS X.Z s i t k m) := fun x hx => by
            have z0 : ZPS X.Z s i t k m 0 = X.Z 0 := by funext a b; simp [ZPS]
            have z1 : ZPS X.Z s i t k m 1 = X.Z 1 := by funext a b; simp [ZPS]
            have z2 : ZPS X.Z s i t k m 2 = X.Z 2 := by funext a b; simp [ZPS]
            rw [z0, z1, z2, hI.2.2.2 35 0 x (by decide) (by decide), hI.2.2.2 36 0 x (by decide) (by decide), setI_ne (by decide), setI_ne (by decide)]
            rcases hZ x hx with a | a
            · exact Or.inl a
            · refine Or.inr ⟨a.1, a.2.1, a.2.2.1, fun u hu => ?_⟩
              have hu9 := a.2.2.2 u hu
              have a36 := a.2.2.1
              by_cases q : x = t
              · subst q
                by_cases r : k ≤ u ∧ u < k + m
                · have hv9 := hI.2.1 (u - k) (by omega)
                  rw [show 60 * x + k + (u - k) = 60 * x + u by omega] at hv9
                  simp only [ZPS, true_and, r, and_self, if_true]
                  rw [hv9]
                  exact ⟨rfl, (h37 (i + (u - k)) (by omega)).2⟩
                · rw [hI.2.2.1 (60 * x + u) (by omega)]
                  simp only [ZPS, true_and, r, if_false]
                  exact hu9
              · rw [hI.2.2.1 (60 * x + u) (by omega)]
                simp only [ZPS, true_and, q, false_and, if_false]
                exact hu9
          have hN := hX.newz (Z := ZPS X.Z s i t k m) (σ' := σi) (fun t' k' z a b => by rw [hI.2.2.2 t' k' z (by omega) (by omega)]; exact (KM.set (σ := σ) (t := 34) (k := 0) (z := 0) (v := 0) (by unfold SCM; omega)) t' k' z b) hMZ
          exact ⟨_, rfl, by unfold q_paste; rw [if_neg (by omega), if_neg (by omega), if_neg (by omega), if_neg (by unfold r_ps; omega)], by unfold s_paste; rw [if_neg (by omega), if_neg (by omega), if_neg (by omega), if_neg (by unfold r_ps; omega)]; exact hN.1, hN.2⟩
        · exact absurd c_159 (by omega)
      · intro j hj ih σi hI
        refine V_iload_6 (pc := 155) dX6_paste_155 ?_
        refine V_iload_5 (pc := 157) dX6_paste_157 ?_
        refine V_icmp_ge (pc := 159) 190 dX6_paste_159 (by decide) (by omega) (by omega) (fun c_159 => ?_) (fun c_159 => ?_)
        · exact absurd c_159 (by omega)
        · refine V_aload_0 (pc := 162) dX6_paste_162 ?_
          refine V_getc (pc := 163) dX6_paste_163 gf_X6_16 (by omega) ?_
          refine V_bipush (pc := 166) dX6_paste_166 (by decide) ?_
          refine V_iload_3 (pc := 168) dX6_paste_168 ?_
          refine V_imul (pc := 169) dX6_paste_169 ?_
          refine V_iload_4 (pc := 170) dX6_paste_170 ?_
          refine V_iadd (pc := 172) dX6_paste_172 ?_
          refine V_iload_6 (pc := 173) dX6_paste_173 ?_
          refine V_iadd (pc := 175) dX6_paste_175 ?_
          refine V_aload_0 (pc := 176) dX6_paste_176 ?_
          refine V_getc (pc := 177) dX6_paste_177 gf_X6_20 (by omega) ?_
          refine V_iload_6 (pc := 180) dX6_paste_180 ?_
          refine V_jald (pc := 182) dX6_paste_182 sh_38 (by omega) (by omega) (hI.1 (j : Int) (by omega)) ?_
          refine V_jast (pc := 183) dX6_paste_183 sh_37 (by omega) (by omega) ?_
          refine V_iinc_6 (pc := 184) dX6_paste_184 ?_
          refine V_goto (pc := 187) 155 dX6_paste_187 (by decide) ?_
          refine V.sub (by simp only [subL, Option.some.injEq, Sum.inl.injEq, reduceCtorEq, true_or, or_true, false_or, true_and, and_true]; omega) (ih _ ⟨fun x hx => by rw [setI_ne (by decide)]; exact hI.1 x hx, fun x hx => ?_, fun x hx => by rw [setI_x (by omega)]; exact hI.2.2.1 x (by omega), fun t' k' z a b => by rw [setI_ne a]; exact hI.2.2.2 t' k' z a b⟩)
          by_cases q : x = j
          · subst q; rw [setI_same]
          · rw [setI_x (by omega)]; exact hI.2.1 x (by omega)
    refine up_ind (P := fun j : Nat => ∀ σi : MM, ((∀ x : Int, 0 ≤ x ∧ x < (j : Int) → σi 38 0 x = X.Z 3 s (i + x)) ∧ (∀ (t' : Nat) (k' z : Int), t' ≠ 38 → σi t' k' z = (setI σ 34 0 0 0) t' k' z)) → V yX6_paste cX6_paste 7 (some .int) d (QI (fun v σ' => v = q_paste X.Z s i t k m ∧ MRl σ' (NEWZ X (s_paste X.Z s i t k m)) ∧ FM σ σ')) 118 [some (vR 34 0), some (vI s), some (vI i), some (vI t), some (vI k), some (vI m), some (vI (j : Int))] [] σi) ?_ ?_
    · intro σi hI
      refine V_iload_6 (pc := 118) dX6_paste_118 ?_
      refine V_iload_5 (pc := 120) dX6_paste_120 ?_
      refine V_icmp_ge (pc := 122) 152 dX6_paste_122 (by decide) (by omega) (by omega) (fun c_122 => ?_) (fun c_122 => ?_)
      · refine V_iconst (pc := 152) dX6_paste_152 ?_
        refine V_istore_6 (pc := 153) dX6_paste_153 ?_
        refine V.sub (by simp only [subL, Option.some.injEq, Sum.inl.injEq, reduceCtorEq, true_or, or_true, false_or, true_and, and_true]; omega) (loop2 0 (by omega) _ ⟨fun x hx => hI.1 x (by omega), fun x hx => by omega, fun x hx => by rw [hI.2 37 0 x (by decide), setI_ne (by decide)], fun t' k' z a b => hI.2 t' k' z b⟩)
      · exact absurd c_122 (by omega)
    · intro j hj ih σi hI
      refine V_iload_6 (pc := 118) dX6_paste_118 ?_
      refine V_iload_5 (pc := 120) dX6_paste_120 ?_
      refine V_icmp_ge (pc := 122) 152 dX6_paste_122 (by decide) (by omega) (by omega) (fun c_122 => ?_) (fun c_122 => ?_)
      · exact absurd c_122 (by omega)
      · refine V_aload_0 (pc := 125) dX6_paste_125 ?_
        refine V_getc (pc := 126) dX6_paste_126 gf_X6_20 (by omega) ?_
        refine V_iload_6 (pc := 129) dX6_paste_129 ?_
        refine V_aload_0 (pc := 131) dX6_paste_131 ?_
        refine V_getc (pc := 132) dX6_paste_132 gf_X6_16 (by omega) ?_
        refine V_bipush (pc := 135) dX6_paste_135 (by decide) ?_
        refine V_iload_1 (pc := 137) dX6_paste_137 ?_
        refine V_imul (pc := 138) dX6_paste_138 ?_
        refine V_iload_2 (pc := 139) dX6_paste_139 ?_
        refine V_iadd (pc := 140) dX6_paste_140 ?_
        refine V_iload_6 (pc := 141) dX6_paste_141 ?_
        refine V_iadd (pc := 143) dX6_paste_143 ?_
        refine V_jald (pc := 144) dX6_paste_144 sh_37 (by omega) (by omega) (v := X.Z 3 s (i + (j : Int))) (by rw [hI.2 37 0 _ (by decide), setI_ne (by decide), show 60 * s + i + (j : Int) = 60 * s + (i + (j : Int)) by omega]; exact (h37 (i + (j : Int)) (by omega)).1) ?_
        refine V_jast (pc := 145) dX6_paste_145 sh_38 (by omega) (by omega) ?_
        refine V_iinc_6 (pc := 146) dX6_paste_146 ?_
        refine V_goto (pc := 149) 118 dX6_paste_149 (by decide) ?_
        refine V.sub (by simp only [subL, Option.some.injEq, Sum.inl.injEq, reduceCtorEq, true_or, or_true, false_or, true_and, and_true]; omega) (ih _ ⟨fun x hx => ?_, fun t' k' z a => by rw [setI_ne a]; exact hI.2 t' k' z a⟩)
        by_cases q : x = j
        · subst q; rw [setI_same]
        · rw [setI_x q]; exact hI.1 x (by omega)
  refine V_aload_0 (pc := 0) dX6_paste_0 ?_
  refine V_iconst (pc := 1) dX6_paste_1 ?_
  refine V_puti (pc := 2) dX6_paste_2 gf_X6_74 (by omega) ?_
  have hM := (KM.set (σ := σ) (t := 34) (k := 0) (z := 0) (v := 0) (by unfold SCM; omega)).mb hM
  refine V_iload_1 (pc := 5) dX6_paste_5 ?_
  refine V_callS1p (pc := 6) dX6_paste_6 kv_X6_83 (d - 1) (by omega) rfl (c_X6_isSlot (by omega) (by omega)) ?_
  refine V_if_eq_b (pc := 9) 19 dX6_paste_9 (by decide) (fun c_9 => ?_) (fun c_9 => ?_)
  · refine V_bipush (pc := 19) dX6_paste_19 (by decide) ?_
    refine V_iretI (pc := 21) dX6_paste_21 rfl ?_
    exact ⟨_, rfl, by unfold q_paste; rw [if_pos (by omega)], by unfold s_paste; rw [if_pos (by omega)]; exact (KM.set (σ := σ) (t := 34) (k := 0) (z := 0) (v := 0) (by unfold SCM; omega)).mrl hX, (KM.set (σ := σ) (t := 34) (k := 0) (z := 0) (v := 0) (by unfold SCM; omega)).fm⟩
  · refine V_iload_3 (pc := 12) dX6_paste_12 ?_
    refine V_callS1p (pc := 13) dX6_paste_13 kv_X6_83 (d - 1) (by omega) rfl (c_X6_isSlot (by omega) (by omega)) ?_
    refine V_if_ne_b (pc := 16) 22 dX6_paste_16 (by decide) (fun c_16 => ?_) (fun c_16 => ?_)
    · have hZs := ((KM.set (σ := σ) (t := 34) (k := 0) (z := 0) (v := 0) (by unfold SCM; omega)).mz hZ).w (k := s) (by omega)
      have hZt := ((KM.set (σ := σ) (t := 34) (k := 0) (z := 0) (v := 0) (by unfold SCM; omega)).mz hZ).w (k := t) (by omega)
      refine V_aload_0 (pc := 22) dX6_paste_22 ?_
      refine V_getc (pc := 23) dX6_paste_23 gf_X6_7 (by omega) ?_
      refine V_iload_1 (pc := 26) dX6_paste_26 ?_
      refine V_iald (pc := 27) dX6_paste_27 sh_35 (by omega) (by omega) hZs.1 ?_
      refine V_iconst (pc := 28) dX6_paste_28 ?_
      refine V_icmp_eq (pc := 29) 42 dX6_paste_29 (by decide) (by omega) (by omega) (fun c_29 => ?_) (fun c_29 => ?_)
      · refine V_bipush (pc := 42) dX6_paste_42 (by decide) ?_
        refine V_iretI (pc := 44) dX6_paste_44 rfl ?_
        exact ⟨_, rfl, by unfold q_paste; rw [if_neg (by omega), if_pos (by omega)], by unfold s_paste; rw [if_neg (by omega), if_pos (by omega)]; exact (KM.set (σ := σ) (t := 34) (k := 0) (z := 0) (v := 0) (by unfold SCM; omega)).mrl hX, (KM.set (σ := σ) (t := 34) (k := 0) (z := 0) (v := 0) (by unfold SCM; omega)).fm⟩
      · refine V_aload_0 (pc := 32) dX6_paste_32 ?_
        refine V_getc (pc := 33) dX6_paste_33 gf_X6_7 (by omega) ?_
        refine V_iload_3 (pc := 36) dX6_paste_36 ?_
        refine V_iald (pc := 37) dX6_paste_37 sh_35 (by omega) (by omega) hZt.1 ?_
        refine V_iconst (pc := 38) dX6_paste_38 ?_
        refine V_icmp_ne (pc := 39) 45 dX6_paste_39 (by decide) (by omega) (by omega) (fun c_39 => ?_) (fun c_39 => ?_)
        · have h1 : X.Z 0 s 0 = 1 := by omega
          have h2 : X.Z 0 t 0 = 1 := by omega
          have h36 := (((KM.set (σ := σ) (t := 34) (k := 0) (z := 0) (v := 0) (by unfold SCM; omega)).mz hZ).c (k := s) (by omega) h1).1
          have h36t := (((KM.set (σ := σ) (t := 34) (k := 0) (z := 0) (v := 0) (by unfold SCM; omega)).mz hZ).c (k := t) (by omega) h2).1
          have hms : MW X.Z s = X.Z 1 s 0 := if_neg (by omega)
          have hmt : MW X.Z t = X.Z 1 t 0 := if_neg (by omega)
          have k1 := cmpZ_in (i + m) (X.Z 2 s 0)
          have k2 := cmpZ_in (k + m) (X.Z 2 t 0)
          refine V_aload_0 (pc := 45) dX6_paste_45 ?_
          refine V_getc (pc := 46) dX6_paste_46 gf_X6_7 (by omega) ?_
          refine V_iload_1 (pc := 49) dX6_paste_49 ?_
          refine V_iald (pc := 50) dX6_paste_50 sh_35 (by omega) (by omega) hZs.1 ?_
          refine V_aload_0 (pc := 51) dX6_paste_51 ?_
          refine V_getc (pc := 52) dX6_paste_52 gf_X6_7 (by omega) ?_
          refine V_iload_3 (pc := 55) dX6_paste_55 ?_
          refine V_iald (pc := 56) dX6_paste_56 sh_35 (by omega) (by omega) hZt.1 ?_
          refine V_icmp_eq (pc := 57) 63 dX6_paste_57 (by decide) (by omega) (by omega) (fun c_57 => ?_) (fun c_57 => ?_)
          · refine V_iload_2 (pc := 63) dX6_paste_63 ?_
            refine V_if_lt (pc := 64) 112 dX6_paste_64 (by decide) (by omega) (fun c_64 => ?_) (fun c_64 => ?_)
            · refine V_bipush (pc := 112) dX6_paste_112 (by decide) ?_
              refine V_iretI (pc := 114) dX6_paste_114 rfl ?_
              exact ⟨_, rfl, by unfold q_paste; rw [if_neg (by omega), if_neg (by omega), if_neg (by omega), if_pos (by unfold r_ps; omega)], by unfold s_paste; rw [if_neg (by omega), if_neg (by omega), if_neg (by omega), if_pos (by unfold r_ps; omega)]; exact (KM.set (σ := σ) (t := 34) (k := 0) (z := 0) (v := 0) (by unfold SCM; omega)).mrl hX, (KM.set (σ := σ) (t := 34) (k := 0) (z := 0) (v := 0) (by unfold SCM; omega)).fm⟩
            · refine V_iload_4 (pc := 67) dX6_paste_67 ?_
              refine V_if_lt (pc := 69) 112 dX6_paste_69 (by decide) (by omega) (fun c_69 => ?_) (fun c_69 => ?_)
              · refine V_bipush (pc := 112) dX6_paste_112 (by decide) ?_
                refine V_iretI (pc := 114) dX6_paste_114 rfl ?_
                exact ⟨_, rfl, by unfold q_paste; rw [if_neg (by omega), if_neg (by omega), if_neg (by omega), if_pos (by unfold r_ps; omega)], by unfold s_paste; rw [if_neg (by omega), if_neg (by omega), if_neg (by omega), if_pos (by unfold r_ps; omega)]; exact (KM.set (σ := σ) (t := 34) (k := 0) (z := 0) (v := 0) (by unfold SCM; omega)).mrl hX, (KM.set (σ := σ) (t := 34) (k := 0) (z := 0) (v := 0) (by unfold SCM; omega)).fm⟩
              · refine V_iload_5 (pc := 72) dX6_paste_72 ?_
                refine V_if_lt (pc := 74) 112 dX6_paste_74 (by decide) (by omega) (fun c_74 => ?_) (fun c_74 => ?_)
                · refine V_bipush (pc := 112) dX6_paste_112 (by decide) ?_
                  refine V_iretI (pc := 114) dX6_paste_114 rfl ?_
                  exact ⟨_, rfl, by unfold q_paste; rw [if_neg (by omega), if_neg (by omega), if_neg (by omega), if_pos (by unfold r_ps; omega)], by unfold s_paste; rw [if_neg (by omega), if_neg (by omega), if_neg (by omega), if_pos (by unfold r_ps; omega)]; exact (KM.set (σ := σ) (t := 34) (k := 0) (z := 0) (v := 0) (by unfold SCM; omega)).mrl hX, (KM.set (σ := σ) (t := 34) (k := 0) (z := 0) (v := 0) (by unfold SCM; omega)).fm⟩
                · refine V_iload_2 (pc := 77) dX6_paste_77 ?_
                  refine V_i2l (pc := 78) dX6_paste_78 (by omega) ?_
                  refine V_iload_5 (pc := 79) dX6_paste_79 ?_
                  refine V_i2l (pc := 81) dX6_paste_81 (by omega) ?_
                  refine V_ladd (pc := 82) dX6_paste_82 ?_
                  refine V_aload_0 (pc := 83) dX6_paste_83 ?_
                  refine V_getc (pc := 84) dX6_paste_84 gf_X6_13 (by omega) ?_
                  refine V_iload_1 (pc := 87) dX6_paste_87 ?_
                  refine V_iald (pc := 88) dX6_paste_88 sh_36 (by omega) (by omega) h36.1 ?_
                  refine V_i2l (pc := 89) dX6_paste_89 (by omega) ?_
                  refine V_lcmp (pc := 90) dX6_paste_90 (by omega) (by omega) ?_
                  refine V_if_gt (pc := 91) 112 dX6_paste_91 (by decide) (by omega) (fun c_91 => ?_) (fun c_91 => ?_)
                  · refine V_bipush (pc := 112) dX6_paste_112 (by decide) ?_
                    refine V_iretI (pc := 114) dX6_paste_114 rfl ?_
                    exact ⟨_, rfl, by unfold q_paste; rw [if_neg (by omega), if_neg (by omega), if_neg (by omega), if_pos (by unfold r_ps; omega)], by unfold s_paste; rw [if_neg (by omega), if_neg (by omega), if_neg (by omega), if_pos (by unfold r_ps; omega)]; exact (KM.set (σ := σ) (t := 34) (k := 0) (z := 0) (v := 0) (by unfold SCM; omega)).mrl hX, (KM.set (σ := σ) (t := 34) (k := 0) (z := 0) (v := 0) (by unfold SCM; omega)).fm⟩
                  · refine V_iload_4 (pc := 94) dX6_paste_94 ?_
                    refine V_i2l (pc := 96) dX6_paste_96 (by omega) ?_
                    refine V_iload_5 (pc := 97) dX6_paste_97 ?_
                    refine V_i2l (pc := 99) dX6_paste_99 (by omega) ?_
                    refine V_ladd (pc := 100) dX6_paste_100 ?_
                    refine V_aload_0 (pc := 101) dX6_paste_101 ?_
                    refine V_getc (pc := 102) dX6_paste_102 gf_X6_13 (by omega) ?_
                    refine V_iload_3 (pc := 105) dX6_paste_105 ?_
                    refine V_iald (pc := 106) dX6_paste_106 sh_36 (by omega) (by omega) h36t.1 ?_
                    refine V_i2l (pc := 107) dX6_paste_107 (by omega) ?_
                    refine V_lcmp (pc := 108) dX6_paste_108 (by omega) (by omega) ?_
                    refine V_if_le (pc := 109) 115 dX6_paste_109 (by decide) (by omega) (fun c_109 => ?_) (fun c_109 => ?_)
                    · refine V_iconst (pc := 115) dX6_paste_115 ?_
                      refine V_istore_6 (pc := 116) dX6_paste_116 ?_
                      exact loop (by omega) h1 h2 (by omega) (by omega) (by omega) 0 (by omega) _ ⟨fun x hx => by omega, fun _ _ _ _ => rfl⟩
                    · refine V_bipush (pc := 112) dX6_paste_112 (by decide) ?_
                      refine V_iretI (pc := 114) dX6_paste_114 rfl ?_
                      exact ⟨_, rfl, by unfold q_paste; rw [if_neg (by omega), if_neg (by omega), if_neg (by omega), if_pos (by unfold r_ps; omega)], by unfold s_paste; rw [if_neg (by omega), if_neg (by omega), if_neg (by omega), if_pos (by unfold r_ps; omega)]; exact (KM.set (σ := σ) (t := 34) (k := 0) (z := 0) (v := 0) (by unfold SCM; omega)).mrl hX, (KM.set (σ := σ) (t := 34) (k := 0) (z := 0) (v := 0) (by unfold SCM; omega)).fm⟩
          · refine V_bipush (pc := 60) dX6_paste_60 (by decide) ?_
            refine V_iretI (pc := 62) dX6_paste_62 rfl ?_
            exact ⟨_, rfl, by unfold q_paste; rw [if_neg (by omega), if_neg (by omega), if_pos (by omega)], by unfold s_paste; rw [if_neg (by omega), if_neg (by omega), if_pos (by omega)]; exact (KM.set (σ := σ) (t := 34) (k := 0) (z := 0) (v := 0) (by unfold SCM; omega)).mrl hX, (KM.set (σ := σ) (t := 34) (k := 0) (z := 0) (v := 0) (by unfold SCM; omega)).fm⟩
        · refine V_bipush (pc := 42) dX6_paste_42 (by decide) ?_
          refine V_iretI (pc := 44) dX6_paste_44 rfl ?_
          exact ⟨_, rfl, by unfold q_paste; rw [if_neg (by omega), if_pos (by omega)], by unfold s_paste; rw [if_neg (by omega), if_pos (by omega)]; exact (KM.set (σ := σ) (t := 34) (k := 0) (z := 0) (v := 0) (by unfold SCM; omega)).mrl hX, (KM.set (σ := σ) (t := 34) (k := 0) (z := 0) (v := 0) (by unfold SCM; omega)).fm⟩
    · refine V_bipush (pc := 19) dX6_paste_19 (by decide) ?_
      refine V_iretI (pc := 21) dX6_paste_21 rfl ?_
      exact ⟨_, rfl, by unfold q_paste; rw [if_pos (by omega)], by unfold s_paste; rw [if_pos (by omega)]; exact (KM.set (σ := σ) (t := 34) (k := 0) (z := 0) (v := 0) (by unfold SCM; omega)).mrl hX, (KM.set (σ := σ) (t := 34) (k := 0) (z := 0) (v := 0) (by unfold SCM; omega)).fm⟩

/-- the tape alone -/
def OffP (σ σ' : MM) : Prop := ∀ (t : Nat) (k z : Int), ¬ (t = 34 ∧ z = 6) → t ≠ 39 → σ' t k z = σ t k z
theorem OffP.rf {σ : MM} : OffP σ σ := fun _ _ _ _ _ => rfl
theorem OffP.tr {σ σ1 σ2 : MM} (h : OffP σ σ1) (h2 : OffP σ1 σ2) : OffP σ σ2 := fun t k z a b => (h2 t k z a b).trans (h t k z a b)
def TPE (σ : MM) (T : Int → Int) (n : Int) : Prop := σ 34 0 6 = n ∧ ∀ x : Int, 0 ≤ x ∧ x < n → σ 39 0 x = T x
theorem F4_tpe {σ : MM} {T : Int → Int} {n v : Int} (h1 : σ 34 0 6 = n + 4) (h2 : ∀ x : Int, 0 ≤ x ∧ x < n → σ 39 0 x = T x) (h3 : ∀ j : Int, 0 ≤ j ∧ j < 4 → σ 39 0 (n + j) = b8 (v / p2 (24 - 8 * j))) : TPE σ (F4 T n v) (n + 4) := by
  refine ⟨h1, fun x hx => ?_⟩
  have a0 := h3 0 (by omega)
  have a1 := h3 1 (by omega)
  have a2 := h3 2 (by omega)
  have a3 := h3 3 (by omega)
  rw [Int.add_zero] at a0
  have hc : x < n ∨ x = n ∨ x = n + 1 ∨ x = n + 2 ∨ x = n + 3 := by omega
  unfold F4
  rcases hc with q | rfl | rfl | rfl | rfl
  · rw [if_neg (by omega), if_neg (by omega), if_neg (by omega), if_neg (by omega)]
    exact h2 x (by omega)
  · rw [if_pos rfl]; exact a0
  · rw [if_neg (by omega), if_pos rfl]; exact a1
  · rw [if_neg (by omega), if_neg (by omega), if_pos rfl]; exact a2
  · rw [if_neg (by omega), if_neg (by omega), if_neg (by omega), if_pos rfl]; exact a3
theorem MRl.tape {σ σ' : MM} {X : CST} {T : Int → Int} {n m : Int} (hX : MRl σ X) (h : OffP σ σ') (hT : TPE σ' T n) (hm : m = n) : MRl σ' (X.B, X.Z, T, (m, X.fk, X.fp), X.I, X.K) := by
  subst hm
  obtain ⟨hM, hZ, _, hF, hI⟩ := hX
  have e : ∀ t : Nat, 35 ≤ t → t ≠ 39 → σ' t = σ t := fun t a b => by funext k z; exact h t k z (by omega) b
  refine ⟨hM.cong (fun t q => e t (by omega) (by omega)), hZ.cong (e 35 (by omega) (by decide)) (e 36 (by omega) (by decide)) (e 37 (by omega) (by decide)), hT, ?_, fun k hk => ?_⟩
  · show σ' 34 0 14 = X.fk ∧ σ' 34 0 15 = X.fp
    rw [h 34 0 14 (by omega) (by decide), h 34 0 15 (by omega) (by decide)]; exact hF
  · show σ' 46 0 k = X.K k ∧ (X.K k = 1 → MB σ' (1 + k) (X.I k))
    rw [e 46 (by omega) (by decide)]
    exact ⟨(hI k hk).1, fun q => ((hI k hk).2 q).cong (fun t q => e t (by omega) (by omega))⟩
theorem OffP.fm {σ σ' : MM} (h : OffP σ σ') : FM σ σ' := fun t q => by funext k z; exact h t k z (by omega) (by omega)
theorem OffP0 {σ : MM} {v : Int} : ∀ (t : Nat) (k z : Int), ¬ (t = 34 ∧ z = 0) → setI σ 34 0 0 v t k z = σ t k z := fun t k z a => by
  have : ¬ (t = 34 ∧ k = 0 ∧ z = 0) := fun q => a ⟨q.1, q.2.2⟩
  simp only [setI, this, if_false]

set_option maxRecDepth 20000 in
set_option maxHeartbeats 1000000 in
theorem c_X6_four {d : Nat} (hd : 0 ≤ d) {σ : MM} {T : Int → Int} {n v : Int} (hT : TPE σ T n) (hn4 : 0 ≤ n ∧ n + 4 ≤ 700) (hv : IR v) : V yX6_four cX6_four 3 none d (QZ (fun σ' => TPE σ' (F4 T n v) (n + 4) ∧ OffP σ σ')) 0 [some (vR 34 0), some (vI v), none] [] σ := by
  have loop : ∀ i : Nat, i ≤ 4 → ∀ σi : MM, (σi 34 0 6 = n + i ∧ (∀ x : Int, 0 ≤ x ∧ x < n → σi 39 0 x = T x) ∧ (∀ j : Int, 0 ≤ j ∧ j < (i : Int) → σi 39 0 (n + j) = b8 (v / p2 (24 - 8 * j))) ∧ OffP σ σi) → V yX6_four cX6_four 3 none d (QZ (fun σ' => TPE σ' (F4 T n v) (n + 4) ∧ OffP σ σ')) 3 [some (vR 34 0), some (vI v), some (vI (24 - 8 * (i : Int)))] [] σi := by
    refine up_ind (P := fun i : Nat => ∀ σi : MM, (σi 34 0 6 = n + i ∧ (∀ x : Int, 0 ≤ x ∧ x < n → σi 39 0 x = T x) ∧ (∀ j : Int, 0 ≤ j ∧ j < (i : Int) → σi 39 0 (n + j) = b8 (v / p2 (24 - 8 * j))) ∧ OffP σ σi) → V yX6_four cX6_four 3 none d (QZ (fun σ' => TPE σ' (F4 T n v) (n + 4) ∧ OffP σ σ')) 3 [some (vR 34 0), some (vI v), some (vI (24 - 8 * (i : Int)))] [] σi) ?_ ?_
    · intro σi hI
      refine V_iload_2 (pc := 3) dX6_four_3 ?_
      refine V_if_lt (pc := 4) 36 dX6_four_4 (by decide) (by omega) (fun c_4 => ?_) (fun c_4 => ?_)
      · refine V_vret (pc := 36) dX6_four_36 rfl ?_
        exact ⟨rfl, F4_tpe (by rw [hI.1]; rfl) hI.2.1 (fun j hj => hI.2.2.1 j (by omega)), hI.2.2.2⟩
      · exact absurd c_4 (by omega)
    · intro i hi ih σi hI
      refine V_iload_2 (pc := 3) dX6_four_3 ?_
      refine V_if_lt (pc := 4) 36 dX6_four_4 (by decide) (by omega) (fun c_4 => ?_) (fun c_4 => ?_)
      · exact absurd c_4 (by omega)
      · refine V_aload_0 (pc := 7) dX6_four_7 ?_
        refine V_getc (pc := 8) dX6_four_8 gf_X6_23 (by omega) ?_
        refine V_aload_0 (pc := 11) dX6_four_11 ?_
        refine V_geti (pc := 12) dX6_four_12 gf_X6_91 (by omega) (v := n + i) (by first | exact hI.1 | (rw [setI_ne (by decide)]; exact hI.1)) ?_
        refine V_iload_1 (pc := 15) dX6_four_15 ?_
        refine V_iload_2 (pc := 16) dX6_four_16 ?_
        refine V_ishr_p (pc := 17) dX6_four_17 (by omega) (by omega) ?_
        refine V_i2b (pc := 18) dX6_four_18 ?_
        refine V_bast (pc := 19) dX6_four_19 sh_39 (by omega) (by omega) ?_
        refine V_aload_0 (pc := 20) dX6_four_20 ?_
        refine V_dup (pc := 21) dX6_four_21 rfl ?_
        refine V_geti (pc := 22) dX6_four_22 gf_X6_91 (by omega) (v := n + i) (by first | exact hI.1 | (rw [setI_ne (by decide)]; exact hI.1)) ?_
        refine V_iconst (pc := 25) dX6_four_25 ?_
        refine V_iadd (pc := 26) dX6_four_26 ?_
        refine V_puti (pc := 27) dX6_four_27 gf_X6_91 (by omega) ?_
        refine V_iinc_2 (pc := 30) dX6_four_30 ?_
        refine V_goto (pc := 33) 3 dX6_four_33 (by decide) ?_
        refine V.sub (by simp only [subL, Option.some.injEq, Sum.inl.injEq, reduceCtorEq, true_or, or_true, false_or, true_and, and_true]; omega) (ih _ ⟨by rw [setI_same]; omega, fun x hx => ?_, fun j hj => ?_, fun t k z a b => ?_⟩)
        · rw [setI_ne (by decide), setI_x (by omega)]; exact hI.2.1 x hx
        · by_cases q : j = i
          · subst q; rw [setI_ne (by decide), setI_same]; exact b8_b8 _
          · rw [setI_ne (by decide), setI_x (by omega)]; exact hI.2.2.1 j (by omega)
        · have g1 : ¬ (t = 34 ∧ k = 0 ∧ z = 6) := fun q => a ⟨q.1, q.2.2⟩
          simp only [setI_at, g1, b, false_and, if_false]; exact hI.2.2.2 t k z a b
  refine V_bipush (pc := 0) dX6_four_0 (by decide) ?_
  refine V_istore_2 (pc := 2) dX6_four_2 ?_
  exact loop 0 (by omega) _ ⟨by rw [hT.1]; omega, fun x hx => hT.2 x hx, fun j hj => by omega, OffP.rf⟩

set_option maxRecDepth 20000 in
set_option maxHeartbeats 1000000 in
theorem c_X6_feed {d : Nat} (hd : 1 ≤ d) {σ : MM} {X : CST} {a b c d9 e0 : Int} (hX : MRl σ X) (hO : XOK X) (ha : IR a) (hb : IR b) (hc : IR c) (hd9 : IR d9) (he : IR e0) : V yX6_feed cX6_feed 6 (some .int) d (QI (fun v σ' => v = q_feed X ∧ MRl σ' (s_feed X a b c d9 e0) ∧ FM σ σ')) 0 [some (vR 34 0), some (vI a), some (vI b), some (vI c), some (vI d9), some (vI e0)] [] σ := by
  have hM := hX.1
  have hG := hO.1
  have hW := hG.w
  have hs := hW.s
  have hF := hX.2.2.2.1
  have hT := hX.2.2.1
  have hI6 := hX.2.2.2.2
  have hZ := hX.2.1
  have h30 := hG.2.2.1
  refine V_aload_0 (pc := 0) dX6_feed_0 ?_
  refine V_iconst (pc := 1) dX6_feed_1 ?_
  refine V_puti (pc := 2) dX6_feed_2 gf_X6_74 (by omega) ?_
  have hT0 : TPE (setI σ 34 0 0 0) X.T X.n := ⟨(S34 (by decide)).trans hT.1, fun x hx => (setI_ne (by decide) 0 x).trans (hT.2 x hx)⟩
  have hn7 := hO.2.1.1
  refine V_aload_0 (pc := 5) dX6_feed_5 ?_
  refine V_geti (pc := 6) dX6_feed_6 gf_X6_91 (by omega) hT0.1 ?_
  refine V_bipush (pc := 9) dX6_feed_9 (by decide) ?_
  refine V_iadd (pc := 11) dX6_feed_11 ?_
  refine V_sipush (pc := 12) dX6_feed_12 (by decide) ?_
  refine V_icmp_le (pc := 15) 20 dX6_feed_15 (by decide) (by omega) (by omega) (fun c_15 => ?_) (fun c_15 => ?_)
  · refine V_aload_0 (pc := 20) dX6_feed_20 ?_
    refine V_iload_1 (pc := 21) dX6_feed_21 ?_
    refine V_callV1z (pc := 22) dX6_feed_22 kv_X6_94 rc_34 (by omega) (d - 1) (by omega) rfl (c_X6_four (by omega) hT0 (by omega) (by omega)) (fun σ_22 h_22 => ?_)
    refine V_aload_0 (pc := 25) dX6_feed_25 ?_
    refine V_iload_2 (pc := 26) dX6_feed_26 ?_
    refine V_callV1z (pc := 27) dX6_feed_27 kv_X6_94 rc_34 (by omega) (d - 1) (by omega) rfl (c_X6_four (by omega) h_22.1 (by omega) (by omega)) (fun σ_27 h_27 => ?_)
    refine V_aload_0 (pc := 30) dX6_feed_30 ?_
    refine V_iload_3 (pc := 31) dX6_feed_31 ?_
    refine V_callV1z (pc := 32) dX6_feed_32 kv_X6_94 rc_34 (by omega) (d - 1) (by omega) rfl (c_X6_four (by omega) h_27.1 (by omega) (by omega)) (fun σ_32 h_32 => ?_)
    refine V_aload_0 (pc := 35) dX6_feed_35 ?_
    refine V_iload_4 (pc := 36) dX6_feed_36 ?_
    refine V_callV1z (pc := 38) dX6_feed_38 kv_X6_94 rc_34 (by omega) (d - 1) (by omega) rfl (c_X6_four (by omega) h_32.1 (by omega) (by omega)) (fun σ_38 h_38 => ?_)
    refine V_aload_0 (pc := 41) dX6_feed_41 ?_
    refine V_iload_5 (pc := 42) dX6_feed_42 ?_
    refine V_callV1z (pc := 44) dX6_feed_44 kv_X6_94 rc_34 (by omega) (d - 1) (by omega) rfl (c_X6_four (by omega) h_38.1 (by omega) (by omega)) (fun σ_44 h_44 => ?_)
    refine V_aload_0 (pc := 47) dX6_feed_47 ?_
    refine V_geti (pc := 48) dX6_feed_48 gf_X6_91 (by omega) h_44.1.1 ?_
    refine V_iretI (pc := 51) dX6_feed_51 rfl ?_
    have hA := h_22.2.tr (h_27.2.tr (h_32.2.tr (h_38.2.tr h_44.2)))
    exact ⟨_, rfl, by unfold q_feed; rw [if_neg (by omega)]; omega, by unfold s_feed; rw [if_neg (by omega)]; exact ((KM.set (σ := σ) (t := 34) (k := 0) (z := 0) (v := 0) (by unfold SCM; omega)).mrl hX).tape hA h_44.1 (by omega), (KM.set (σ := σ) (t := 34) (k := 0) (z := 0) (v := 0) (by unfold SCM; omega)).fm.tr hA.fm⟩
  · refine V_iconst (pc := 18) dX6_feed_18 ?_
    refine V_iretI (pc := 19) dX6_feed_19 rfl ?_
    exact ⟨_, rfl, by unfold q_feed; rw [if_pos (by omega)], by unfold s_feed; rw [if_pos (by omega)]; exact (KM.set (σ := σ) (t := 34) (k := 0) (z := 0) (v := 0) (by unfold SCM; omega)).mrl hX, (KM.set (σ := σ) (t := 34) (k := 0) (z := 0) (v := 0) (by unfold SCM; omega)).fm⟩

set_option maxRecDepth 20000 in
set_option maxHeartbeats 1000000 in
theorem c_X6_end {d : Nat} (hd : 1 ≤ d) {σ : MM} {X : CST} {m : Int} (hX : MRl σ X) (hO : XOK X) (hm : IR m) : V yX6_end cX6_end 2 (some .int) d (QI (fun v σ' => v = q_end X m ∧ MRl σ' (s_end X m) ∧ FM σ σ')) 0 [some (vR 34 0), some (vI m)] [] σ := by
  have hM := hX.1
  have hG := hO.1
  have hW := hG.w
  have hs := hW.s
  have hF := hX.2.2.2.1
  have hT := hX.2.2.1
  have hI6 := hX.2.2.2.2
  have hZ := hX.2.1
  have h30 := hG.2.2.1
  refine V_aload_0 (pc := 0) dX6_end_0 ?_
  refine V_iconst (pc := 1) dX6_end_1 ?_
  refine V_puti (pc := 2) dX6_end_2 gf_X6_74 (by omega) ?_
  have hT0 : TPE (setI σ 34 0 0 0) X.T X.n := ⟨(S34 (by decide)).trans hT.1, fun x hx => (setI_ne (by decide) 0 x).trans (hT.2 x hx)⟩
  have hn7 := hO.2.1.1
  refine V_iload_1 (pc := 5) dX6_end_5 ?_
  refine V_i2l (pc := 6) dX6_end_6 (by omega) ?_
  refine V_lconst (pc := 7) dX6_end_7 (z := 0) rfl ?_
  refine V_aload_0 (pc := 8) dX6_end_8 ?_
  refine V_geti (pc := 9) dX6_end_9 gf_X6_91 (by omega) hT0.1 ?_
  refine V_i2l (pc := 12) dX6_end_12 (by omega) ?_
  refine V_callS3p (pc := 13) dX6_end_13 kv_X6_79 (d - 1) (by omega) rfl (c_X6_in (by omega) (by omega) (by omega) (by omega)) ?_
  refine V_if_ne_b (pc := 16) 21 dX6_end_16 (by decide) (fun c_16 => ?_) (fun c_16 => ?_)
  · refine V_aload_0 (pc := 21) dX6_end_21 ?_
    refine V_iload_1 (pc := 22) dX6_end_22 ?_
    refine V_puti (pc := 23) dX6_end_23 gf_X6_91 (by omega) ?_
    refine V_iload_1 (pc := 26) dX6_end_26 ?_
    refine V_iretI (pc := 27) dX6_end_27 rfl ?_
    exact ⟨_, rfl, by unfold q_end; rw [if_neg (by omega)], by
      unfold s_end; rw [if_neg (by omega)]
      exact ((KM.set (σ := σ) (t := 34) (k := 0) (z := 0) (v := 0) (by unfold SCM; omega)).mrl hX).tape (T := X.T) (n := m) (fun t k z a b => by have g : ¬ (t = 34 ∧ k = 0 ∧ z = 6) := (fun q => a ⟨q.1, q.2.2⟩); simp only [setI_at (setI σ 34 0 0 0), g, if_false]) ⟨setI_same _ _ _ _ _, fun x hx => by rw [setI_ne (by decide)]; exact hT0.2 x (by omega)⟩ rfl, (KM.set (σ := σ) (t := 34) (k := 0) (z := 0) (v := 0) (by unfold SCM; omega)).fm.tr (FM.set (by decide))⟩
  · refine V_iconst (pc := 19) dX6_end_19 ?_
    refine V_iretI (pc := 20) dX6_end_20 rfl ?_
    exact ⟨_, rfl, by unfold q_end; rw [if_pos (by omega)], by unfold s_end; rw [if_pos (by omega)]; exact (KM.set (σ := σ) (t := 34) (k := 0) (z := 0) (v := 0) (by unfold SCM; omega)).mrl hX, (KM.set (σ := σ) (t := 34) (k := 0) (z := 0) (v := 0) (by unfold SCM; omega)).fm⟩

set_option maxRecDepth 20000 in
set_option maxHeartbeats 1000000 in
theorem c_X6_fault {d : Nat} (hd : 0 ≤ d) {σ : MM} {X : CST} {w : Int} (hX : MRl σ X) (hO : XOK X) (hw : IR w) : V yX6_fault cX6_fault 2 (some .int) d (QI (fun v σ' => v = q_fault X w ∧ KM σ σ')) 0 [some (vR 34 0), some (vI w)] [] σ := by
  have hM := hX.1
  have hG := hO.1
  have hW := hG.w
  have hs := hW.s
  have hF := hX.2.2.2.1
  have hT := hX.2.2.1
  have hI6 := hX.2.2.2.2
  have hZ := hX.2.1
  have h30 := hG.2.2.1
  refine V_aload_0 (pc := 0) dX6_fault_0 ?_
  refine V_iconst (pc := 1) dX6_fault_1 ?_
  refine V_puti (pc := 2) dX6_fault_2 gf_X6_74 (by omega) ?_
  refine V_iload_1 (pc := 5) dX6_fault_5 ?_
  refine V_if_ne (pc := 6) 16 dX6_fault_6 (by decide) (by omega) (fun c_6 => ?_) (fun c_6 => ?_)
  · refine V_iload_1 (pc := 16) dX6_fault_16 ?_
    refine V_iconst (pc := 17) dX6_fault_17 ?_
    refine V_icmp_ne (pc := 18) 28 dX6_fault_18 (by decide) (by omega) (by omega) (fun c_18 => ?_) (fun c_18 => ?_)
    · refine V_iconst (pc := 28) dX6_fault_28 ?_
      refine V_iretI (pc := 29) dX6_fault_29 rfl ?_
      exact ⟨_, rfl, by unfold q_fault; (repeat' split) <;> first | rfl | omega, (KM.set (σ := σ) (t := 34) (k := 0) (z := 0) (v := 0) (by unfold SCM; omega))⟩
    · refine V_aload_0 (pc := 21) dX6_fault_21 ?_
      refine V_geti (pc := 22) dX6_fault_22 gf_X6_27 (by omega) ((S34 (by decide)).trans hF.2) ?_
      refine V_goto (pc := 25) 29 dX6_fault_25 (by decide) ?_
      refine V_iretI (pc := 29) dX6_fault_29 rfl ?_
      exact ⟨_, rfl, by unfold q_fault; (repeat' split) <;> first | rfl | omega, (KM.set (σ := σ) (t := 34) (k := 0) (z := 0) (v := 0) (by unfold SCM; omega))⟩
  · refine V_aload_0 (pc := 9) dX6_fault_9 ?_
    refine V_geti (pc := 10) dX6_fault_10 gf_X6_153 (by omega) ((S34 (by decide)).trans hF.1) ?_
    refine V_goto (pc := 13) 29 dX6_fault_13 (by decide) ?_
    refine V_iretI (pc := 29) dX6_fault_29 rfl ?_
    exact ⟨_, rfl, by unfold q_fault; (repeat' split) <;> first | rfl | omega, (KM.set (σ := σ) (t := 34) (k := 0) (z := 0) (v := 0) (by unfold SCM; omega))⟩

set_option maxRecDepth 20000 in
set_option maxHeartbeats 1000000 in
theorem c_X6_count {d : Nat} (hd : 1 ≤ d) {σ : MM} {X : CST} {w : Int} (hX : MRl σ X) (hO : XOK X) (hw : IR w) : V yX6_count cX6_count 4 (some .int) d (QI (fun v σ' => v = q_count X w ∧ KM σ σ')) 0 [some (vR 34 0), some (vI w), none, none] [] σ := by
  have hM := hX.1
  have hG := hO.1
  have hW := hG.w
  have hs := hW.s
  have hF := hX.2.2.2.1
  have hT := hX.2.2.1
  have hI6 := hX.2.2.2.2
  have hZ := hX.2.1
  have h30 := hG.2.2.1
  have loop : (w = 9) → ∀ i : Nat, i ≤ 4 → ∀ σi : MM, (KM σ σi) → V yX6_count cX6_count 4 (some .int) d (QI (fun v σ' => v = q_count X w ∧ KM σ σ')) 66 [some (vR 34 0), some (vI w), some (vI (sumN (fun k => X.Z 0 k 0) i)), some (vI (i : Int))] [] σi := by
    intro hR
    refine up_ind (P := fun i : Nat => ∀ σi : MM, (KM σ σi) → V yX6_count cX6_count 4 (some .int) d (QI (fun v σ' => v = q_count X w ∧ KM σ σ')) 66 [some (vR 34 0), some (vI w), some (vI (sumN (fun k => X.Z 0 k 0) i)), some (vI (i : Int))] [] σi) ?_ ?_
    · intro σi hI
      refine V_iload_3 (pc := 66) dX6_count_66 ?_
      refine V_iconst (pc := 67) dX6_count_67 ?_
      refine V_icmp_ge (pc := 68) 95 dX6_count_68 (by decide) (by omega) (by omega) (fun c_68 => ?_) (fun c_68 => ?_)
      · refine V_iload_2 (pc := 95) dX6_count_95 ?_
        refine V_iretI (pc := 96) dX6_count_96 rfl ?_
        exact ⟨_, rfl, by unfold q_count; rw [if_neg (by omega), if_neg (by omega), if_neg (by omega), if_neg (by omega), if_neg (by omega), if_neg (by omega), if_neg (by omega), if_neg (by omega), if_neg (by omega), if_pos (by omega)]; rfl, hI⟩
      · exact absurd c_68 (by omega)
    · intro i hi ih σi hI
      have hZ9 := (hI.mz hZ).w (k := (i : Int)) (by omega)
      have hS_ := sumN_i (fun k => X.Z 0 k 0) i
      refine V_iload_3 (pc := 66) dX6_count_66 ?_
      refine V_iconst (pc := 67) dX6_count_67 ?_
      refine V_icmp_ge (pc := 68) 95 dX6_count_68 (by decide) (by omega) (by omega) (fun c_68 => ?_) (fun c_68 => ?_)
      · exact absurd c_68 (by omega)
      · refine V_iload_2 (pc := 71) dX6_count_71 ?_
        refine V_aload_0 (pc := 72) dX6_count_72 ?_
        refine V_getc (pc := 73) dX6_count_73 gf_X6_7 (by omega) ?_
        refine V_iload_3 (pc := 76) dX6_count_76 ?_
        refine V_iald (pc := 77) dX6_count_77 sh_35 (by omega) (by omega) hZ9.1 ?_
        refine V_iconst (pc := 78) dX6_count_78 ?_
        refine V_icmp_ne (pc := 79) 86 dX6_count_79 (by decide) (by omega) (by omega) (fun c_79 => ?_) (fun c_79 => ?_)
        · refine V_iconst (pc := 86) dX6_count_86 ?_
          refine V_iadd (pc := 87) dX6_count_87 ?_
          refine V_istore_2 (pc := 88) dX6_count_88 ?_
          refine V_iinc_3 (pc := 89) dX6_count_89 ?_
          refine V_goto (pc := 92) 66 dX6_count_92 (by decide) ?_
          refine V.sub (by simp only [subL, Option.some.injEq, Sum.inl.injEq, Sum.inr.injEq, reduceCtorEq, true_or, or_true, false_or, true_and, and_true]; rw [hS_]; refine ⟨by omega, by omega⟩) (ih _ hI)
        · refine V_iconst (pc := 82) dX6_count_82 ?_
          refine V_goto (pc := 83) 87 dX6_count_83 (by decide) ?_
          refine V_iadd (pc := 87) dX6_count_87 ?_
          refine V_istore_2 (pc := 88) dX6_count_88 ?_
          refine V_iinc_3 (pc := 89) dX6_count_89 ?_
          refine V_goto (pc := 92) 66 dX6_count_92 (by decide) ?_
          refine V.sub (by simp only [subL, Option.some.injEq, Sum.inl.injEq, Sum.inr.injEq, reduceCtorEq, true_or, or_true, false_or, true_and, and_true]; rw [hS_]; refine ⟨by omega, by omega⟩) (ih _ hI)
  refine V_aload_0 (pc := 0) dX6_count_0 ?_
  refine V_iconst (pc := 1) dX6_count_1 ?_
  refine V_puti (pc := 2) dX6_count_2 gf_X6_74 (by omega) ?_
  have hM := (KM.set (σ := σ) (t := 34) (k := 0) (z := 0) (v := 0) (by unfold SCM; omega)).mb hM
  refine V_iload_1 (pc := 5) dX6_count_5 ?_
  refine V_i2l (pc := 6) dX6_count_6 (by omega) ?_
  refine V_lconst (pc := 7) dX6_count_7 (z := 0) rfl ?_
  refine V_ldc2 (pc := 8) dX6_count_8 (z := 6) ldc_X6_455 ?_
  refine V_callS3p (pc := 11) dX6_count_11 kv_X6_79 (d - 1) (by omega) rfl (c_X6_in (by omega) (by omega) (by omega) (by omega)) ?_
  refine V_if_eq_b (pc := 14) 24 dX6_count_14 (by decide) (fun c_14 => ?_) (fun c_14 => ?_)
  · refine V_iconst (pc := 24) dX6_count_24 ?_
    refine V_istore_2 (pc := 25) dX6_count_25 ?_
    refine V_iload_1 (pc := 26) dX6_count_26 ?_
    rcases (show w = 7 ∨ w = 8 ∨ w = 9 ∨ (w < 7 ∨ 9 < w) by omega) with c_27 | c_27 | c_27 | c_27
    · refine V_tsw_in (pc := 27) (off := 25) 52 dX6_count_27 (by decide) (by omega) (by omega) (by rw [c_27]; rfl) ?_
      refine V_aload_0 (pc := 52) dX6_count_52 ?_
      refine V_getc (pc := 53) dX6_count_53 gf_X6_31 (by omega) ?_
      refine V_iconst (pc := 56) dX6_count_56 ?_
      refine V_iald (pc := 57) dX6_count_57 sh_40 (by omega) (by omega) hM.l ?_
      refine V_iretI (pc := 58) dX6_count_58 rfl ?_
      exact ⟨_, rfl, by unfold q_count; (repeat' split) <;> first | rfl | omega, (KM.set (σ := σ) (t := 34) (k := 0) (z := 0) (v := 0) (by unfold SCM; omega))⟩
    · refine V_tsw_in (pc := 27) (off := 32) 59 dX6_count_27 (by decide) (by omega) (by omega) (by rw [c_27]; rfl) ?_
      refine V_aload_0 (pc := 59) dX6_count_59 ?_
      refine V_geti (pc := 60) dX6_count_60 gf_X6_91 (by omega) ((S34 (by decide)).trans hT.1) ?_
      refine V_iretI (pc := 63) dX6_count_63 rfl ?_
      exact ⟨_, rfl, by unfold q_count; (repeat' split) <;> first | rfl | omega, (KM.set (σ := σ) (t := 34) (k := 0) (z := 0) (v := 0) (by unfold SCM; omega))⟩
    · refine V_tsw_in (pc := 27) (off := 37) 64 dX6_count_27 (by decide) (by omega) (by omega) (by rw [c_27]; rfl) ?_
      refine V_iconst (pc := 64) dX6_count_64 ?_
      refine V_istore_3 (pc := 65) dX6_count_65 ?_
      exact loop (by omega) 0 (by omega) _ (KM.set (σ := σ) (t := 34) (k := 0) (z := 0) (v := 0) (by unfold SCM; omega))
    · refine V_tsw_out (pc := 27) 97 dX6_count_27 (by decide) (by omega) c_27 ?_
      refine V_iconst (pc := 97) dX6_count_97 ?_
      refine V_iretI (pc := 98) dX6_count_98 rfl ?_
      exact ⟨_, rfl, by unfold q_count; (repeat' split) <;> first | rfl | omega, (KM.set (σ := σ) (t := 34) (k := 0) (z := 0) (v := 0) (by unfold SCM; omega))⟩
  · refine V_aload_0 (pc := 17) dX6_count_17 ?_
    refine V_getc (pc := 18) dX6_count_18 gf_X6_34 (by omega) ?_
    refine V_iload_1 (pc := 21) dX6_count_21 ?_
    refine V_iald (pc := 22) dX6_count_22 sh_41 (by omega) (by omega) (v := if w = 0 then X.B 1 0 else if w = 1 then X.B 2 0 else if w = 2 then X.B 3 0 else if w = 3 then X.B 4 0 else if w = 4 then X.B 5 0 else if w = 5 then X.B 6 0 else X.B 17 0) (by
    have hw7 : w = 0 ∨ w = 1 ∨ w = 2 ∨ w = 3 ∨ w = 4 ∨ w = 5 ∨ w = 6 := by omega
    rcases hw7 with rfl | rfl | rfl | rfl | rfl | rfl | rfl
    · exact hM.h0
    · exact hM.h1
    · exact hM.h2
    · exact hM.h3
    · exact hM.h4
    · exact hM.h5
    · exact hM.h6) ?_
    refine V_iretI (pc := 23) dX6_count_23 rfl ?_
    exact ⟨_, rfl, by unfold q_count; (repeat' split) <;> first | rfl | omega, (KM.set (σ := σ) (t := 34) (k := 0) (z := 0) (v := 0) (by unfold SCM; omega))⟩
