/-! THE REFERENCE reads -/
/-- letters as a number, and digits -/
def WC (T : Int → Int) (s : Int) : Nat → Int
  | 0 => 0
  | k + 1 => if 11 < k then -1 else 27 * WC T s k + T (s + k) - 96
def VC (T : Int → Int) (s : Int) : Nat → Int
  | 0 => 0
  | k + 1 => if 100000 < VC T s k then 1000000 else 10 * VC T s k + T (s + k) - 48
def TKM (σ : MM) (T : Int → Int) (n i : Int) : Prop := σ 34 0 7 = TE T n i ∧ σ 34 0 8 = TK T n i ∧ σ 34 0 9 = TS T n i ∧ (TK T n i = 1 → σ 34 0 11 = WC T (TS T n i) (TE T n i - TS T n i).toNat) ∧ (TK T n i = 2 → σ 34 0 10 = VC T (TS T n i) (TE T n i - TS T n i).toNat)
def OffN (σ σ' : MM) : Prop := ∀ (t : Nat) (k z : Int), ¬ (t = 34 ∧ 7 ≤ z ∧ z ≤ 11) → σ' t k z = σ t k z
theorem OffN.rf {σ : MM} : OffN σ σ := fun _ _ _ _ => rfl
theorem OffN.tr {σ σ1 σ2 : MM} (h : OffN σ σ1) (h2 : OffN σ1 σ2) : OffN σ σ2 := fun t k z a => (h2 t k z a).trans (h t k z a)
theorem OffN.set {σ : MM} {z v : Int} (h : 7 ≤ z ∧ z ≤ 11) : OffN σ (setI σ 34 0 z v) := fun t' k' z' a => by
  have : ¬ (t' = 34 ∧ k' = 0 ∧ z' = z) := fun q => a ⟨q.1, by omega, by omega⟩
  simp only [setI, this, if_false]
theorem OffN.tpe {σ σ' : MM} {T : Int → Int} {n : Int} (h : OffN σ σ') (hT : TPE σ T n) : TPE σ' T n := ⟨(h 34 0 6 (by omega)).trans hT.1, fun x hx => (h 39 0 x (by omega)).trans (hT.2 x hx)⟩
theorem VC_in {T : Int → Int} {s : Int} : ∀ {k : Nat}, (∀ x : Int, s ≤ x ∧ x < s + k → DIG T x) → 0 ≤ VC T s k ∧ VC T s k ≤ 1000009
  | 0, _ => by rw [VC]; omega
  | k + 1, h => by
    have ih := VC_in (T := T) (s := s) (k := k) (fun x hx => h x (by omega))
    have := h (s + k) (by omega)
    rw [VC]
    split <;> omega
theorem ADV_to {p : Int → Prop} [DecidablePred p] {n : Int} : ∀ (k : Nat) (s : Int), s + k ≤ n → (∀ x : Int, s ≤ x ∧ x < s + k → p x) → ADV p n (s + k) = ADV p n s
  | 0, s, _, _ => by rw [show s + ((0 : Nat) : Int) = s by omega]
  | k + 1, s, hs, h => by
    rw [ADV_yes (i := s) (by omega) (h s (by omega))]
    have := ADV_to (p := p) (n := n) k (s + 1) (by omega) (fun x hx => h x (by omega))
    rw [show s + 1 + (k : Int) = s + ((k + 1 : Nat) : Int) by omega] at this
    exact this

set_option maxRecDepth 20000 in
set_option maxHeartbeats 1000000 in
theorem c_X6_isByte {d : Nat} (hd : 0 ≤ d) {σ : MM} {T : Int → Int} {n : Int} {x lo hi : Int} (hT : TPE σ T n) (hn : 0 ≤ n ∧ n ≤ 700) (hTr : ∀ x : Int, 0 ≤ x ∧ x < n → -128 ≤ T x ∧ T x ≤ 127) (hx : 0 ≤ x ∧ x ≤ n) (hlo : IR lo) (hhi : IR hi) : V yX6_isByte cX6_isByte 4 (some .boolean) d (QI (fun v σ' => v = bI (x < n ∧ lo ≤ T x ∧ T x ≤ hi) ∧ σ' = σ)) 0 [some (vR 34 0), some (vI x), some (vI lo), some (vI hi)] [] σ := by
  have ht9 := fun q : x < n => hTr x ⟨hx.1, q⟩
  refine V_iload_1 (pc := 0) dX6_isByte_0 ?_
  refine V_aload_0 (pc := 1) dX6_isByte_1 ?_
  refine V_geti (pc := 2) dX6_isByte_2 gf_X6_91 (by omega) hT.1 ?_
  refine V_icmp_ge (pc := 5) 32 dX6_isByte_5 (by decide) (by omega) (by omega) (fun c_5 => ?_) (fun c_5 => ?_)
  · refine V_iconst (pc := 32) dX6_isByte_32 ?_
    refine V_iretZ (pc := 33) dX6_isByte_33 rfl (by first | omega | exact bI_01 _) ?_
    exact ⟨_, rfl, by first | exact bI_cong (by omega) | exact (bI_t (by omega)).symm | exact (bI_f (by omega)).symm | rfl, rfl⟩
  · refine V_aload_0 (pc := 8) dX6_isByte_8 ?_
    refine V_getc (pc := 9) dX6_isByte_9 gf_X6_23 (by omega) ?_
    refine V_iload_1 (pc := 12) dX6_isByte_12 ?_
    refine V_bald (pc := 13) dX6_isByte_13 sh_39 (by omega) (by omega) (hT.2 x (by omega)) ?_
    refine V_iload_2 (pc := 14) dX6_isByte_14 ?_
    refine V_icmp_lt (pc := 15) 32 dX6_isByte_15 (by decide) (by omega) (by omega) (fun c_15 => ?_) (fun c_15 => ?_)
    · refine V_iconst (pc := 32) dX6_isByte_32 ?_
      refine V_iretZ (pc := 33) dX6_isByte_33 rfl (by first | omega | exact bI_01 _) ?_
      exact ⟨_, rfl, by first | exact bI_cong (by omega) | exact (bI_t (by omega)).symm | exact (bI_f (by omega)).symm | rfl, rfl⟩
    · refine V_aload_0 (pc := 18) dX6_isByte_18 ?_
      refine V_getc (pc := 19) dX6_isByte_19 gf_X6_23 (by omega) ?_
      refine V_iload_1 (pc := 22) dX6_isByte_22 ?_
      refine V_bald (pc := 23) dX6_isByte_23 sh_39 (by omega) (by omega) (hT.2 x (by omega)) ?_
      refine V_iload_3 (pc := 24) dX6_isByte_24 ?_
      refine V_icmp_gt (pc := 25) 32 dX6_isByte_25 (by decide) (by omega) (by omega) (fun c_25 => ?_) (fun c_25 => ?_)
      · refine V_iconst (pc := 32) dX6_isByte_32 ?_
        refine V_iretZ (pc := 33) dX6_isByte_33 rfl (by first | omega | exact bI_01 _) ?_
        exact ⟨_, rfl, by first | exact bI_cong (by omega) | exact (bI_t (by omega)).symm | exact (bI_f (by omega)).symm | rfl, rfl⟩
      · refine V_iconst (pc := 28) dX6_isByte_28 ?_
        refine V_goto (pc := 29) 33 dX6_isByte_29 (by decide) ?_
        refine V_iretZ (pc := 33) dX6_isByte_33 rfl (by first | omega | exact bI_01 _) ?_
        exact ⟨_, rfl, by first | exact bI_cong (by omega) | exact (bI_t (by omega)).symm | exact (bI_f (by omega)).symm | rfl, rfl⟩

set_option maxRecDepth 20000 in
set_option maxHeartbeats 1000000 in
theorem next_W {d : Nat} (hd : 1 ≤ d) {σ : MM} {T : Int → Int} {n i s : Int} (hT : TPE σ T n) (hn : 0 ≤ n ∧ n ≤ 700) (hTr : ∀ x : Int, 0 ≤ x ∧ x < n → -128 ≤ T x ∧ T x ≤ 127) (hi : 0 ≤ i ∧ i ≤ n) (hsd : TS T n i = s) (hk : TK T n i = 1) : ∀ (m k : Nat) (σi : MM), n - s - k = m → s + k ≤ n → (∀ x : Int, s ≤ x ∧ x < s + k → LET T x) → OffN σ σi → σi 34 0 7 = s + k → σi 34 0 8 = 1 → σi 34 0 9 = s → σi 34 0 11 = WC T s k → V yX6_next cX6_next 2 none d (QZ (fun σ' => TKM σ' T n i ∧ OffN σ σ')) 102 [some (vR 34 0), some (vI (k : Int))] [] σi := by
  have hsi := TS_in (T := T) hi
  rw [hsd] at hsi
  intro m
  induction m with
  | zero =>
    intro k σi hm hkn hall hOi h7 h8 h9 h11
    refine V_aload_0 (pc := 102) dX6_next_102 ?_
    refine V_aload_0 (pc := 103) dX6_next_103 ?_
    refine V_geti (pc := 104) dX6_next_104 gf_X6_98 (by omega) (v := s + (k : Int)) (by first | exact h7 | (rw [S34 (by decide)]; exact h7) | (rw [S34 (by decide), S34 (by decide)]; exact h7)) ?_
    refine V_bipush (pc := 107) dX6_next_107 (by decide) ?_
    refine V_bipush (pc := 109) dX6_next_109 (by decide) ?_
    refine V_callV3p (pc := 111) dX6_next_111 kv_X6_101 rc_34 (by omega) (d - 1) (by omega) rfl (c_X6_isByte (by omega) (hOi.tpe hT) hn hTr (by omega) (by omega) (by omega)) ?_
    refine V_if_eq_b (pc := 114) 185 dX6_next_114 (by decide) (fun c_114 => ?_) (fun c_114 => ?_)
    · refine V_goto (pc := 185) 307 dX6_next_185 (by decide) ?_
      refine V_vret (pc := 307) dX6_next_307 rfl ?_
      have hte : TE T n i = s + k := by
        rw [TE_1 hk, hsd, ← ADV_to k s hkn hall]
        first | exact ADV_ge (by omega) | exact ADV_no (fun q => by unfold LET at q; omega)
      exact ⟨rfl, ⟨by rw [hte]; exact h7, by rw [hk]; exact h8, by rw [hsd]; exact h9, fun _ => by rw [hte, hsd, show (s + (k : Int) - s).toNat = k by omega]; exact h11, fun q => absurd (hk.symm.trans q) (by decide)⟩, hOi⟩
    · exact absurd c_114 (by omega)
  | succ m ih =>
    intro k σi hm hkn hall hOi h7 h8 h9 h11
    have ht9 := hTr (s + k) (by omega)
    refine V_aload_0 (pc := 102) dX6_next_102 ?_
    refine V_aload_0 (pc := 103) dX6_next_103 ?_
    refine V_geti (pc := 104) dX6_next_104 gf_X6_98 (by omega) (v := s + (k : Int)) (by first | exact h7 | (rw [S34 (by decide)]; exact h7) | (rw [S34 (by decide), S34 (by decide)]; exact h7)) ?_
    refine V_bipush (pc := 107) dX6_next_107 (by decide) ?_
    refine V_bipush (pc := 109) dX6_next_109 (by decide) ?_
    refine V_callV3p (pc := 111) dX6_next_111 kv_X6_101 rc_34 (by omega) (d - 1) (by omega) rfl (c_X6_isByte (by omega) (hOi.tpe hT) hn hTr (by omega) (by omega) (by omega)) ?_
    refine V_if_eq_b (pc := 114) 185 dX6_next_114 (by decide) (fun c_114 => ?_) (fun c_114 => ?_)
    · refine V_goto (pc := 185) 307 dX6_next_185 (by decide) ?_
      refine V_vret (pc := 307) dX6_next_307 rfl ?_
      have hte : TE T n i = s + k := by
        rw [TE_1 hk, hsd, ← ADV_to k s hkn hall]
        first | exact ADV_ge (by omega) | exact ADV_no (fun q => by unfold LET at q; omega)
      exact ⟨rfl, ⟨by rw [hte]; exact h7, by rw [hk]; exact h8, by rw [hsd]; exact h9, fun _ => by rw [hte, hsd, show (s + (k : Int) - s).toNat = k by omega]; exact h11, fun q => absurd (hk.symm.trans q) (by decide)⟩, hOi⟩
    · refine V_aload_0 (pc := 117) dX6_next_117 ?_
      refine V_iload_1 (pc := 118) dX6_next_118 ?_
      refine V_bipush (pc := 119) dX6_next_119 (by decide) ?_
      refine V_icmp_le (pc := 121) 130 dX6_next_121 (by decide) (by omega) (by omega) (fun c_121 => ?_) (fun c_121 => ?_)
      · refine V_ldc2 (pc := 130) dX6_next_130 (z := 27) ldc_X6_120 ?_
        refine V_aload_0 (pc := 133) dX6_next_133 ?_
        refine V_getj (pc := 134) dX6_next_134 gf_X6_111 (by omega) h11 ?_
        refine V_lmul (pc := 137) dX6_next_137 ?_
        refine V_aload_0 (pc := 138) dX6_next_138 ?_
        refine V_getc (pc := 139) dX6_next_139 gf_X6_23 (by omega) ?_
        refine V_aload_0 (pc := 142) dX6_next_142 ?_
        refine V_geti (pc := 143) dX6_next_143 gf_X6_98 (by omega) (v := s + (k : Int)) (by first | exact h7 | (rw [S34 (by decide)]; exact h7) | (rw [S34 (by decide), S34 (by decide)]; exact h7)) ?_
        refine V_bald (pc := 146) dX6_next_146 sh_39 (by omega) (by omega) ((hOi.tpe hT).2 (s + (k : Int)) (by omega)) ?_
        refine V_i2l (pc := 147) dX6_next_147 (by omega) ?_
        refine V_ladd (pc := 148) dX6_next_148 ?_
        refine V_ldc2 (pc := 149) dX6_next_149 (z := 96) ldc_X6_122 ?_
        refine V_lsub (pc := 152) dX6_next_152 ?_
        refine V_putj (pc := 153) dX6_next_153 gf_X6_111 (by omega) ?_
        refine V_iload_1 (pc := 156) dX6_next_156 ?_
        refine V_bipush (pc := 157) dX6_next_157 (by decide) ?_
        refine V_icmp_le (pc := 159) 169 dX6_next_159 (by decide) (by omega) (by omega) (fun c_159 => ?_) (fun c_159 => ?_)
        · refine V_aload_0 (pc := 169) dX6_next_169 ?_
          refine V_dup (pc := 170) dX6_next_170 rfl ?_
          refine V_geti (pc := 171) dX6_next_171 gf_X6_98 (by omega) (v := s + (k : Int)) (by first | exact h7 | (rw [S34 (by decide)]; exact h7) | (rw [S34 (by decide), S34 (by decide)]; exact h7)) ?_
          refine V_iconst (pc := 174) dX6_next_174 ?_
          refine V_iadd (pc := 175) dX6_next_175 ?_
          refine V_puti (pc := 176) dX6_next_176 gf_X6_98 (by omega) ?_
          refine V_iinc_1 (pc := 179) dX6_next_179 ?_
          refine V_goto (pc := 182) 102 dX6_next_182 (by decide) ?_
          refine V.sub (by simp only [subL, Option.some.injEq, Sum.inl.injEq, Sum.inr.injEq, reduceCtorEq, true_or, or_true, false_or, true_and, and_true]; omega) (ih (k + 1) _ (by omega) (by omega) (fun x hx => ?_) (hOi.tr ((OffN.set (by omega)).tr (OffN.set (by omega)))) ?_ ?_ ?_ ?_)
          · by_cases q : x = s + k
            · subst q; unfold LET; omega
            · exact hall x (by omega)
          · rw [setI_same]; omega
          · rw [S34 (by decide), S34 (by decide)]; exact h8
          · rw [S34 (by decide), S34 (by decide)]; exact h9
          · rw [S34 (by decide), setI_same, WC]; rw [if_neg (by omega)]
        · refine V_aload_0 (pc := 162) dX6_next_162 ?_
          refine V_ldc2 (pc := 163) dX6_next_163 (z := -1) ldc_X6_118 ?_
          refine V_putj (pc := 166) dX6_next_166 gf_X6_111 (by omega) ?_
          refine V_aload_0 (pc := 169) dX6_next_169 ?_
          refine V_dup (pc := 170) dX6_next_170 rfl ?_
          refine V_geti (pc := 171) dX6_next_171 gf_X6_98 (by omega) (v := s + (k : Int)) (by first | exact h7 | (rw [S34 (by decide)]; exact h7) | (rw [S34 (by decide), S34 (by decide)]; exact h7)) ?_
          refine V_iconst (pc := 174) dX6_next_174 ?_
          refine V_iadd (pc := 175) dX6_next_175 ?_
          refine V_puti (pc := 176) dX6_next_176 gf_X6_98 (by omega) ?_
          refine V_iinc_1 (pc := 179) dX6_next_179 ?_
          refine V_goto (pc := 182) 102 dX6_next_182 (by decide) ?_
          exfalso; omega
      · refine V_ldc2 (pc := 124) dX6_next_124 (z := -1) ldc_X6_118 ?_
        refine V_goto (pc := 127) 153 dX6_next_127 (by decide) ?_
        refine V_putj (pc := 153) dX6_next_153 gf_X6_111 (by omega) ?_
        refine V_iload_1 (pc := 156) dX6_next_156 ?_
        refine V_bipush (pc := 157) dX6_next_157 (by decide) ?_
        refine V_icmp_le (pc := 159) 169 dX6_next_159 (by decide) (by omega) (by omega) (fun c_159 => ?_) (fun c_159 => ?_)
        · refine V_aload_0 (pc := 169) dX6_next_169 ?_
          refine V_dup (pc := 170) dX6_next_170 rfl ?_
          refine V_geti (pc := 171) dX6_next_171 gf_X6_98 (by omega) (v := s + (k : Int)) (by first | exact h7 | (rw [S34 (by decide)]; exact h7) | (rw [S34 (by decide), S34 (by decide)]; exact h7)) ?_
          refine V_iconst (pc := 174) dX6_next_174 ?_
          refine V_iadd (pc := 175) dX6_next_175 ?_
          refine V_puti (pc := 176) dX6_next_176 gf_X6_98 (by omega) ?_
          refine V_iinc_1 (pc := 179) dX6_next_179 ?_
          refine V_goto (pc := 182) 102 dX6_next_182 (by decide) ?_
          exfalso; omega
        · refine V_aload_0 (pc := 162) dX6_next_162 ?_
          refine V_ldc2 (pc := 163) dX6_next_163 (z := -1) ldc_X6_118 ?_
          refine V_putj (pc := 166) dX6_next_166 gf_X6_111 (by omega) ?_
          refine V_aload_0 (pc := 169) dX6_next_169 ?_
          refine V_dup (pc := 170) dX6_next_170 rfl ?_
          refine V_geti (pc := 171) dX6_next_171 gf_X6_98 (by omega) (v := s + (k : Int)) (by first | exact h7 | (rw [S34 (by decide)]; exact h7) | (rw [S34 (by decide), S34 (by decide)]; exact h7)) ?_
          refine V_iconst (pc := 174) dX6_next_174 ?_
          refine V_iadd (pc := 175) dX6_next_175 ?_
          refine V_puti (pc := 176) dX6_next_176 gf_X6_98 (by omega) ?_
          refine V_iinc_1 (pc := 179) dX6_next_179 ?_
          refine V_goto (pc := 182) 102 dX6_next_182 (by decide) ?_
          refine V.sub (by simp only [subL, Option.some.injEq, Sum.inl.injEq, Sum.inr.injEq, reduceCtorEq, true_or, or_true, false_or, true_and, and_true]; omega) (ih (k + 1) _ (by omega) (by omega) (fun x hx => ?_) (hOi.tr ((OffN.set (by omega)).tr ((OffN.set (by omega)).tr (OffN.set (by omega))))) ?_ ?_ ?_ ?_)
          · by_cases q : x = s + k
            · subst q; unfold LET; omega
            · exact hall x (by omega)
          · rw [setI_same]; omega
          · rw [S34 (by decide), S34 (by decide), S34 (by decide)]; exact h8
          · rw [S34 (by decide), S34 (by decide), S34 (by decide)]; exact h9
          · rw [S34 (by decide), setI_same, WC]; rw [if_pos (by omega)]

set_option maxRecDepth 20000 in
set_option maxHeartbeats 1000000 in
theorem next_V {d : Nat} (hd : 1 ≤ d) {σ : MM} {T : Int → Int} {n i s : Int} (hT : TPE σ T n) (hn : 0 ≤ n ∧ n ≤ 700) (hTr : ∀ x : Int, 0 ≤ x ∧ x < n → -128 ≤ T x ∧ T x ≤ 127) (hi : 0 ≤ i ∧ i ≤ n) (hsd : TS T n i = s) (hk : TK T n i = 2) : ∀ (m k : Nat) (σi : MM), n - s - k = m → s + k ≤ n → (∀ x : Int, s ≤ x ∧ x < s + k → DIG T x) → OffN σ σi → σi 34 0 7 = s + k → σi 34 0 8 = 2 → σi 34 0 9 = s → σi 34 0 10 = VC T s k → V yX6_next cX6_next 2 none d (QZ (fun σ' => TKM σ' T n i ∧ OffN σ σ')) 208 [some (vR 34 0), none] [] σi := by
  have hsi := TS_in (T := T) hi
  rw [hsd] at hsi
  intro m
  induction m with
  | zero =>
    intro k σi hm hkn hall hOi h7 h8 h9 h10
    have hvc := VC_in hall
    refine V_aload_0 (pc := 208) dX6_next_208 ?_
    refine V_aload_0 (pc := 209) dX6_next_209 ?_
    refine V_geti (pc := 210) dX6_next_210 gf_X6_98 (by omega) (v := s + (k : Int)) (by first | exact h7 | (rw [S34 (by decide)]; exact h7)) ?_
    refine V_bipush (pc := 213) dX6_next_213 (by decide) ?_
    refine V_bipush (pc := 215) dX6_next_215 (by decide) ?_
    refine V_callV3p (pc := 217) dX6_next_217 kv_X6_101 rc_34 (by omega) (d - 1) (by omega) rfl (c_X6_isByte (by omega) (hOi.tpe hT) hn hTr (by omega) (by omega) (by omega)) ?_
    refine V_if_eq_b (pc := 220) 307 dX6_next_220 (by decide) (fun c_220 => ?_) (fun c_220 => ?_)
    · refine V_vret (pc := 307) dX6_next_307 rfl ?_
      have hte : TE T n i = s + k := by
        rw [TE_2 hk, hsd, ← ADV_to k s hkn hall]
        first | exact ADV_ge (by omega) | exact ADV_no (fun q => by unfold DIG at q; omega)
      exact ⟨rfl, ⟨by rw [hte]; exact h7, by rw [hk]; exact h8, by rw [hsd]; exact h9, fun q => absurd (hk.symm.trans q) (by decide), fun _ => by rw [hte, hsd, show (s + (k : Int) - s).toNat = k by omega]; exact h10⟩, hOi⟩
    · exact absurd c_220 (by omega)
  | succ m ih =>
    intro k σi hm hkn hall hOi h7 h8 h9 h10
    have ht9 := hTr (s + k) (by omega)
    have hvc := VC_in hall
    refine V_aload_0 (pc := 208) dX6_next_208 ?_
    refine V_aload_0 (pc := 209) dX6_next_209 ?_
    refine V_geti (pc := 210) dX6_next_210 gf_X6_98 (by omega) (v := s + (k : Int)) (by first | exact h7 | (rw [S34 (by decide)]; exact h7)) ?_
    refine V_bipush (pc := 213) dX6_next_213 (by decide) ?_
    refine V_bipush (pc := 215) dX6_next_215 (by decide) ?_
    refine V_callV3p (pc := 217) dX6_next_217 kv_X6_101 rc_34 (by omega) (d - 1) (by omega) rfl (c_X6_isByte (by omega) (hOi.tpe hT) hn hTr (by omega) (by omega) (by omega)) ?_
    refine V_if_eq_b (pc := 220) 307 dX6_next_220 (by decide) (fun c_220 => ?_) (fun c_220 => ?_)
    · refine V_vret (pc := 307) dX6_next_307 rfl ?_
      have hte : TE T n i = s + k := by
        rw [TE_2 hk, hsd, ← ADV_to k s hkn hall]
        first | exact ADV_ge (by omega) | exact ADV_no (fun q => by unfold DIG at q; omega)
      exact ⟨rfl, ⟨by rw [hte]; exact h7, by rw [hk]; exact h8, by rw [hsd]; exact h9, fun q => absurd (hk.symm.trans q) (by decide), fun _ => by rw [hte, hsd, show (s + (k : Int) - s).toNat = k by omega]; exact h10⟩, hOi⟩
    · refine V_aload_0 (pc := 223) dX6_next_223 ?_
      refine V_aload_0 (pc := 224) dX6_next_224 ?_
      refine V_geti (pc := 225) dX6_next_225 gf_X6_108 (by omega) h10 ?_
      refine V_ldc (pc := 228) dX6_next_228 (z := 100000) ldc_X6_124 ?_
      refine V_icmp_le (pc := 230) 238 dX6_next_230 (by decide) (by omega) (by omega) (fun c_230 => ?_) (fun c_230 => ?_)
      · refine V_bipush (pc := 238) dX6_next_238 (by decide) ?_
        refine V_aload_0 (pc := 240) dX6_next_240 ?_
        refine V_geti (pc := 241) dX6_next_241 gf_X6_108 (by omega) h10 ?_
        refine V_imul (pc := 244) dX6_next_244 ?_
        refine V_aload_0 (pc := 245) dX6_next_245 ?_
        refine V_getc (pc := 246) dX6_next_246 gf_X6_23 (by omega) ?_
        refine V_aload_0 (pc := 249) dX6_next_249 ?_
        refine V_geti (pc := 250) dX6_next_250 gf_X6_98 (by omega) (v := s + (k : Int)) (by first | exact h7 | (rw [S34 (by decide)]; exact h7)) ?_
        refine V_bald (pc := 253) dX6_next_253 sh_39 (by omega) (by omega) ((hOi.tpe hT).2 (s + (k : Int)) (by omega)) ?_
        refine V_iadd (pc := 254) dX6_next_254 ?_
        refine V_bipush (pc := 255) dX6_next_255 (by decide) ?_
        refine V_isub (pc := 257) dX6_next_257 ?_
        refine V_puti (pc := 258) dX6_next_258 gf_X6_108 (by omega) ?_
        refine V_aload_0 (pc := 261) dX6_next_261 ?_
        refine V_dup (pc := 262) dX6_next_262 rfl ?_
        refine V_geti (pc := 263) dX6_next_263 gf_X6_98 (by omega) (v := s + (k : Int)) (by first | exact h7 | (rw [S34 (by decide)]; exact h7)) ?_
        refine V_iconst (pc := 266) dX6_next_266 ?_
        refine V_iadd (pc := 267) dX6_next_267 ?_
        refine V_puti (pc := 268) dX6_next_268 gf_X6_98 (by omega) ?_
        refine V_goto (pc := 271) 208 dX6_next_271 (by decide) ?_
        refine V.sub (by simp only [subL, Option.some.injEq, Sum.inl.injEq, Sum.inr.injEq, reduceCtorEq, true_or, or_true, false_or, true_and, and_true]) (ih (k + 1) _ (by omega) (by omega) (fun x hx => ?_) (hOi.tr ((OffN.set (by omega)).tr (OffN.set (by omega)))) ?_ ?_ ?_ ?_)
        · by_cases q : x = s + k
          · subst q; unfold DIG; omega
          · exact hall x (by omega)
        · rw [setI_same]; omega
        · rw [S34 (by decide), S34 (by decide)]; exact h8
        · rw [S34 (by decide), S34 (by decide)]; exact h9
        · rw [S34 (by decide), setI_same, VC]; first | rw [if_pos (by omega)] | rw [if_neg (by omega)]
      · refine V_ldc (pc := 233) dX6_next_233 (z := 1000000) ldc_X6_125 ?_
        refine V_goto (pc := 235) 258 dX6_next_235 (by decide) ?_
        refine V_puti (pc := 258) dX6_next_258 gf_X6_108 (by omega) ?_
        refine V_aload_0 (pc := 261) dX6_next_261 ?_
        refine V_dup (pc := 262) dX6_next_262 rfl ?_
        refine V_geti (pc := 263) dX6_next_263 gf_X6_98 (by omega) (v := s + (k : Int)) (by first | exact h7 | (rw [S34 (by decide)]; exact h7)) ?_
        refine V_iconst (pc := 266) dX6_next_266 ?_
        refine V_iadd (pc := 267) dX6_next_267 ?_
        refine V_puti (pc := 268) dX6_next_268 gf_X6_98 (by omega) ?_
        refine V_goto (pc := 271) 208 dX6_next_271 (by decide) ?_
        refine V.sub (by simp only [subL, Option.some.injEq, Sum.inl.injEq, Sum.inr.injEq, reduceCtorEq, true_or, or_true, false_or, true_and, and_true]) (ih (k + 1) _ (by omega) (by omega) (fun x hx => ?_) (hOi.tr ((OffN.set (by omega)).tr (OffN.set (by omega)))) ?_ ?_ ?_ ?_)
        · by_cases q : x = s + k
          · subst q; unfold DIG; omega
          · exact hall x (by omega)
        · rw [setI_same]; omega
        · rw [S34 (by decide), S34 (by decide)]; exact h8
        · rw [S34 (by decide), S34 (by decide)]; exact h9
        · rw [S34 (by decide), setI_same, VC]; first | rw [if_pos (by omega)] | rw [if_neg (by omega)]

set_option maxRecDepth 20000 in
set_option maxHeartbeats 1000000 in
theorem next_M {d : Nat} (hd : 1 ≤ d) {σ : MM} {T : Int → Int} {n i s : Int} (hT : TPE σ T n) (hn : 0 ≤ n ∧ n ≤ 700) (hTr : ∀ x : Int, 0 ≤ x ∧ x < n → -128 ≤ T x ∧ T x ≤ 127) (hi : 0 ≤ i ∧ i ≤ n) (hsd : TS T n i = s) {σi : MM} (hOi : OffN σ σi) (h7 : σi 34 0 7 = s) : V yX6_next cX6_next 2 none d (QZ (fun σ' => TKM σ' T n i ∧ OffN σ σ')) 43 [some (vR 34 0), none] [] σi := by
  have hsi := TS_in (T := T) hi
  rw [hsd] at hsi
  have ht9 := fun q : s < n => hTr s ⟨by omega, q⟩
  have k0 : TK T n i = 0 ↔ n ≤ TS T n i := TK_0
  have k1 : TK T n i = 1 ↔ TS T n i < n ∧ (97 ≤ T (TS T n i) ∧ T (TS T n i) ≤ 122) := TK_1
  have k2 : TK T n i = 2 ↔ TS T n i < n ∧ (48 ≤ T (TS T n i) ∧ T (TS T n i) ≤ 57) := TK_2
  have k3 : TK T n i = 3 ↔ TS T n i < n ∧ T (TS T n i) = 59 := TK_3
  have k4 := TK_in T n i
  rw [hsd] at k0 k1 k2 k3
  refine V_aload_0 (pc := 43) dX6_next_43 ?_
  refine V_aload_0 (pc := 44) dX6_next_44 ?_
  refine V_geti (pc := 45) dX6_next_45 gf_X6_98 (by omega) h7 ?_
  refine V_puti (pc := 48) dX6_next_48 gf_X6_105 (by omega) ?_
  refine V_aload_0 (pc := 51) dX6_next_51 ?_
  refine V_iconst (pc := 52) dX6_next_52 ?_
  refine V_puti (pc := 53) dX6_next_53 gf_X6_108 (by omega) ?_
  refine V_aload_0 (pc := 56) dX6_next_56 ?_
  refine V_lconst (pc := 57) dX6_next_57 (z := 0) rfl ?_
  refine V_putj (pc := 58) dX6_next_58 gf_X6_111 (by omega) ?_
  have hO3 : OffN σ (setI (setI (setI σi 34 0 9 s) 34 0 10 0) 34 0 11 0) := hOi.tr ((OffN.set (by omega)).tr ((OffN.set (by omega)).tr (OffN.set (by omega))))
  refine V_aload_0 (pc := 61) dX6_next_61 ?_
  refine V_geti (pc := 62) dX6_next_62 gf_X6_98 (by omega) (v := s) (by rw [S34 (by decide), S34 (by decide), S34 (by decide)]; exact h7) ?_
  refine V_aload_0 (pc := 65) dX6_next_65 ?_
  refine V_geti (pc := 66) dX6_next_66 gf_X6_91 (by omega) (hO3.tpe hT).1 ?_
  refine V_icmp_ne (pc := 69) 80 dX6_next_69 (by decide) (by omega) (by omega) (fun c_69 => ?_) (fun c_69 => ?_)
  · refine V_aload_0 (pc := 80) dX6_next_80 ?_
    refine V_aload_0 (pc := 81) dX6_next_81 ?_
    refine V_geti (pc := 82) dX6_next_82 gf_X6_98 (by omega) (v := s) (by rw [S34 (by decide), S34 (by decide), S34 (by decide)]; exact h7) ?_
    refine V_bipush (pc := 85) dX6_next_85 (by decide) ?_
    refine V_bipush (pc := 87) dX6_next_87 (by decide) ?_
    refine V_callV3p (pc := 89) dX6_next_89 kv_X6_101 rc_34 (by omega) (d - 1) (by omega) rfl (c_X6_isByte (by omega) (hO3.tpe hT) hn hTr (by omega) (by omega) (by omega)) ?_
    refine V_if_eq_b (pc := 92) 188 dX6_next_92 (by decide) (fun c_92 => ?_) (fun c_92 => ?_)
    · refine V_aload_0 (pc := 188) dX6_next_188 ?_
      refine V_aload_0 (pc := 189) dX6_next_189 ?_
      refine V_geti (pc := 190) dX6_next_190 gf_X6_98 (by omega) (v := s) (by rw [S34 (by decide), S34 (by decide), S34 (by decide)]; exact h7) ?_
      refine V_bipush (pc := 193) dX6_next_193 (by decide) ?_
      refine V_bipush (pc := 195) dX6_next_195 (by decide) ?_
      refine V_callV3p (pc := 197) dX6_next_197 kv_X6_101 rc_34 (by omega) (d - 1) (by omega) rfl (c_X6_isByte (by omega) (hO3.tpe hT) hn hTr (by omega) (by omega) (by omega)) ?_
      refine V_if_eq_b (pc := 200) 274 dX6_next_200 (by decide) (fun c_200 => ?_) (fun c_200 => ?_)
      · refine V_aload_0 (pc := 274) dX6_next_274 ?_
        refine V_aload_0 (pc := 275) dX6_next_275 ?_
        refine V_getc (pc := 276) dX6_next_276 gf_X6_23 (by omega) ?_
        refine V_aload_0 (pc := 279) dX6_next_279 ?_
        refine V_geti (pc := 280) dX6_next_280 gf_X6_98 (by omega) (v := s) (by rw [S34 (by decide), S34 (by decide), S34 (by decide)]; exact h7) ?_
        refine V_bald (pc := 283) dX6_next_283 sh_39 (by omega) (by omega) ((hO3.tpe hT).2 s (by omega)) ?_
        refine V_bipush (pc := 284) dX6_next_284 (by decide) ?_
        refine V_icmp_ne (pc := 286) 293 dX6_next_286 (by decide) (by omega) (by omega) (fun c_286 => ?_) (fun c_286 => ?_)
        · refine V_iconst (pc := 293) dX6_next_293 ?_
          refine V_puti (pc := 294) dX6_next_294 gf_X6_115 (by omega) ?_
          refine V_aload_0 (pc := 297) dX6_next_297 ?_
          refine V_dup (pc := 298) dX6_next_298 rfl ?_
          refine V_geti (pc := 299) dX6_next_299 gf_X6_98 (by omega) (v := s) (by rw [S34 (by decide), S34 (by decide), S34 (by decide), S34 (by decide)]; exact h7) ?_
          refine V_iconst (pc := 302) dX6_next_302 ?_
          refine V_iadd (pc := 303) dX6_next_303 ?_
          refine V_puti (pc := 304) dX6_next_304 gf_X6_98 (by omega) ?_
          refine V_vret (pc := 307) dX6_next_307 rfl ?_
          first
            | (exfalso; omega)
            | (have hk3 : TK T n i = 4 := by omega
               exact ⟨rfl, ⟨by rw [setI_same, TE_3 (by omega), hsd], by rw [S34 (by decide), setI_same, hk3], by rw [S34 (by decide), S34 (by decide), S34 (by decide), S34 (by decide), setI_same, hsd], fun q => absurd (hk3.symm.trans q) (by decide), fun q => absurd (hk3.symm.trans q) (by decide)⟩, hO3.tr ((OffN.set (by omega)).tr (OffN.set (by omega)))⟩)
        · refine V_iconst (pc := 289) dX6_next_289 ?_
          refine V_goto (pc := 290) 294 dX6_next_290 (by decide) ?_
          refine V_puti (pc := 294) dX6_next_294 gf_X6_115 (by omega) ?_
          refine V_aload_0 (pc := 297) dX6_next_297 ?_
          refine V_dup (pc := 298) dX6_next_298 rfl ?_
          refine V_geti (pc := 299) dX6_next_299 gf_X6_98 (by omega) (v := s) (by rw [S34 (by decide), S34 (by decide), S34 (by decide), S34 (by decide)]; exact h7) ?_
          refine V_iconst (pc := 302) dX6_next_302 ?_
          refine V_iadd (pc := 303) dX6_next_303 ?_
          refine V_puti (pc := 304) dX6_next_304 gf_X6_98 (by omega) ?_
          refine V_vret (pc := 307) dX6_next_307 rfl ?_
          first
            | (exfalso; omega)
            | (have hk3 : TK T n i = 3 := by omega
               exact ⟨rfl, ⟨by rw [setI_same, TE_3 (by omega), hsd], by rw [S34 (by decide), setI_same, hk3], by rw [S34 (by decide), S34 (by decide), S34 (by decide), S34 (by decide), setI_same, hsd], fun q => absurd (hk3.symm.trans q) (by decide), fun q => absurd (hk3.symm.trans q) (by decide)⟩, hO3.tr ((OffN.set (by omega)).tr (OffN.set (by omega)))⟩)
      · refine V_aload_0 (pc := 203) dX6_next_203 ?_
        refine V_iconst (pc := 204) dX6_next_204 ?_
        refine V_puti (pc := 205) dX6_next_205 gf_X6_115 (by omega) ?_
        refine V.sub (by simp only [subL, Option.some.injEq, Sum.inl.injEq, Sum.inr.injEq, reduceCtorEq, true_or, or_true, false_or, true_and, and_true]) (next_V hd hT hn hTr hi hsd (k2.mpr (by omega)) (n - s).toNat 0 _ (by omega) (by omega) (fun x hx => by omega) (hO3.tr (OffN.set (by omega))) ?_ ?_ ?_ ?_)
        · rw [S34 (by decide), S34 (by decide), S34 (by decide), S34 (by decide)]; show _ = s + ((0 : Nat) : Int); rw [h7]; omega
        · rw [setI_same]
        · rw [S34 (by decide), S34 (by decide), S34 (by decide), setI_same]
        · rw [S34 (by decide), S34 (by decide), setI_same]; rfl
    · refine V_aload_0 (pc := 95) dX6_next_95 ?_
      refine V_iconst (pc := 96) dX6_next_96 ?_
      refine V_puti (pc := 97) dX6_next_97 gf_X6_115 (by omega) ?_
      refine V_iconst (pc := 100) dX6_next_100 ?_
      refine V_istore_1 (pc := 101) dX6_next_101 ?_
      refine next_W hd hT hn hTr hi hsd (k1.mpr (by omega)) (n - s).toNat 0 _ (by omega) (by omega) (fun x hx => by omega) (hO3.tr (OffN.set (by omega))) ?_ ?_ ?_ ?_
      · rw [S34 (by decide), S34 (by decide), S34 (by decide), S34 (by decide)]; show _ = s + ((0 : Nat) : Int); rw [h7]; omega
      · rw [setI_same]
      · rw [S34 (by decide), S34 (by decide), S34 (by decide), setI_same]
      · rw [S34 (by decide), setI_same]; rfl
  · refine V_aload_0 (pc := 72) dX6_next_72 ?_
    refine V_iconst (pc := 73) dX6_next_73 ?_
    refine V_puti (pc := 74) dX6_next_74 gf_X6_115 (by omega) ?_
    refine V_goto (pc := 77) 307 dX6_next_77 (by decide) ?_
    refine V_vret (pc := 307) dX6_next_307 rfl ?_
    first
      | (exfalso; omega)
      | (have hk0 : TK T n i = 0 := by omega
         exact ⟨rfl, ⟨by rw [S34 (by decide), S34 (by decide), S34 (by decide), S34 (by decide), TE_0 hk0, hsd]; exact h7, by rw [setI_same, hk0], by rw [S34 (by decide), S34 (by decide), S34 (by decide), setI_same, hsd], fun q => absurd (hk0.symm.trans q) (by decide), fun q => absurd (hk0.symm.trans q) (by decide)⟩, hO3.tr (OffN.set (by omega))⟩)

set_option maxRecDepth 20000 in
set_option maxHeartbeats 1000000 in
theorem next_B {d : Nat} (hd : 1 ≤ d) {σ : MM} {T : Int → Int} {n i : Int} (hT : TPE σ T n) (hn : 0 ≤ n ∧ n ≤ 700) (hTr : ∀ x : Int, 0 ≤ x ∧ x < n → -128 ≤ T x ∧ T x ≤ 127) (hi : 0 ≤ i ∧ i ≤ n) : ∀ (m : Nat) (j : Int) (σi : MM), n - j = m → 0 ≤ j → ADV (BLK T) n j = TS T n i → OffN σ σi → σi 34 0 7 = j → V yX6_next cX6_next 2 none d (QZ (fun σ' => TKM σ' T n i ∧ OffN σ σ')) 0 [some (vR 34 0), none] [] σi := by
  intro m
  induction m with
  | zero =>
    intro j σi hm hj hADV hOi h7
    refine V_aload_0 (pc := 0) dX6_next_0 ?_
    refine V_aload_0 (pc := 1) dX6_next_1 ?_
    refine V_geti (pc := 2) dX6_next_2 gf_X6_98 (by omega) h7 ?_
    refine V_bipush (pc := 5) dX6_next_5 (by decide) ?_
    refine V_bipush (pc := 7) dX6_next_7 (by decide) ?_
    refine V_callV3p (pc := 9) dX6_next_9 kv_X6_101 rc_34 (by omega) (d - 1) (by omega) rfl (c_X6_isByte (by omega) (hOi.tpe hT) hn hTr (by omega) (by omega) (by omega)) ?_
    refine V_if_ne_b (pc := 12) 30 dX6_next_12 (by decide) (fun c_12 => ?_) (fun c_12 => ?_)
    · refine V_aload_0 (pc := 30) dX6_next_30 ?_
      refine V_dup (pc := 31) dX6_next_31 rfl ?_
      refine V_geti (pc := 32) dX6_next_32 gf_X6_98 (by omega) h7 ?_
      refine V_iconst (pc := 35) dX6_next_35 ?_
      refine V_iadd (pc := 36) dX6_next_36 ?_
      refine V_puti (pc := 37) dX6_next_37 gf_X6_98 (by omega) ?_
      refine V_goto (pc := 40) 0 dX6_next_40 (by decide) ?_
      exfalso; omega
    · refine V_aload_0 (pc := 15) dX6_next_15 ?_
      refine V_aload_0 (pc := 16) dX6_next_16 ?_
      refine V_geti (pc := 17) dX6_next_17 gf_X6_98 (by omega) h7 ?_
      refine V_bipush (pc := 20) dX6_next_20 (by decide) ?_
      refine V_bipush (pc := 22) dX6_next_22 (by decide) ?_
      refine V_callV3p (pc := 24) dX6_next_24 kv_X6_101 rc_34 (by omega) (d - 1) (by omega) rfl (c_X6_isByte (by omega) (hOi.tpe hT) hn hTr (by omega) (by omega) (by omega)) ?_
      refine V_if_eq_b (pc := 27) 43 dX6_next_27 (by decide) (fun c_27 => ?_) (fun c_27 => ?_)
      · exact next_M hd hT hn hTr hi (by rw [← hADV]; first | exact ADV_ge (by omega) | exact ADV_no (fun q => by unfold BLK at q; omega)) hOi h7
      · refine V_aload_0 (pc := 30) dX6_next_30 ?_
        refine V_dup (pc := 31) dX6_next_31 rfl ?_
        refine V_geti (pc := 32) dX6_next_32 gf_X6_98 (by omega) h7 ?_
        refine V_iconst (pc := 35) dX6_next_35 ?_
        refine V_iadd (pc := 36) dX6_next_36 ?_
        refine V_puti (pc := 37) dX6_next_37 gf_X6_98 (by omega) ?_
        refine V_goto (pc := 40) 0 dX6_next_40 (by decide) ?_
        exfalso; omega
  | succ m ih =>
    intro j σi hm hj hADV hOi h7
    have ht9 := hTr j (by omega)
    refine V_aload_0 (pc := 0) dX6_next_0 ?_
    refine V_aload_0 (pc := 1) dX6_next_1 ?_
    refine V_geti (pc := 2) dX6_next_2 gf_X6_98 (by omega) h7 ?_
    refine V_bipush (pc := 5) dX6_next_5 (by decide) ?_
    refine V_bipush (pc := 7) dX6_next_7 (by decide) ?_
    refine V_callV3p (pc := 9) dX6_next_9 kv_X6_101 rc_34 (by omega) (d - 1) (by omega) rfl (c_X6_isByte (by omega) (hOi.tpe hT) hn hTr (by omega) (by omega) (by omega)) ?_
    refine V_if_ne_b (pc := 12) 30 dX6_next_12 (by decide) (fun c_12 => ?_) (fun c_12 => ?_)
    · refine V_aload_0 (pc := 30) dX6_next_30 ?_
      refine V_dup (pc := 31) dX6_next_31 rfl ?_
      refine V_geti (pc := 32) dX6_next_32 gf_X6_98 (by omega) h7 ?_
      refine V_iconst (pc := 35) dX6_next_35 ?_
      refine V_iadd (pc := 36) dX6_next_36 ?_
      refine V_puti (pc := 37) dX6_next_37 gf_X6_98 (by omega) ?_
      refine V_goto (pc := 40) 0 dX6_next_40 (by decide) ?_
      exact ih (j + 1) _ (by omega) (by omega) (by rw [← ADV_yes (by omega) (by unfold BLK; omega)]; exact hADV) (hOi.tr (OffN.set (by omega))) (setI_same _ _ _ _ _)
    · refine V_aload_0 (pc := 15) dX6_next_15 ?_
      refine V_aload_0 (pc := 16) dX6_next_16 ?_
      refine V_geti (pc := 17) dX6_next_17 gf_X6_98 (by omega) h7 ?_
      refine V_bipush (pc := 20) dX6_next_20 (by decide) ?_
      refine V_bipush (pc := 22) dX6_next_22 (by decide) ?_
      refine V_callV3p (pc := 24) dX6_next_24 kv_X6_101 rc_34 (by omega) (d - 1) (by omega) rfl (c_X6_isByte (by omega) (hOi.tpe hT) hn hTr (by omega) (by omega) (by omega)) ?_
      refine V_if_eq_b (pc := 27) 43 dX6_next_27 (by decide) (fun c_27 => ?_) (fun c_27 => ?_)
      · exact next_M hd hT hn hTr hi (by rw [← hADV]; first | exact ADV_ge (by omega) | exact ADV_no (fun q => by unfold BLK at q; omega)) hOi h7
      · refine V_aload_0 (pc := 30) dX6_next_30 ?_
        refine V_dup (pc := 31) dX6_next_31 rfl ?_
        refine V_geti (pc := 32) dX6_next_32 gf_X6_98 (by omega) h7 ?_
        refine V_iconst (pc := 35) dX6_next_35 ?_
        refine V_iadd (pc := 36) dX6_next_36 ?_
        refine V_puti (pc := 37) dX6_next_37 gf_X6_98 (by omega) ?_
        refine V_goto (pc := 40) 0 dX6_next_40 (by decide) ?_
        exact ih (j + 1) _ (by omega) (by omega) (by rw [← ADV_yes (by omega) (by unfold BLK; omega)]; exact hADV) (hOi.tr (OffN.set (by omega))) (setI_same _ _ _ _ _)
theorem c_X6_next {d : Nat} (hd : 1 ≤ d) {σ : MM} {T : Int → Int} {n i : Int} (hT : TPE σ T n) (hn : 0 ≤ n ∧ n ≤ 700) (hTr : ∀ x : Int, 0 ≤ x ∧ x < n → -128 ≤ T x ∧ T x ≤ 127) (hi : 0 ≤ i ∧ i ≤ n) (h7 : σ 34 0 7 = i) : V yX6_next cX6_next 2 none d (QZ (fun σ' => TKM σ' T n i ∧ OffN σ σ')) 0 [some (vR 34 0), none] [] σ := next_B hd hT hn hTr hi (n - i).toNat i σ (by omega) (by omega) rfl OffN.rf h7
