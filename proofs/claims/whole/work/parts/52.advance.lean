set_option maxRecDepth 20000 in
set_option maxHeartbeats 1000000 in
theorem c_X3_isLetter {d : Nat} (hd : 0 ≤ d) {σ : MM} {x : Int} (hx : IR x) : V yX3_isLetter cX3_isLetter 1 (some .boolean) d (QI (fun v σ' => v = bI (97 ≤ x ∧ x ≤ 122) ∧ σ' = σ)) 0 [some (vI x)] [] σ := by
  refine V_iload_0 (pc := 0) dX3_isLetter_0 ?_
  refine V_bipush (pc := 1) dX3_isLetter_1 (by decide) ?_
  refine V_icmp_lt (pc := 3) 16 dX3_isLetter_3 (by decide) (by omega) (by omega) (fun c_3 => ?_) (fun c_3 => ?_)
  · refine V_iconst (pc := 16) dX3_isLetter_16 ?_
    refine V_iretZ (pc := 17) dX3_isLetter_17 rfl (by omega) ?_
    exact ⟨_, rfl, by first | exact (bI_t (by omega)).symm | exact (bI_f (by omega)).symm, rfl⟩
  · refine V_iload_0 (pc := 6) dX3_isLetter_6 ?_
    refine V_bipush (pc := 7) dX3_isLetter_7 (by decide) ?_
    refine V_icmp_gt (pc := 9) 16 dX3_isLetter_9 (by decide) (by omega) (by omega) (fun c_9 => ?_) (fun c_9 => ?_)
    · refine V_iconst (pc := 16) dX3_isLetter_16 ?_
      refine V_iretZ (pc := 17) dX3_isLetter_17 rfl (by omega) ?_
      exact ⟨_, rfl, by first | exact (bI_t (by omega)).symm | exact (bI_f (by omega)).symm, rfl⟩
    · refine V_iconst (pc := 12) dX3_isLetter_12 ?_
      refine V_goto (pc := 13) 17 dX3_isLetter_13 (by decide) ?_
      refine V_iretZ (pc := 17) dX3_isLetter_17 rfl (by omega) ?_
      exact ⟨_, rfl, by first | exact (bI_t (by omega)).symm | exact (bI_f (by omega)).symm, rfl⟩

set_option maxRecDepth 20000 in
set_option maxHeartbeats 1000000 in
theorem c_X3_isDigit {d : Nat} (hd : 0 ≤ d) {σ : MM} {x : Int} (hx : IR x) : V yX3_isDigit cX3_isDigit 1 (some .boolean) d (QI (fun v σ' => v = bI (48 ≤ x ∧ x ≤ 57) ∧ σ' = σ)) 0 [some (vI x)] [] σ := by
  refine V_iload_0 (pc := 0) dX3_isDigit_0 ?_
  refine V_bipush (pc := 1) dX3_isDigit_1 (by decide) ?_
  refine V_icmp_lt (pc := 3) 16 dX3_isDigit_3 (by decide) (by omega) (by omega) (fun c_3 => ?_) (fun c_3 => ?_)
  · refine V_iconst (pc := 16) dX3_isDigit_16 ?_
    refine V_iretZ (pc := 17) dX3_isDigit_17 rfl (by omega) ?_
    exact ⟨_, rfl, by first | exact (bI_t (by omega)).symm | exact (bI_f (by omega)).symm, rfl⟩
  · refine V_iload_0 (pc := 6) dX3_isDigit_6 ?_
    refine V_bipush (pc := 7) dX3_isDigit_7 (by decide) ?_
    refine V_icmp_gt (pc := 9) 16 dX3_isDigit_9 (by decide) (by omega) (by omega) (fun c_9 => ?_) (fun c_9 => ?_)
    · refine V_iconst (pc := 16) dX3_isDigit_16 ?_
      refine V_iretZ (pc := 17) dX3_isDigit_17 rfl (by omega) ?_
      exact ⟨_, rfl, by first | exact (bI_t (by omega)).symm | exact (bI_f (by omega)).symm, rfl⟩
    · refine V_iconst (pc := 12) dX3_isDigit_12 ?_
      refine V_goto (pc := 13) 17 dX3_isDigit_13 (by decide) ?_
      refine V_iretZ (pc := 17) dX3_isDigit_17 rfl (by omega) ?_
      exact ⟨_, rfl, by first | exact (bI_t (by omega)).symm | exact (bI_f (by omega)).symm, rfl⟩

set_option maxRecDepth 20000 in
set_option maxHeartbeats 1000000 in
theorem c_X3_byteAt {d : Nat} (hd : 0 ≤ d) {σ : MM} {T : Int → Int} {n : Int} {x : Int} (hR : RDF σ T n) (hx : IR x) : V yX3_byteAt cX3_byteAt 2 (some .int) d (QI (fun v σ' => v = BYA T n x ∧ σ' = σ)) 0 [some (vR 1 0), some (vI x)] [] σ := by
  have hn7 := hR.2.1
  refine V_iload_1 (pc := 0) dX3_byteAt_0 ?_
  refine V_if_lt (pc := 1) 32 dX3_byteAt_1 (by decide) (by omega) (fun c_1 => ?_) (fun c_1 => ?_)
  · refine V_iconst (pc := 32) dX3_byteAt_32 ?_
    refine V_iretI (pc := 33) dX3_byteAt_33 rfl ?_
    first | exact absurd c_16 (by omega) | exact ⟨_, rfl, by unfold BYA; first | rw [if_pos (by omega)] | rw [if_neg (by omega)], rfl⟩
  · refine V_iload_1 (pc := 4) dX3_byteAt_4 ?_
    refine V_aload_0 (pc := 5) dX3_byteAt_5 ?_
    refine V_geti (pc := 6) dX3_byteAt_6 gf_X3_15 (by omega) hR.1 ?_
    refine V_icmp_ge (pc := 9) 32 dX3_byteAt_9 (by decide) (by omega) (by omega) (fun c_9 => ?_) (fun c_9 => ?_)
    · refine V_iconst (pc := 32) dX3_byteAt_32 ?_
      refine V_iretI (pc := 33) dX3_byteAt_33 rfl ?_
      first | exact absurd c_16 (by omega) | exact ⟨_, rfl, by unfold BYA; first | rw [if_pos (by omega)] | rw [if_neg (by omega)], rfl⟩
    · refine V_iload_1 (pc := 12) dX3_byteAt_12 ?_
      refine V_sipush (pc := 13) dX3_byteAt_13 (by decide) ?_
      refine V_icmp_ge (pc := 16) 32 dX3_byteAt_16 (by decide) (by omega) (by omega) (fun c_16 => ?_) (fun c_16 => ?_)
      · refine V_iconst (pc := 32) dX3_byteAt_32 ?_
        refine V_iretI (pc := 33) dX3_byteAt_33 rfl ?_
        first | exact absurd c_16 (by omega) | exact ⟨_, rfl, by unfold BYA; first | rw [if_pos (by omega)] | rw [if_neg (by omega)], rfl⟩
      · refine V_aload_0 (pc := 19) dX3_byteAt_19 ?_
        refine V_getc (pc := 20) dX3_byteAt_20 gf_X3_9 (by omega) ?_
        refine V_iload_1 (pc := 23) dX3_byteAt_23 ?_
        refine V_bald (pc := 24) dX3_byteAt_24 sh_2 (by omega) (by omega) (hR.2.2 x (by omega)).1 ?_
        refine V_sipush (pc := 25) dX3_byteAt_25 (by decide) ?_
        refine V_iand (pc := 28) dX3_byteAt_28 (bw_byi (hR.2.2 x (by omega)).2) ?_
        refine V_goto (pc := 29) 33 dX3_byteAt_29 (by decide) ?_
        refine V_iretI (pc := 33) dX3_byteAt_33 rfl ?_
        first | exact absurd c_16 (by omega) | exact ⟨_, rfl, by unfold BYA; first | rw [if_pos (by omega)] | rw [if_neg (by omega)], rfl⟩

set_option maxRecDepth 20000 in
set_option maxHeartbeats 1000000 in
theorem c_X3_blame {d : Nat} (hd : 0 ≤ d) {σ : MM} {w f0 st : Int} (h2 : σ 1 0 2 = f0) (hf : IR f0) (h5 : σ 1 0 5 = st) : V yX3_blame cX3_blame 2 none d (QZ (fun σ' => σ' = if f0 = 0 then setI (setI σ 1 0 2 w) 1 0 3 st else σ)) 0 [some (vR 1 0), some (vI w)] [] σ := by
  refine V_aload_0 (pc := 0) dX3_blame_0 ?_
  refine V_geti (pc := 1) dX3_blame_1 gf_X3_19 (by omega) h2 ?_
  refine V_if_ne (pc := 4) 20 dX3_blame_4 (by decide) (by omega) (fun c_4 => ?_) (fun c_4 => ?_)
  · refine V_vret (pc := 20) dX3_blame_20 rfl ?_
    exact ⟨rfl, by first | rw [if_pos (by assumption)] | rw [if_neg (by assumption)]⟩
  · refine V_aload_0 (pc := 7) dX3_blame_7 ?_
    refine V_iload_1 (pc := 8) dX3_blame_8 ?_
    refine V_puti (pc := 9) dX3_blame_9 gf_X3_19 (by omega) ?_
    refine V_aload_0 (pc := 12) dX3_blame_12 ?_
    refine V_aload_0 (pc := 13) dX3_blame_13 ?_
    refine V_geti (pc := 14) dX3_blame_14 gf_X3_28 (by omega) (v := st) (by simp [setI_at]; exact h5) ?_
    refine V_puti (pc := 17) dX3_blame_17 gf_X3_22 (by omega) ?_
    refine V_vret (pc := 20) dX3_blame_20 rfl ?_
    exact ⟨rfl, by first | rw [if_pos (by assumption)] | rw [if_neg (by assumption)]⟩

def F4 (T : Int → Int) (n v : Int) : Int → Int := fun x => if x = n then b8 (v / p2 24) else if x = n + 1 then b8 (v / p2 16) else if x = n + 2 then b8 (v / p2 8) else if x = n + 3 then b8 (v / p2 0) else T x
theorem b8_b8 (x : Int) : b8 (b8 x) = b8 x := Int.bmod_bmod
theorem b8_in (x : Int) : -128 ≤ b8 x ∧ b8 x ≤ 127 := by
  have h1 := Int.le_bmod (x := x) (m := 256) (by decide)
  have h2 := Int.bmod_lt (x := x) (m := 256) (by decide)
  unfold b8
  omega
/-- only the tape changes -/
def OffA (σ σ' : MM) : Prop := ∀ (t : Nat) (k z : Int), ¬ (t = 1 ∧ z = 1) → t ≠ 2 → σ' t k z = σ t k z
theorem OffA.rf {σ : MM} : OffA σ σ := fun _ _ _ _ _ => rfl
theorem OffA.tr {σ σ1 σ2 : MM} (h : OffA σ σ1) (h2 : OffA σ1 σ2) : OffA σ σ2 := fun t k z a b => (h2 t k z a b).trans (h t k z a b)
theorem F4_rdf {σ σ' : MM} {T : Int → Int} {n v : Int} (hR : RDF σ T n) (hn : n + 4 ≤ 700) (h1 : σ' 1 0 1 = n + 4) (h2 : ∀ x : Int, 0 ≤ x ∧ x < n → σ' 2 0 x = T x) (h3 : ∀ j : Int, 0 ≤ j ∧ j < 4 → σ' 2 0 (n + j) = b8 (v / p2 (24 - 8 * j))) : RDF σ' (F4 T n v) (n + 4) := by
  have hn7 := hR.2.1
  refine ⟨h1, by omega, fun x hx => ?_⟩
  have a0 := h3 0 (by omega)
  have a1 := h3 1 (by omega)
  have a2 := h3 2 (by omega)
  have a3 := h3 3 (by omega)
  rw [Int.add_zero] at a0
  have hc : x < n ∨ x = n ∨ x = n + 1 ∨ x = n + 2 ∨ x = n + 3 := by omega
  unfold F4
  rcases hc with q | rfl | rfl | rfl | rfl
  · rw [if_neg (by omega), if_neg (by omega), if_neg (by omega), if_neg (by omega)]
    exact ⟨h2 x (by omega), (hR.2.2 x (by omega)).2⟩
  · rw [if_pos rfl]; exact ⟨a0, b8_in _⟩
  · rw [if_neg (by omega), if_pos rfl]; exact ⟨a1, b8_in _⟩
  · rw [if_neg (by omega), if_neg (by omega), if_pos rfl]; exact ⟨a2, b8_in _⟩
  · rw [if_neg (by omega), if_neg (by omega), if_neg (by omega), if_pos rfl]; exact ⟨a3, b8_in _⟩

set_option maxRecDepth 20000 in
set_option maxHeartbeats 1000000 in
theorem c_X3_addFour {d : Nat} (hd : 0 ≤ d) {σ : MM} {T : Int → Int} {n : Int} {v : Int} (hR : RDF σ T n) (hn4 : n + 4 ≤ 700) (hv : IR v) : V yX3_addFour cX3_addFour 3 none d (QZ (fun σ' => RDF σ' (F4 T n v) (n + 4) ∧ OffA σ σ')) 0 [some (vR 1 0), some (vI v), none] [] σ := by
  have hn7 := hR.2.1
  have loop : ∀ i : Nat, i ≤ 4 → ∀ σi : MM, (σi 1 0 1 = n + i ∧ (∀ x : Int, 0 ≤ x ∧ x < n → σi 2 0 x = T x) ∧ (∀ j : Int, 0 ≤ j ∧ j < (i : Int) → σi 2 0 (n + j) = b8 (v / p2 (24 - 8 * j))) ∧ OffA σ σi) → V yX3_addFour cX3_addFour 3 none d (QZ (fun σ' => RDF σ' (F4 T n v) (n + 4) ∧ OffA σ σ')) 3 [some (vR 1 0), some (vI v), some (vI (24 - 8 * (i : Int)))] [] σi := by
    refine up_ind (P := fun i : Nat => ∀ σi : MM, (σi 1 0 1 = n + i ∧ (∀ x : Int, 0 ≤ x ∧ x < n → σi 2 0 x = T x) ∧ (∀ j : Int, 0 ≤ j ∧ j < (i : Int) → σi 2 0 (n + j) = b8 (v / p2 (24 - 8 * j))) ∧ OffA σ σi) → V yX3_addFour cX3_addFour 3 none d (QZ (fun σ' => RDF σ' (F4 T n v) (n + 4) ∧ OffA σ σ')) 3 [some (vR 1 0), some (vI v), some (vI (24 - 8 * (i : Int)))] [] σi) ?_ ?_
    · intro σi hI
      refine V_iload_2 (pc := 3) dX3_addFour_3 ?_
      refine V_if_lt (pc := 4) 46 dX3_addFour_4 (by decide) (by omega) (fun c_4 => ?_) (fun c_4 => ?_)
      · refine V_vret (pc := 46) dX3_addFour_46 rfl ?_
        exact ⟨rfl, F4_rdf hR hn4 (by rw [hI.1]; rfl) hI.2.1 (fun j hj => hI.2.2.1 j (by omega)), hI.2.2.2⟩
      · exact absurd c_4 (by omega)
    · intro i hi ih σi hI
      refine V_iload_2 (pc := 3) dX3_addFour_3 ?_
      refine V_if_lt (pc := 4) 46 dX3_addFour_4 (by decide) (by omega) (fun c_4 => ?_) (fun c_4 => ?_)
      · exact absurd c_4 (by omega)
      · refine V_aload_0 (pc := 7) dX3_addFour_7 ?_
        refine V_geti (pc := 8) dX3_addFour_8 gf_X3_15 (by omega) (v := n + i) (by first | exact hI.1 | (simp [setI_at, hI.1]; done)) ?_
        refine V_sipush (pc := 11) dX3_addFour_11 (by decide) ?_
        refine V_icmp_ge (pc := 14) 40 dX3_addFour_14 (by decide) (by omega) (by omega) (fun c_14 => ?_) (fun c_14 => ?_)
        · exact absurd c_14 (by omega)
        · refine V_aload_0 (pc := 17) dX3_addFour_17 ?_
          refine V_getc (pc := 18) dX3_addFour_18 gf_X3_9 (by omega) ?_
          refine V_aload_0 (pc := 21) dX3_addFour_21 ?_
          refine V_geti (pc := 22) dX3_addFour_22 gf_X3_15 (by omega) (v := n + i) (by first | exact hI.1 | (simp [setI_at, hI.1]; done)) ?_
          refine V_iload_1 (pc := 25) dX3_addFour_25 ?_
          refine V_iload_2 (pc := 26) dX3_addFour_26 ?_
          refine V_ishr_p (pc := 27) dX3_addFour_27 (by omega) (by omega) ?_
          refine V_i2b (pc := 28) dX3_addFour_28 ?_
          refine V_bast (pc := 29) dX3_addFour_29 sh_2 (by omega) (by omega) ?_
          refine V_aload_0 (pc := 30) dX3_addFour_30 ?_
          refine V_dup (pc := 31) dX3_addFour_31 rfl ?_
          refine V_geti (pc := 32) dX3_addFour_32 gf_X3_15 (by omega) (v := n + i) (by first | exact hI.1 | (simp [setI_at, hI.1]; done)) ?_
          refine V_iconst (pc := 35) dX3_addFour_35 ?_
          refine V_iadd (pc := 36) dX3_addFour_36 ?_
          refine V_puti (pc := 37) dX3_addFour_37 gf_X3_15 (by omega) ?_
          refine V_iinc_2 (pc := 40) dX3_addFour_40 ?_
          refine V_goto (pc := 43) 3 dX3_addFour_43 (by decide) ?_
          refine V.sub (by simp only [subL, Option.some.injEq, Sum.inl.injEq, reduceCtorEq, true_or, or_true, false_or, true_and, and_true]; omega) (ih _ ⟨by simp [setI_at]; omega, fun x hx => ?_, fun j hj => ?_, fun t k z a b => ?_⟩)
          · have q : ¬ x = n + i := by omega
            simp [setI_at, q]; exact hI.2.1 x hx
          · by_cases q : j = i
            · subst q; simp [setI_at]; exact b8_b8 _
            · have q2 : ¬ n + j = n + i := by omega
              simp [setI_at, q2]; exact hI.2.2.1 j (by omega)
          · have g1 : ¬ (t = 1 ∧ k = 0 ∧ z = 1) := fun q => a ⟨q.1, q.2.2⟩
            simp only [setI_at, g1, b, false_and, if_false]; exact hI.2.2.2 t k z a b
  refine V_bipush (pc := 0) dX3_addFour_0 (by decide) ?_
  refine V_istore_2 (pc := 2) dX3_addFour_2 ?_
  exact loop 0 (by omega) _ ⟨by rw [hR.1]; omega, fun x hx => (hR.2.2 x hx).1, fun j hj => by omega, OffA.rf⟩

theorem BYA_in {T : Int → Int} {n x : Int} : -1 ≤ BYA T n x ∧ BYA T n x ≤ 255 := by
  unfold BYA
  split <;> omega
theorem BYA_at {T : Int → Int} {n x : Int} (h : 0 ≤ x ∧ x < n) : BYA T n x = T x % 256 := if_pos h

theorem TK_4 {T : Int → Int} {n i : Int} (h1 : TS T n i < n) (h2 : ¬ LET T (TS T n i)) (h3 : ¬ DIG T (TS T n i)) (h4 : ¬ T (TS T n i) = 59) : TK T n i = 4 := by
  unfold TK
  rw [if_neg (by omega), if_neg h2, if_neg h3, if_neg h4]

set_option maxRecDepth 20000 in
set_option maxHeartbeats 1000000 in
theorem c_X3_advance {d : Nat} (hd : 1 ≤ d) {σ : MM} {T : Int → Int} {n : Int} {i0 : Int} (hR : RDF σ T n) (hi : 0 ≤ i0 ∧ i0 ≤ n) (h6 : σ 1 0 6 = i0) : V yX3_advance cX3_advance 1 none d (QZ (fun σ' => TOK σ' T n i0 ∧ OffT σ σ')) 0 [some (vR 1 0)] [] σ := by
  have hn7 := hR.2.1
  have hTS := TS_in (T := T) hi
  have word : TK T n i0 = 1 → ∀ i : Nat, i ≤ (n - TS T n i0).toNat →  ∀ σi, OffT σ σi → σi 1 0 4 = 1 → σi 1 0 5 = TS T n i0 → σi 1 0 6 = TS T n i0 + i → ADV (LET T) n (TS T n i0) = ADV (LET T) n (TS T n i0 + i) → V yX3_advance cX3_advance 1 none d (QZ (fun σ' => TOK σ' T n i0 ∧ OffT σ σ')) 104 [some (vR 1 0)] [] σi := by
    intro hk
    refine up_ind (P := fun i : Nat => ∀ σi, OffT σ σi → σi 1 0 4 = 1 → σi 1 0 5 = TS T n i0 → σi 1 0 6 = TS T n i0 + i → ADV (LET T) n (TS T n i0) = ADV (LET T) n (TS T n i0 + i) → V yX3_advance cX3_advance 1 none d (QZ (fun σ' => TOK σ' T n i0 ∧ OffT σ σ')) 104 [some (vR 1 0)] [] σi) ?_ ?_
    · generalize hi9 : (n - TS T n i0).toNat = i
      intro σi hOi hki hsi hbe hte
      have hRi := hOi.rdf hR
      have hbb : TS T n i0 + (i : Int) < n → BYA T n (TS T n i0 + i) = T (TS T n i0 + i) % 256 := fun q => BYA_at ⟨by omega, q⟩
      have htt : TS T n i0 + (i : Int) < n → -128 ≤ T (TS T n i0 + i) ∧ T (TS T n i0 + i) ≤ 127 := fun q => (hR.2.2 _ ⟨by omega, q⟩).2
      have hbi := BYA_in (T := T) (n := n) (x := TS T n i0 + i)
      refine V_aload_0 (pc := 104) dX3_advance_104 ?_
      refine V_geti (pc := 105) dX3_advance_105 gf_X3_31 (by omega) (v := TS T n i0 + i) (by first | exact hbe | (simp [setI_at, hbe]; done)) ?_
      refine V_aload_0 (pc := 108) dX3_advance_108 ?_
      refine V_geti (pc := 109) dX3_advance_109 gf_X3_15 (by omega) hRi.1 ?_
      refine V_icmp_ge (pc := 112) 265 dX3_advance_112 (by decide) (by omega) (by omega) (fun c_112 => ?_) (fun c_112 => ?_)
      · refine V_vret (pc := 265) dX3_advance_265 rfl ?_
        exact ⟨rfl, ⟨by rw [hk]; exact hki, hsi, by rw [TE_1 hk, hte, ADV_ge (by omega)]; exact hbe, fun q => by omega⟩, hOi⟩
      · exact absurd c_112 (by omega)
    · intro i hi2 ih σi hOi hki hsi hbe hte
      have hRi := hOi.rdf hR
      have hbb : TS T n i0 + (i : Int) < n → BYA T n (TS T n i0 + i) = T (TS T n i0 + i) % 256 := fun q => BYA_at ⟨by omega, q⟩
      have htt : TS T n i0 + (i : Int) < n → -128 ≤ T (TS T n i0 + i) ∧ T (TS T n i0 + i) ≤ 127 := fun q => (hR.2.2 _ ⟨by omega, q⟩).2
      have hbi := BYA_in (T := T) (n := n) (x := TS T n i0 + i)
      refine V_aload_0 (pc := 104) dX3_advance_104 ?_
      refine V_geti (pc := 105) dX3_advance_105 gf_X3_31 (by omega) (v := TS T n i0 + i) (by first | exact hbe | (simp [setI_at, hbe]; done)) ?_
      refine V_aload_0 (pc := 108) dX3_advance_108 ?_
      refine V_geti (pc := 109) dX3_advance_109 gf_X3_15 (by omega) hRi.1 ?_
      refine V_icmp_ge (pc := 112) 265 dX3_advance_112 (by decide) (by omega) (by omega) (fun c_112 => ?_) (fun c_112 => ?_)
      · exact absurd c_112 (by omega)
      · refine V_aload_0 (pc := 115) dX3_advance_115 ?_
        refine V_aload_0 (pc := 116) dX3_advance_116 ?_
        refine V_geti (pc := 117) dX3_advance_117 gf_X3_31 (by omega) (v := TS T n i0 + i) (by first | exact hbe | (simp [setI_at, hbe]; done)) ?_
        refine V_callV1p (pc := 120) dX3_advance_120 kv_X3_135 rc_1 (by omega) (d - 1) (by omega) rfl (c_X3_byteAt (by omega) hRi (by omega)) ?_
        refine V_callS1p (pc := 123) dX3_advance_123 kv_X3_143 (d - 1) (by omega) rfl (c_X3_isLetter (by omega) (by omega)) ?_
        refine V_if_eq_b (pc := 126) 265 dX3_advance_126 (by decide) (fun c_126 => ?_) (fun c_126 => ?_)
        · refine V_vret (pc := 265) dX3_advance_265 rfl ?_
          exact ⟨rfl, ⟨by rw [hk]; exact hki, hsi, by rw [TE_1 hk, hte, ADV_no (by omega)]; exact hbe, fun q => by omega⟩, hOi⟩
        · refine V_aload_0 (pc := 129) dX3_advance_129 ?_
          refine V_dup (pc := 130) dX3_advance_130 rfl ?_
          refine V_geti (pc := 131) dX3_advance_131 gf_X3_31 (by omega) (v := TS T n i0 + i) (by first | exact hbe | (simp [setI_at, hbe]; done)) ?_
          refine V_iconst (pc := 134) dX3_advance_134 ?_
          refine V_iadd (pc := 135) dX3_advance_135 ?_
          refine V_puti (pc := 136) dX3_advance_136 gf_X3_31 (by omega) ?_
          refine V_goto (pc := 139) 104 dX3_advance_139 (by decide) ?_
          refine ih _ (hOi.tr (OffT.set (by omega))) (by simp [setI_at]; exact hki) (by simp [setI_at]; exact hsi) (by simp [setI_at]; omega) ?_
          rw [hte, show TS T n i0 + ((i + 1 : Nat) : Int) = TS T n i0 + i + 1 by omega]
          exact ADV_yes (by omega) (by omega)
  have numb : TK T n i0 = 2 → ∀ i : Nat, i ≤ (n - TS T n i0).toNat →  ∀ σi, OffT σ σi → σi 1 0 4 = 2 → σi 1 0 5 = TS T n i0 → σi 1 0 6 = TS T n i0 + i → ADV (DIG T) n (TS T n i0) = ADV (DIG T) n (TS T n i0 + i) → σi 1 0 7 = min 1000 (NM T (TS T n i0) i) → 0 ≤ NM T (TS T n i0) i → (∀ x : Int, TS T n i0 ≤ x ∧ x < TS T n i0 + i → DIG T x) → V yX3_advance cX3_advance 1 none d (QZ (fun σ' => TOK σ' T n i0 ∧ OffT σ σ')) 166 [some (vR 1 0)] [] σi := by
    intro hk
    refine up_ind (P := fun i : Nat => ∀ σi, OffT σ σi → σi 1 0 4 = 2 → σi 1 0 5 = TS T n i0 → σi 1 0 6 = TS T n i0 + i → ADV (DIG T) n (TS T n i0) = ADV (DIG T) n (TS T n i0 + i) → σi 1 0 7 = min 1000 (NM T (TS T n i0) i) → 0 ≤ NM T (TS T n i0) i → (∀ x : Int, TS T n i0 ≤ x ∧ x < TS T n i0 + i → DIG T x) → V yX3_advance cX3_advance 1 none d (QZ (fun σ' => TOK σ' T n i0 ∧ OffT σ σ')) 166 [some (vR 1 0)] [] σi) ?_ ?_
    · generalize hi9 : (n - TS T n i0).toNat = i
      intro σi hOi hki hsi hbe hte hva hnn hdg
      have hRi := hOi.rdf hR
      have hbb : TS T n i0 + (i : Int) < n → BYA T n (TS T n i0 + i) = T (TS T n i0 + i) % 256 := fun q => BYA_at ⟨by omega, q⟩
      have htt : TS T n i0 + (i : Int) < n → -128 ≤ T (TS T n i0 + i) ∧ T (TS T n i0 + i) ≤ 127 := fun q => (hR.2.2 _ ⟨by omega, q⟩).2
      have hbi := BYA_in (T := T) (n := n) (x := TS T n i0 + i)
      refine V_aload_0 (pc := 166) dX3_advance_166 ?_
      refine V_geti (pc := 167) dX3_advance_167 gf_X3_31 (by omega) (v := TS T n i0 + i) (by first | exact hbe | (simp [setI_at, hbe]; done)) ?_
      refine V_aload_0 (pc := 170) dX3_advance_170 ?_
      refine V_geti (pc := 171) dX3_advance_171 gf_X3_15 (by omega) hRi.1 ?_
      refine V_icmp_ge (pc := 174) 265 dX3_advance_174 (by decide) (by omega) (by omega) (fun c_174 => ?_) (fun c_174 => ?_)
      · refine V_vret (pc := 265) dX3_advance_265 rfl ?_
        have h9 : TE T n i0 = TS T n i0 + i := by rw [TE_2 hk, hte, ADV_ge (by omega)]
        exact ⟨rfl, ⟨by rw [hk]; exact hki, hsi, by rw [h9]; exact hbe, fun q => by rw [hva]; unfold TV; rw [h9, show (TS T n i0 + (i : Int) - TS T n i0).toNat = i by omega]⟩, hOi⟩
      · exact absurd c_174 (by omega)
    · intro i hi2 ih σi hOi hki hsi hbe hte hva hnn hdg
      have hRi := hOi.rdf hR
      have hbb : TS T n i0 + (i : Int) < n → BYA T n (TS T n i0 + i) = T (TS T n i0 + i) % 256 := fun q => BYA_at ⟨by omega, q⟩
      have htt : TS T n i0 + (i : Int) < n → -128 ≤ T (TS T n i0 + i) ∧ T (TS T n i0 + i) ≤ 127 := fun q => (hR.2.2 _ ⟨by omega, q⟩).2
      have hbi := BYA_in (T := T) (n := n) (x := TS T n i0 + i)
      refine V_aload_0 (pc := 166) dX3_advance_166 ?_
      refine V_geti (pc := 167) dX3_advance_167 gf_X3_31 (by omega) (v := TS T n i0 + i) (by first | exact hbe | (simp [setI_at, hbe]; done)) ?_
      refine V_aload_0 (pc := 170) dX3_advance_170 ?_
      refine V_geti (pc := 171) dX3_advance_171 gf_X3_15 (by omega) hRi.1 ?_
      refine V_icmp_ge (pc := 174) 265 dX3_advance_174 (by decide) (by omega) (by omega) (fun c_174 => ?_) (fun c_174 => ?_)
      · exact absurd c_174 (by omega)
      · refine V_aload_0 (pc := 177) dX3_advance_177 ?_
        refine V_aload_0 (pc := 178) dX3_advance_178 ?_
        refine V_geti (pc := 179) dX3_advance_179 gf_X3_31 (by omega) (v := TS T n i0 + i) (by first | exact hbe | (simp [setI_at, hbe]; done)) ?_
        refine V_callV1p (pc := 182) dX3_advance_182 kv_X3_135 rc_1 (by omega) (d - 1) (by omega) rfl (c_X3_byteAt (by omega) hRi (by omega)) ?_
        refine V_callS1p (pc := 185) dX3_advance_185 kv_X3_147 (d - 1) (by omega) rfl (c_X3_isDigit (by omega) (by omega)) ?_
        refine V_if_eq_b (pc := 188) 265 dX3_advance_188 (by decide) (fun c_188 => ?_) (fun c_188 => ?_)
        · refine V_vret (pc := 265) dX3_advance_265 rfl ?_
          have h9 : TE T n i0 = TS T n i0 + i := by rw [TE_2 hk, hte, ADV_no (by omega)]
          exact ⟨rfl, ⟨by rw [hk]; exact hki, hsi, by rw [h9]; exact hbe, fun q => by rw [hva]; unfold TV; rw [h9, show (TS T n i0 + (i : Int) - TS T n i0).toNat = i by omega]⟩, hOi⟩
        · refine V_aload_0 (pc := 191) dX3_advance_191 ?_
          refine V_sipush (pc := 192) dX3_advance_192 (by decide) ?_
          refine V_aload_0 (pc := 195) dX3_advance_195 ?_
          refine V_geti (pc := 196) dX3_advance_196 gf_X3_34 (by omega) (v := min 1000 (NM T (TS T n i0) i)) (by first | exact hva | (simp [setI_at, hva]; done)) ?_
          refine V_bipush (pc := 199) dX3_advance_199 (by decide) ?_
          refine V_imul (pc := 201) dX3_advance_201 ?_
          refine V_aload_0 (pc := 202) dX3_advance_202 ?_
          refine V_aload_0 (pc := 203) dX3_advance_203 ?_
          refine V_geti (pc := 204) dX3_advance_204 gf_X3_31 (by omega) (v := TS T n i0 + i) (by first | exact hbe | (simp [setI_at, hbe]; done)) ?_
          refine V_callV1p (pc := 207) dX3_advance_207 kv_X3_135 rc_1 (by omega) (d - 1) (by omega) rfl (c_X3_byteAt (by omega) hRi (by omega)) ?_
          refine V_iadd (pc := 210) dX3_advance_210 ?_
          refine V_bipush (pc := 211) dX3_advance_211 (by decide) ?_
          refine V_isub (pc := 213) dX3_advance_213 ?_
          refine V_mmin (pc := 214) dX3_advance_214 mth_min_X3_150 (by omega) (by omega) (by omega) ?_
          refine V_puti (pc := 217) dX3_advance_217 gf_X3_34 (by omega) ?_
          refine V_aload_0 (pc := 220) dX3_advance_220 ?_
          refine V_dup (pc := 221) dX3_advance_221 rfl ?_
          refine V_geti (pc := 222) dX3_advance_222 gf_X3_31 (by omega) (v := TS T n i0 + i) (by first | exact hbe | (simp [setI_at, hbe]; done)) ?_
          refine V_iconst (pc := 225) dX3_advance_225 ?_
          refine V_iadd (pc := 226) dX3_advance_226 ?_
          refine V_puti (pc := 227) dX3_advance_227 gf_X3_31 (by omega) ?_
          refine V_goto (pc := 230) 166 dX3_advance_230 (by decide) ?_
          have hN := NM_S T (TS T n i0) i
          refine ih _ ((hOi.tr (OffT.set (by omega))).tr (OffT.set (by omega))) (by simp [setI_at]; exact hki) (by simp [setI_at]; exact hsi) (by simp [setI_at]; omega) ?_ (by simp [setI_at]; omega) (by have := NM_in (T := T) (s := TS T n i0) (k := i + 1) (fun x hx => by by_cases q : x = TS T n i0 + i; (subst q; omega); exact hdg x (by omega)); exact this) (fun x hx => by by_cases q : x = TS T n i0 + i; (subst q; omega); exact hdg x (by omega))
          rw [hte, show TS T n i0 + ((i + 1 : Nat) : Int) = TS T n i0 + i + 1 by omega]
          exact ADV_yes (by omega) (by omega)
  have mid : ∀ σi, OffT σ σi → σi 1 0 5 = TS T n i0 → V yX3_advance cX3_advance 1 none d (QZ (fun σ' => TOK σ' T n i0 ∧ OffT σ σ')) 58 [some (vR 1 0)] [] σi := by
    intro σi hOi hst
    have hRi := hOi.rdf hR
    have hbb : TS T n i0 < n → BYA T n (TS T n i0) = T (TS T n i0) % 256 := fun q => BYA_at ⟨by omega, q⟩
    have htt : TS T n i0 < n → -128 ≤ T (TS T n i0) ∧ T (TS T n i0) ≤ 127 := fun q => (hR.2.2 _ ⟨by omega, q⟩).2
    have hbi := BYA_in (T := T) (n := n) (x := TS T n i0)
    refine V_aload_0 (pc := 58) dX3_advance_58 ?_
    refine V_aload_0 (pc := 59) dX3_advance_59 ?_
    refine V_geti (pc := 60) dX3_advance_60 gf_X3_28 (by omega) (v := TS T n i0) (by first | exact hst | (simp [setI_at, hst]; done)) ?_
    refine V_puti (pc := 63) dX3_advance_63 gf_X3_31 (by omega) ?_
    refine V_aload_0 (pc := 66) dX3_advance_66 ?_
    refine V_geti (pc := 67) dX3_advance_67 gf_X3_28 (by omega) (v := TS T n i0) (by first | exact hst | (simp [setI_at, hst]; done)) ?_
    refine V_aload_0 (pc := 70) dX3_advance_70 ?_
    refine V_geti (pc := 71) dX3_advance_71 gf_X3_15 (by omega) (v := n) (by first | exact hRi.1 | (simp [setI_at, hRi.1]; done)) ?_
    refine V_icmp_lt (pc := 74) 85 dX3_advance_74 (by decide) (by omega) (by omega) (fun c_74 => ?_) (fun c_74 => ?_)
    · refine V_aload_0 (pc := 85) dX3_advance_85 ?_
      refine V_aload_0 (pc := 86) dX3_advance_86 ?_
      refine V_geti (pc := 87) dX3_advance_87 gf_X3_28 (by omega) (v := TS T n i0) (by first | exact hst | (simp [setI_at, hst]; done)) ?_
      refine V_callV1p (pc := 90) dX3_advance_90 kv_X3_135 rc_1 (by omega) (d - 1) (by omega) rfl (c_X3_byteAt (by omega) ((OffT.set (by omega)).rdf hRi) (by omega)) ?_
      refine V_callS1p (pc := 93) dX3_advance_93 kv_X3_143 (d - 1) (by omega) rfl (c_X3_isLetter (by omega) (by omega)) ?_
      refine V_if_eq_b (pc := 96) 142 dX3_advance_96 (by decide) (fun c_96 => ?_) (fun c_96 => ?_)
      · refine V_aload_0 (pc := 142) dX3_advance_142 ?_
        refine V_aload_0 (pc := 143) dX3_advance_143 ?_
        refine V_geti (pc := 144) dX3_advance_144 gf_X3_28 (by omega) (v := TS T n i0) (by first | exact hst | (simp [setI_at, hst]; done)) ?_
        refine V_callV1p (pc := 147) dX3_advance_147 kv_X3_135 rc_1 (by omega) (d - 1) (by omega) rfl (c_X3_byteAt (by omega) ((OffT.set (by omega)).rdf hRi) (by omega)) ?_
        refine V_callS1p (pc := 150) dX3_advance_150 kv_X3_147 (d - 1) (by omega) rfl (c_X3_isDigit (by omega) (by omega)) ?_
        refine V_if_eq_b (pc := 153) 233 dX3_advance_153 (by decide) (fun c_153 => ?_) (fun c_153 => ?_)
        · refine V_aload_0 (pc := 233) dX3_advance_233 ?_
          refine V_aload_0 (pc := 234) dX3_advance_234 ?_
          refine V_aload_0 (pc := 235) dX3_advance_235 ?_
          refine V_geti (pc := 236) dX3_advance_236 gf_X3_28 (by omega) (v := TS T n i0) (by first | exact hst | (simp [setI_at, hst]; done)) ?_
          refine V_callV1p (pc := 239) dX3_advance_239 kv_X3_135 rc_1 (by omega) (d - 1) (by omega) rfl (c_X3_byteAt (by omega) ((OffT.set (by omega)).rdf hRi) (by omega)) ?_
          refine V_bipush (pc := 242) dX3_advance_242 (by decide) ?_
          refine V_icmp_ne (pc := 244) 251 dX3_advance_244 (by decide) (by omega) (by omega) (fun c_244 => ?_) (fun c_244 => ?_)
          · refine V_iconst (pc := 251) dX3_advance_251 ?_
            refine V_puti (pc := 252) dX3_advance_252 gf_X3_25 (by omega) ?_
            refine V_aload_0 (pc := 255) dX3_advance_255 ?_
            refine V_aload_0 (pc := 256) dX3_advance_256 ?_
            refine V_geti (pc := 257) dX3_advance_257 gf_X3_28 (by omega) (v := TS T n i0) (by first | exact hst | (simp [setI_at, hst]; done)) ?_
            refine V_iconst (pc := 260) dX3_advance_260 ?_
            refine V_iadd (pc := 261) dX3_advance_261 ?_
            refine V_puti (pc := 262) dX3_advance_262 gf_X3_31 (by omega) ?_
            have hk : TK T n i0 = 4 := TK_4 (by omega) (by omega) (by omega) (by omega)
            refine V_vret (pc := 265) dX3_advance_265 rfl ?_
            refine ⟨rfl, ⟨by simp [setI_at]; omega, by simp [setI_at]; exact hst, by rw [TE_3 (by omega)]; simp [setI_at, hst], fun q => by omega⟩, ?_⟩
            exact ((hOi.tr (OffT.set (by omega))).tr (OffT.set (by omega))).tr (OffT.set (by omega))
          · refine V_iconst (pc := 247) dX3_advance_247 ?_
            refine V_goto (pc := 248) 252 dX3_advance_248 (by decide) ?_
            refine V_puti (pc := 252) dX3_advance_252 gf_X3_25 (by omega) ?_
            refine V_aload_0 (pc := 255) dX3_advance_255 ?_
            refine V_aload_0 (pc := 256) dX3_advance_256 ?_
            refine V_geti (pc := 257) dX3_advance_257 gf_X3_28 (by omega) (v := TS T n i0) (by first | exact hst | (simp [setI_at, hst]; done)) ?_
            refine V_iconst (pc := 260) dX3_advance_260 ?_
            refine V_iadd (pc := 261) dX3_advance_261 ?_
            refine V_puti (pc := 262) dX3_advance_262 gf_X3_31 (by omega) ?_
            have hk : TK T n i0 = 3 := TK_3.mpr ⟨by omega, by omega⟩
            refine V_vret (pc := 265) dX3_advance_265 rfl ?_
            refine ⟨rfl, ⟨by simp [setI_at]; omega, by simp [setI_at]; exact hst, by rw [TE_3 (by omega)]; simp [setI_at, hst], fun q => by omega⟩, ?_⟩
            exact ((hOi.tr (OffT.set (by omega))).tr (OffT.set (by omega))).tr (OffT.set (by omega))
        · refine V_aload_0 (pc := 156) dX3_advance_156 ?_
          refine V_iconst (pc := 157) dX3_advance_157 ?_
          refine V_puti (pc := 158) dX3_advance_158 gf_X3_25 (by omega) ?_
          refine V_aload_0 (pc := 161) dX3_advance_161 ?_
          refine V_iconst (pc := 162) dX3_advance_162 ?_
          refine V_puti (pc := 163) dX3_advance_163 gf_X3_34 (by omega) ?_
          have hk : TK T n i0 = 2 := TK_2.mpr ⟨by omega, by omega⟩
          exact numb hk 0 (by omega) _ (((hOi.tr (OffT.set (by omega))).tr (OffT.set (by omega))).tr (OffT.set (by omega))) (by simp [setI_at]) (by simp [setI_at, hst]) (by simp [setI_at]) (by simp) (by simp [setI_at]; rfl) (Int.le_refl 0) (fun x hx => by omega)
      · refine V_aload_0 (pc := 99) dX3_advance_99 ?_
        refine V_iconst (pc := 100) dX3_advance_100 ?_
        refine V_puti (pc := 101) dX3_advance_101 gf_X3_25 (by omega) ?_
        have hk : TK T n i0 = 1 := TK_1.mpr ⟨by omega, by omega⟩
        exact word hk 0 (by omega) _ ((hOi.tr (OffT.set (by omega))).tr (OffT.set (by omega))) (by simp [setI_at]) (by simp [setI_at, hst]) (by simp [setI_at]) (by simp)
    · refine V_aload_0 (pc := 77) dX3_advance_77 ?_
      refine V_iconst (pc := 78) dX3_advance_78 ?_
      refine V_puti (pc := 79) dX3_advance_79 gf_X3_25 (by omega) ?_
      refine V_goto (pc := 82) 265 dX3_advance_82 (by decide) ?_
      have hk : TK T n i0 = 0 := TK_0.mpr (by omega)
      refine V_vret (pc := 265) dX3_advance_265 rfl ?_
      refine ⟨rfl, ⟨by simp [setI_at]; omega, by simp [setI_at]; exact hst, by rw [TE_0 hk]; simp [setI_at, hst], fun q => by omega⟩, ?_⟩
      exact (hOi.tr (OffT.set (by omega))).tr (OffT.set (by omega))
  have blank : ∀ i : Nat, i ≤ (n - i0).toNat →  ∀ σi, OffT σ σi → σi 1 0 5 = i0 + i → TS T n i0 = TS T n (i0 + i) → V yX3_advance cX3_advance 1 none d (QZ (fun σ' => TOK σ' T n i0 ∧ OffT σ σ')) 8 [some (vR 1 0)] [] σi := by
    refine up_ind (P := fun i : Nat => ∀ σi, OffT σ σi → σi 1 0 5 = i0 + i → TS T n i0 = TS T n (i0 + i) → V yX3_advance cX3_advance 1 none d (QZ (fun σ' => TOK σ' T n i0 ∧ OffT σ σ')) 8 [some (vR 1 0)] [] σi) ?_ ?_
    · generalize hi9 : (n - i0).toNat = i
      intro σi hOi hst hts
      have hRi := hOi.rdf hR
      have hbb : i0 + (i : Int) < n → BYA T n (i0 + i) = T (i0 + i) % 256 := fun q => BYA_at ⟨by omega, q⟩
      have htt : i0 + (i : Int) < n → -128 ≤ T (i0 + i) ∧ T (i0 + i) ≤ 127 := fun q => (hR.2.2 _ ⟨by omega, q⟩).2
      have hbi := BYA_in (T := T) (n := n) (x := i0 + i)
      refine V_aload_0 (pc := 8) dX3_advance_8 ?_
      refine V_geti (pc := 9) dX3_advance_9 gf_X3_28 (by omega) (v := i0 + i) (by first | exact hst | (simp [setI_at, hst]; done)) ?_
      refine V_aload_0 (pc := 12) dX3_advance_12 ?_
      refine V_geti (pc := 13) dX3_advance_13 gf_X3_15 (by omega) hRi.1 ?_
      refine V_icmp_ge (pc := 16) 58 dX3_advance_16 (by decide) (by omega) (by omega) (fun c_16 => ?_) (fun c_16 => ?_)
      · exact mid σi hOi (by rw [hts, show TS T n (i0 + i) = i0 + i from ADV_ge (by omega)]; exact hst)
      · exact absurd c_16 (by omega)
    · intro i hi2 ih σi hOi hst hts
      have hRi := hOi.rdf hR
      have hbb : i0 + (i : Int) < n → BYA T n (i0 + i) = T (i0 + i) % 256 := fun q => BYA_at ⟨by omega, q⟩
      have htt : i0 + (i : Int) < n → -128 ≤ T (i0 + i) ∧ T (i0 + i) ≤ 127 := fun q => (hR.2.2 _ ⟨by omega, q⟩).2
      have hbi := BYA_in (T := T) (n := n) (x := i0 + i)
      refine V_aload_0 (pc := 8) dX3_advance_8 ?_
      refine V_geti (pc := 9) dX3_advance_9 gf_X3_28 (by omega) (v := i0 + i) (by first | exact hst | (simp [setI_at, hst]; done)) ?_
      refine V_aload_0 (pc := 12) dX3_advance_12 ?_
      refine V_geti (pc := 13) dX3_advance_13 gf_X3_15 (by omega) hRi.1 ?_
      refine V_icmp_ge (pc := 16) 58 dX3_advance_16 (by decide) (by omega) (by omega) (fun c_16 => ?_) (fun c_16 => ?_)
      · exact absurd c_16 (by omega)
      · refine V_aload_0 (pc := 19) dX3_advance_19 ?_
        refine V_aload_0 (pc := 20) dX3_advance_20 ?_
        refine V_geti (pc := 21) dX3_advance_21 gf_X3_28 (by omega) (v := i0 + i) (by first | exact hst | (simp [setI_at, hst]; done)) ?_
        refine V_callV1p (pc := 24) dX3_advance_24 kv_X3_135 rc_1 (by omega) (d - 1) (by omega) rfl (c_X3_byteAt (by omega) hRi (by omega)) ?_
        refine V_bipush (pc := 27) dX3_advance_27 (by decide) ?_
        refine V_icmp_eq (pc := 29) 45 dX3_advance_29 (by decide) (by omega) (by omega) (fun c_29 => ?_) (fun c_29 => ?_)
        · refine V_aload_0 (pc := 45) dX3_advance_45 ?_
          refine V_dup (pc := 46) dX3_advance_46 rfl ?_
          refine V_geti (pc := 47) dX3_advance_47 gf_X3_28 (by omega) (v := i0 + i) (by first | exact hst | (simp [setI_at, hst]; done)) ?_
          refine V_iconst (pc := 50) dX3_advance_50 ?_
          refine V_iadd (pc := 51) dX3_advance_51 ?_
          refine V_puti (pc := 52) dX3_advance_52 gf_X3_28 (by omega) ?_
          refine V_goto (pc := 55) 8 dX3_advance_55 (by decide) ?_
          refine ih _ (hOi.tr (OffT.set (by omega))) (by simp [setI_at]; omega) ?_
          rw [hts, show i0 + ((i + 1 : Nat) : Int) = i0 + i + 1 by omega]
          exact ADV_yes (by omega) (by omega)
        · refine V_aload_0 (pc := 32) dX3_advance_32 ?_
          refine V_aload_0 (pc := 33) dX3_advance_33 ?_
          refine V_geti (pc := 34) dX3_advance_34 gf_X3_28 (by omega) (v := i0 + i) (by first | exact hst | (simp [setI_at, hst]; done)) ?_
          refine V_callV1p (pc := 37) dX3_advance_37 kv_X3_135 rc_1 (by omega) (d - 1) (by omega) rfl (c_X3_byteAt (by omega) hRi (by omega)) ?_
          refine V_bipush (pc := 40) dX3_advance_40 (by decide) ?_
          refine V_icmp_ne (pc := 42) 58 dX3_advance_42 (by decide) (by omega) (by omega) (fun c_42 => ?_) (fun c_42 => ?_)
          · exact mid σi hOi (by rw [hts, show TS T n (i0 + i) = i0 + i from ADV_no (by omega)]; exact hst)
          · refine V_aload_0 (pc := 45) dX3_advance_45 ?_
            refine V_dup (pc := 46) dX3_advance_46 rfl ?_
            refine V_geti (pc := 47) dX3_advance_47 gf_X3_28 (by omega) (v := i0 + i) (by first | exact hst | (simp [setI_at, hst]; done)) ?_
            refine V_iconst (pc := 50) dX3_advance_50 ?_
            refine V_iadd (pc := 51) dX3_advance_51 ?_
            refine V_puti (pc := 52) dX3_advance_52 gf_X3_28 (by omega) ?_
            refine V_goto (pc := 55) 8 dX3_advance_55 (by decide) ?_
            refine ih _ (hOi.tr (OffT.set (by omega))) (by simp [setI_at]; omega) ?_
            rw [hts, show i0 + ((i + 1 : Nat) : Int) = i0 + i + 1 by omega]
            exact ADV_yes (by omega) (by omega)
  refine V_aload_0 (pc := 0) dX3_advance_0 ?_
  refine V_aload_0 (pc := 1) dX3_advance_1 ?_
  refine V_geti (pc := 2) dX3_advance_2 gf_X3_31 (by omega) h6 ?_
  refine V_puti (pc := 5) dX3_advance_5 gf_X3_28 (by omega) ?_
  exact blank 0 (by omega) _ (OffT.set (by omega)) (by simp [setI_at]) (by simp)
