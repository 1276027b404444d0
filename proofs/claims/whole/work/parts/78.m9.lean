/-! THE REFERENCE copies, keeps, moves -/
def CPR (t : Nat) (n f g : Int) (σ σ' : MM) : Prop := (∀ i : Int, 0 ≤ i ∧ i < n → σ' t 0 (n * g + i) = σ t 0 (n * f + i)) ∧ ∀ (t' : Nat) (k z : Int), ¬ (t' = t ∧ n * g ≤ z ∧ z < n * g + n) → σ' t' k z = σ t' k z
theorem CPR.at {t : Nat} {n f g : Int} {σ σ' : MM} (h : CPR t n f g σ σ') {x y : Int} (hx : 0 ≤ x - n * g ∧ x - n * g < n) (hy : y - n * f = x - n * g) : σ' t 0 x = σ t 0 y := by
  have := h.1 (x - n * g) hx
  rw [show n * g + (x - n * g) = x by omega, show n * f + (x - n * g) = y by omega] at this
  exact this
theorem CPR.ne {t : Nat} {n f g : Int} {σ σ' : MM} (h : CPR t n f g σ σ') {t' : Nat} (ht : t' ≠ t) : σ' t' = σ t' := by funext k z; exact h.2 t' k z (fun q => ht q.1)
theorem CPB {σ0 σ1 σ2 σ3 σ4 σ5 σ6 : MM} {f g : Int} (h40 : CPR 40 1 f g σ0 σ1) (h41 : CPR 41 7 f g σ1 σ2) (h42 : CPR 42 12 f g σ2 σ3) (h43 : CPR 43 4 f g σ3 σ4) (h44 : CPR 44 28 f g σ4 σ5) (h45 : CPR 45 120 f g σ5 σ6) : (∀ B : BK, GB B → MB σ0 f B → MB σ6 g B) ∧ OffM g σ0 σ6 := by
  have e40 : σ6 40 = σ1 40 := by rw [h45.ne (by decide), h44.ne (by decide), h43.ne (by decide), h42.ne (by decide), h41.ne (by decide)]
  have e41 : σ6 41 = σ2 41 := by rw [h45.ne (by decide), h44.ne (by decide), h43.ne (by decide), h42.ne (by decide)]
  have e42 : σ6 42 = σ3 42 := by rw [h45.ne (by decide), h44.ne (by decide), h43.ne (by decide)]
  have e43 : σ6 43 = σ4 43 := by rw [h45.ne (by decide), h44.ne (by decide)]
  have e44 : σ6 44 = σ5 44 := by rw [h45.ne (by decide)]
  have g41 : σ1 41 = σ0 41 := h40.ne (by decide)
  have g42 : σ2 42 = σ0 42 := by rw [h41.ne (by decide), h40.ne (by decide)]
  have g43 : σ3 43 = σ0 43 := by rw [h42.ne (by decide), h41.ne (by decide), h40.ne (by decide)]
  have g44 : σ4 44 = σ0 44 := by rw [h43.ne (by decide), h42.ne (by decide), h41.ne (by decide), h40.ne (by decide)]
  have g45 : σ5 45 = σ0 45 := by rw [h44.ne (by decide), h43.ne (by decide), h42.ne (by decide), h41.ne (by decide), h40.ne (by decide)]
  refine ⟨fun B hG hM => ?_, fun t k z a b => ?_⟩
  · have hs := hG.w.s
    have h30 := hG.2.2.1
    obtain ⟨m0, m1, m2, m3, m4⟩ := hM
    rw [← g41] at m0; rw [← g42] at m1; rw [← g43] at m2; rw [← g44] at m3; rw [← g45] at m4
    refine ⟨?_, fun i hi => ?_, fun i hi => ?_, fun i hi => ?_, fun i hi => ?_⟩
    · rw [e40, e41]
      exact ⟨(h40.at (by omega) (by omega)).trans m0.1, (h41.at (by omega) (by omega)).trans m0.2.1, (h41.at (by omega) (by omega)).trans m0.2.2.1, (h41.at (by omega) (by omega)).trans m0.2.2.2.1, (h41.at (by omega) (by omega)).trans m0.2.2.2.2.1, (h41.at (by omega) (by omega)).trans m0.2.2.2.2.2.1, (h41.at (by omega) (by omega)).trans m0.2.2.2.2.2.2.1, (h41.at (by omega) (by omega)).trans m0.2.2.2.2.2.2.2⟩
    · have := m1 i hi
      rw [e42]
      exact ⟨(h42.at (by omega) (by omega)).trans this.1, (h42.at (by omega) (by omega)).trans this.2.1, (h42.at (by omega) (by omega)).trans this.2.2⟩
    · rw [e43]
      exact (h43.at (by omega) (by omega)).trans (m2 i hi)
    · have := m3 i hi
      rw [e44]
      exact ⟨(h44.at (by omega) (by omega)).trans this.1, (h44.at (by omega) (by omega)).trans this.2.1, (h44.at (by omega) (by omega)).trans this.2.2.1, (h44.at (by omega) (by omega)).trans this.2.2.2⟩
    · have := m4 i hi
      exact ⟨(h45.at (by omega) (by omega)).trans this.1, (h45.at (by omega) (by omega)).trans this.2.1, fun q => (h45.at (by omega) (by omega)).trans (this.2.2.1 q), (h45.at (by omega) (by omega)).trans this.2.2.2⟩
  · rw [h45.2 t k z (by unfold ISL at b; omega), h44.2 t k z (by unfold ISL at b; omega), h43.2 t k z (by unfold ISL at b; omega), h42.2 t k z (by unfold ISL at b; omega), h41.2 t k z (by unfold ISL at b; omega), h40.2 t k z (by unfold ISL at b; omega)]
/-- slots alone change -/
theorem MRl.newz {σ σ' : MM} {X : CST} {Z : RW} (hX : MRl σ X) (h : ∀ (t : Nat) (k z : Int), ¬ (35 ≤ t ∧ t ≤ 38) → ¬ SCM t z → σ' t k z = σ t k z) (hZ : MZ σ' Z) : MRl σ' (NEWZ X Z) ∧ FM σ σ' := by
  obtain ⟨hM, _, hT, hF, hI⟩ := hX
  have e : ∀ t : Nat, 39 ≤ t ∧ t ≤ 46 → σ' t = σ t := fun t q => by funext k z; exact h t k z (by omega) (by unfold SCM; omega)
  have e3 : ∀ z : Int, z = 6 ∨ z = 14 ∨ z = 15 → σ' 34 0 z = σ 34 0 z := fun z q => h 34 0 z (by omega) (by unfold SCM; omega)
  refine ⟨⟨hM.cong (fun t q => e t (by omega)), hZ, ?_, ?_, fun k hk => ?_⟩, fun t q => by funext k z; exact h t k z (by omega) (by unfold SCM; omega)⟩
  · rw [e3 6 (by omega), e 39 (by omega)]; exact hT
  · rw [e3 14 (by omega), e3 15 (by omega)]; exact hF
  · rw [e 46 (by omega)]
    exact ⟨(hI k hk).1, fun q => ((hI k hk).2 q).cong (fun t q => e t (by omega))⟩
/-- an image kept -/
theorem MRl.img {σ σ1 : MM} {X : CST} {k : Int} (hX : MRl σ X) (hO : XOK X) (hk : 0 ≤ k ∧ k < 3) (h : OffM (1 + k) σ σ1) (hB : MB σ1 (1 + k) X.B) : MRl (setI σ1 46 0 k 1) (X.B, X.Z, X.T, (X.n, X.fk, X.fp), (fun j => if j = k then X.B else X.I j), (fun j => if j = k then 1 else X.K j)) := by
  obtain ⟨hM, hZ, hT, hF, hI⟩ := hX
  have e : ∀ z : Int, z = 6 ∨ z = 14 ∨ z = 15 → σ1 34 0 z = σ 34 0 z := fun z q => h 34 0 z (by unfold SCM; omega) (by unfold ISL; omega)
  have c : ∀ {s : Int} {B : BK}, MB σ1 s B → MB (setI σ1 46 0 k 1) s B := fun hb => hb.cong (fun t q => setI_tag (by omega))
  refine ⟨c (h.mb hM hO.1 (by omega)), hZ.cong (by rw [setI_tag (by decide), h.tag (by omega)]) (by rw [setI_tag (by decide), h.tag (by omega)]) (by rw [setI_tag (by decide), h.tag (by omega)]), ?_, ?_, fun j hj => ?_⟩
  · show setI σ1 46 0 k 1 34 0 6 = X.n ∧ ∀ x : Int, 0 ≤ x ∧ x < X.n → setI σ1 46 0 k 1 39 0 x = X.T x
    rw [setI_tag (by decide), setI_tag (by decide), e 6 (by omega), h.tag (t := 39) (by omega)]; exact hT
  · show setI σ1 46 0 k 1 34 0 14 = X.fk ∧ setI σ1 46 0 k 1 34 0 15 = X.fp
    rw [setI_tag (by decide), e 14 (by omega), e 15 (by omega)]; exact hF
  · show setI σ1 46 0 k 1 46 0 j = (if j = k then 1 else X.K j) ∧ ((if j = k then 1 else X.K j) = 1 → MB (setI σ1 46 0 k 1) (1 + j) (if j = k then X.B else X.I j))
    by_cases q : j = k
    · subst q
      rw [if_pos rfl, if_pos rfl, setI_same]
      exact ⟨rfl, fun _ => c hB⟩
    · rw [if_neg q, if_neg q, setI_x q, h.tag (t := 46) (by omega)]
      refine ⟨(hI j hj).1, fun r => c ?_⟩
      rcases hO.2.2.2 j hj with a | a
      · omega
      · exact h.mb ((hI j hj).2 r) a.2 (by omega)

set_option maxRecDepth 20000 in
set_option maxHeartbeats 1000000 in
theorem c_copyRow_40 {d : Nat} (hd : 0 ≤ d) {σ : MM} {f g : Int} (hf : 0 ≤ f ∧ f ≤ 4) (hg : 0 ≤ g ∧ g ≤ 4) (hfg : f ≠ g) : V yX6_copyRow cX6_copyRow 5 none d (QZ (fun σ' => CPR 40 1 f g σ σ')) 0 [some (vR 40 0), some (vI 1), some (vI f), some (vI g), none] [] σ := by
  have loop : ∀ i : Nat, i ≤ 1 → ∀ σi : MM, ((∀ x : Int, 0 ≤ x ∧ x < (i : Int) → σi 40 0 (1 * g + x) = σ 40 0 (1 * f + x)) ∧ ∀ (t' : Nat) (k z : Int), ¬ (t' = 40 ∧ 1 * g ≤ z ∧ z < 1 * g + (i : Int)) → σi t' k z = σ t' k z) → V yX6_copyRow cX6_copyRow 5 none d (QZ (fun σ' => CPR 40 1 f g σ σ')) 3 [some (vR 40 0), some (vI 1), some (vI f), some (vI g), some (vI (i : Int))] [] σi := by
    refine up_ind (P := fun i : Nat => ∀ σi : MM, ((∀ x : Int, 0 ≤ x ∧ x < (i : Int) → σi 40 0 (1 * g + x) = σ 40 0 (1 * f + x)) ∧ ∀ (t' : Nat) (k z : Int), ¬ (t' = 40 ∧ 1 * g ≤ z ∧ z < 1 * g + (i : Int)) → σi t' k z = σ t' k z) → V yX6_copyRow cX6_copyRow 5 none d (QZ (fun σ' => CPR 40 1 f g σ σ')) 3 [some (vR 40 0), some (vI 1), some (vI f), some (vI g), some (vI (i : Int))] [] σi) ?_ ?_
    · intro σi hI
      refine V_iload_4 (pc := 3) dX6_copyRow_3 ?_
      refine V_iload_1 (pc := 5) dX6_copyRow_5 ?_
      refine V_icmp_ge (pc := 6) 31 dX6_copyRow_6 (by decide) (by omega) (by omega) (fun c_6 => ?_) (fun c_6 => ?_)
      · refine V_vret (pc := 31) dX6_copyRow_31 rfl ?_
        exact ⟨rfl, hI⟩
      · exact absurd c_6 (by omega)
    · intro i hi ih σi hI
      refine V_iload_4 (pc := 3) dX6_copyRow_3 ?_
      refine V_iload_1 (pc := 5) dX6_copyRow_5 ?_
      refine V_icmp_ge (pc := 6) 31 dX6_copyRow_6 (by decide) (by omega) (by omega) (fun c_6 => ?_) (fun c_6 => ?_)
      · exact absurd c_6 (by omega)
      · refine V_aload_0 (pc := 9) dX6_copyRow_9 ?_
        refine V_iload_1 (pc := 10) dX6_copyRow_10 ?_
        refine V_iload_3 (pc := 11) dX6_copyRow_11 ?_
        refine V_imul (pc := 12) dX6_copyRow_12 ?_
        refine V_iload_4 (pc := 13) dX6_copyRow_13 ?_
        refine V_iadd (pc := 15) dX6_copyRow_15 ?_
        refine V_aload_0 (pc := 16) dX6_copyRow_16 ?_
        refine V_iload_1 (pc := 17) dX6_copyRow_17 ?_
        refine V_iload_2 (pc := 18) dX6_copyRow_18 ?_
        refine V_imul (pc := 19) dX6_copyRow_19 ?_
        refine V_iload_4 (pc := 20) dX6_copyRow_20 ?_
        refine V_iadd (pc := 22) dX6_copyRow_22 ?_
        refine V_iald (pc := 23) dX6_copyRow_23 sh_40 (by omega) (by omega) (hI.2 40 0 (1 * f + (i : Int)) (by omega)) ?_
        refine V_iast (pc := 24) dX6_copyRow_24 sh_40 (by omega) (by omega) ?_
        refine V_iinc_4 (pc := 25) dX6_copyRow_25 ?_
        refine V_goto (pc := 28) 3 dX6_copyRow_28 (by decide) ?_
        refine V.sub (by simp only [subL, Option.some.injEq, Sum.inl.injEq, reduceCtorEq, true_or, or_true, false_or, true_and, and_true]; omega) (ih _ ⟨fun x hx => ?_, fun t' k z a => ?_⟩)
        · by_cases q : x = i
          · subst q; rw [setI_same]
          · rw [setI_x (by omega)]; exact hI.1 x (by omega)
        · have q : ¬ (t' = 40 ∧ k = 0 ∧ z = 1 * g + (i : Int)) := fun q => a ⟨q.1, by omega⟩
          simp only [setI, q, if_false]
          exact hI.2 t' k z (fun r => a ⟨r.1, by omega⟩)
  refine V_iconst (pc := 0) dX6_copyRow_0 ?_
  refine V_istore_4 (pc := 1) dX6_copyRow_1 ?_
  exact loop 0 (by omega) σ ⟨fun x hx => by omega, fun _ _ _ _ => rfl⟩

set_option maxRecDepth 20000 in
set_option maxHeartbeats 1000000 in
theorem c_copyRow_41 {d : Nat} (hd : 0 ≤ d) {σ : MM} {f g : Int} (hf : 0 ≤ f ∧ f ≤ 4) (hg : 0 ≤ g ∧ g ≤ 4) (hfg : f ≠ g) : V yX6_copyRow cX6_copyRow 5 none d (QZ (fun σ' => CPR 41 7 f g σ σ')) 0 [some (vR 41 0), some (vI 7), some (vI f), some (vI g), none] [] σ := by
  have loop : ∀ i : Nat, i ≤ 7 → ∀ σi : MM, ((∀ x : Int, 0 ≤ x ∧ x < (i : Int) → σi 41 0 (7 * g + x) = σ 41 0 (7 * f + x)) ∧ ∀ (t' : Nat) (k z : Int), ¬ (t' = 41 ∧ 7 * g ≤ z ∧ z < 7 * g + (i : Int)) → σi t' k z = σ t' k z) → V yX6_copyRow cX6_copyRow 5 none d (QZ (fun σ' => CPR 41 7 f g σ σ')) 3 [some (vR 41 0), some (vI 7), some (vI f), some (vI g), some (vI (i : Int))] [] σi := by
    refine up_ind (P := fun i : Nat => ∀ σi : MM, ((∀ x : Int, 0 ≤ x ∧ x < (i : Int) → σi 41 0 (7 * g + x) = σ 41 0 (7 * f + x)) ∧ ∀ (t' : Nat) (k z : Int), ¬ (t' = 41 ∧ 7 * g ≤ z ∧ z < 7 * g + (i : Int)) → σi t' k z = σ t' k z) → V yX6_copyRow cX6_copyRow 5 none d (QZ (fun σ' => CPR 41 7 f g σ σ')) 3 [some (vR 41 0), some (vI 7), some (vI f), some (vI g), some (vI (i : Int))] [] σi) ?_ ?_
    · intro σi hI
      refine V_iload_4 (pc := 3) dX6_copyRow_3 ?_
      refine V_iload_1 (pc := 5) dX6_copyRow_5 ?_
      refine V_icmp_ge (pc := 6) 31 dX6_copyRow_6 (by decide) (by omega) (by omega) (fun c_6 => ?_) (fun c_6 => ?_)
      · refine V_vret (pc := 31) dX6_copyRow_31 rfl ?_
        exact ⟨rfl, hI⟩
      · exact absurd c_6 (by omega)
    · intro i hi ih σi hI
      refine V_iload_4 (pc := 3) dX6_copyRow_3 ?_
      refine V_iload_1 (pc := 5) dX6_copyRow_5 ?_
      refine V_icmp_ge (pc := 6) 31 dX6_copyRow_6 (by decide) (by omega) (by omega) (fun c_6 => ?_) (fun c_6 => ?_)
      · exact absurd c_6 (by omega)
      · refine V_aload_0 (pc := 9) dX6_copyRow_9 ?_
        refine V_iload_1 (pc := 10) dX6_copyRow_10 ?_
        refine V_iload_3 (pc := 11) dX6_copyRow_11 ?_
        refine V_imul (pc := 12) dX6_copyRow_12 ?_
        refine V_iload_4 (pc := 13) dX6_copyRow_13 ?_
        refine V_iadd (pc := 15) dX6_copyRow_15 ?_
        refine V_aload_0 (pc := 16) dX6_copyRow_16 ?_
        refine V_iload_1 (pc := 17) dX6_copyRow_17 ?_
        refine V_iload_2 (pc := 18) dX6_copyRow_18 ?_
        refine V_imul (pc := 19) dX6_copyRow_19 ?_
        refine V_iload_4 (pc := 20) dX6_copyRow_20 ?_
        refine V_iadd (pc := 22) dX6_copyRow_22 ?_
        refine V_iald (pc := 23) dX6_copyRow_23 sh_41 (by omega) (by omega) (hI.2 41 0 (7 * f + (i : Int)) (by omega)) ?_
        refine V_iast (pc := 24) dX6_copyRow_24 sh_41 (by omega) (by omega) ?_
        refine V_iinc_4 (pc := 25) dX6_copyRow_25 ?_
        refine V_goto (pc := 28) 3 dX6_copyRow_28 (by decide) ?_
        refine V.sub (by simp only [subL, Option.some.injEq, Sum.inl.injEq, reduceCtorEq, true_or, or_true, false_or, true_and, and_true]; omega) (ih _ ⟨fun x hx => ?_, fun t' k z a => ?_⟩)
        · by_cases q : x = i
          · subst q; rw [setI_same]
          · rw [setI_x (by omega)]; exact hI.1 x (by omega)
        · have q : ¬ (t' = 41 ∧ k = 0 ∧ z = 7 * g + (i : Int)) := fun q => a ⟨q.1, by omega⟩
          simp only [setI, q, if_false]
          exact hI.2 t' k z (fun r => a ⟨r.1, by omega⟩)
  refine V_iconst (pc := 0) dX6_copyRow_0 ?_
  refine V_istore_4 (pc := 1) dX6_copyRow_1 ?_
  exact loop 0 (by omega) σ ⟨fun x hx => by omega, fun _ _ _ _ => rfl⟩

set_option maxRecDepth 20000 in
set_option maxHeartbeats 1000000 in
theorem c_copyRow_42 {d : Nat} (hd : 0 ≤ d) {σ : MM} {f g : Int} (hf : 0 ≤ f ∧ f ≤ 4) (hg : 0 ≤ g ∧ g ≤ 4) (hfg : f ≠ g) : V yX6_copyRow cX6_copyRow 5 none d (QZ (fun σ' => CPR 42 12 f g σ σ')) 0 [some (vR 42 0), some (vI 12), some (vI f), some (vI g), none] [] σ := by
  have loop : ∀ i : Nat, i ≤ 12 → ∀ σi : MM, ((∀ x : Int, 0 ≤ x ∧ x < (i : Int) → σi 42 0 (12 * g + x) = σ 42 0 (12 * f + x)) ∧ ∀ (t' : Nat) (k z : Int), ¬ (t' = 42 ∧ 12 * g ≤ z ∧ z < 12 * g + (i : Int)) → σi t' k z = σ t' k z) → V yX6_copyRow cX6_copyRow 5 none d (QZ (fun σ' => CPR 42 12 f g σ σ')) 3 [some (vR 42 0), some (vI 12), some (vI f), some (vI g), some (vI (i : Int))] [] σi := by
    refine up_ind (P := fun i : Nat => ∀ σi : MM, ((∀ x : Int, 0 ≤ x ∧ x < (i : Int) → σi 42 0 (12 * g + x) = σ 42 0 (12 * f + x)) ∧ ∀ (t' : Nat) (k z : Int), ¬ (t' = 42 ∧ 12 * g ≤ z ∧ z < 12 * g + (i : Int)) → σi t' k z = σ t' k z) → V yX6_copyRow cX6_copyRow 5 none d (QZ (fun σ' => CPR 42 12 f g σ σ')) 3 [some (vR 42 0), some (vI 12), some (vI f), some (vI g), some (vI (i : Int))] [] σi) ?_ ?_
    · intro σi hI
      refine V_iload_4 (pc := 3) dX6_copyRow_3 ?_
      refine V_iload_1 (pc := 5) dX6_copyRow_5 ?_
      refine V_icmp_ge (pc := 6) 31 dX6_copyRow_6 (by decide) (by omega) (by omega) (fun c_6 => ?_) (fun c_6 => ?_)
      · refine V_vret (pc := 31) dX6_copyRow_31 rfl ?_
        exact ⟨rfl, hI⟩
      · exact absurd c_6 (by omega)
    · intro i hi ih σi hI
      refine V_iload_4 (pc := 3) dX6_copyRow_3 ?_
      refine V_iload_1 (pc := 5) dX6_copyRow_5 ?_
      refine V_icmp_ge (pc := 6) 31 dX6_copyRow_6 (by decide) (by omega) (by omega) (fun c_6 => ?_) (fun c_6 => ?_)
      · exact absurd c_6 (by omega)
      · refine V_aload_0 (pc := 9) dX6_copyRow_9 ?_
        refine V_iload_1 (pc := 10) dX6_copyRow_10 ?_
        refine V_iload_3 (pc := 11) dX6_copyRow_11 ?_
        refine V_imul (pc := 12) dX6_copyRow_12 ?_
        refine V_iload_4 (pc := 13) dX6_copyRow_13 ?_
        refine V_iadd (pc := 15) dX6_copyRow_15 ?_
        refine V_aload_0 (pc := 16) dX6_copyRow_16 ?_
        refine V_iload_1 (pc := 17) dX6_copyRow_17 ?_
        refine V_iload_2 (pc := 18) dX6_copyRow_18 ?_
        refine V_imul (pc := 19) dX6_copyRow_19 ?_
        refine V_iload_4 (pc := 20) dX6_copyRow_20 ?_
        refine V_iadd (pc := 22) dX6_copyRow_22 ?_
        refine V_iald (pc := 23) dX6_copyRow_23 sh_42 (by omega) (by omega) (hI.2 42 0 (12 * f + (i : Int)) (by omega)) ?_
        refine V_iast (pc := 24) dX6_copyRow_24 sh_42 (by omega) (by omega) ?_
        refine V_iinc_4 (pc := 25) dX6_copyRow_25 ?_
        refine V_goto (pc := 28) 3 dX6_copyRow_28 (by decide) ?_
        refine V.sub (by simp only [subL, Option.some.injEq, Sum.inl.injEq, reduceCtorEq, true_or, or_true, false_or, true_and, and_true]; omega) (ih _ ⟨fun x hx => ?_, fun t' k z a => ?_⟩)
        · by_cases q : x = i
          · subst q; rw [setI_same]
          · rw [setI_x (by omega)]; exact hI.1 x (by omega)
        · have q : ¬ (t' = 42 ∧ k = 0 ∧ z = 12 * g + (i : Int)) := fun q => a ⟨q.1, by omega⟩
          simp only [setI, q, if_false]
          exact hI.2 t' k z (fun r => a ⟨r.1, by omega⟩)
  refine V_iconst (pc := 0) dX6_copyRow_0 ?_
  refine V_istore_4 (pc := 1) dX6_copyRow_1 ?_
  exact loop 0 (by omega) σ ⟨fun x hx => by omega, fun _ _ _ _ => rfl⟩

set_option maxRecDepth 20000 in
set_option maxHeartbeats 1000000 in
theorem c_copyRow_43 {d : Nat} (hd : 0 ≤ d) {σ : MM} {f g : Int} (hf : 0 ≤ f ∧ f ≤ 4) (hg : 0 ≤ g ∧ g ≤ 4) (hfg : f ≠ g) : V yX6_copyRow cX6_copyRow 5 none d (QZ (fun σ' => CPR 43 4 f g σ σ')) 0 [some (vR 43 0), some (vI 4), some (vI f), some (vI g), none] [] σ := by
  have loop : ∀ i : Nat, i ≤ 4 → ∀ σi : MM, ((∀ x : Int, 0 ≤ x ∧ x < (i : Int) → σi 43 0 (4 * g + x) = σ 43 0 (4 * f + x)) ∧ ∀ (t' : Nat) (k z : Int), ¬ (t' = 43 ∧ 4 * g ≤ z ∧ z < 4 * g + (i : Int)) → σi t' k z = σ t' k z) → V yX6_copyRow cX6_copyRow 5 none d (QZ (fun σ' => CPR 43 4 f g σ σ')) 3 [some (vR 43 0), some (vI 4), some (vI f), some (vI g), some (vI (i : Int))] [] σi := by
    refine up_ind (P := fun i : Nat => ∀ σi : MM, ((∀ x : Int, 0 ≤ x ∧ x < (i : Int) → σi 43 0 (4 * g + x) = σ 43 0 (4 * f + x)) ∧ ∀ (t' : Nat) (k z : Int), ¬ (t' = 43 ∧ 4 * g ≤ z ∧ z < 4 * g + (i : Int)) → σi t' k z = σ t' k z) → V yX6_copyRow cX6_copyRow 5 none d (QZ (fun σ' => CPR 43 4 f g σ σ')) 3 [some (vR 43 0), some (vI 4), some (vI f), some (vI g), some (vI (i : Int))] [] σi) ?_ ?_
    · intro σi hI
      refine V_iload_4 (pc := 3) dX6_copyRow_3 ?_
      refine V_iload_1 (pc := 5) dX6_copyRow_5 ?_
      refine V_icmp_ge (pc := 6) 31 dX6_copyRow_6 (by decide) (by omega) (by omega) (fun c_6 => ?_) (fun c_6 => ?_)
      · refine V_vret (pc := 31) dX6_copyRow_31 rfl ?_
        exact ⟨rfl, hI⟩
      · exact absurd c_6 (by omega)
    · intro i hi ih σi hI
      refine V_iload_4 (pc := 3) dX6_copyRow_3 ?_
      refine V_iload_1 (pc := 5) dX6_copyRow_5 ?_
      refine V_icmp_ge (pc := 6) 31 dX6_copyRow_6 (by decide) (by omega) (by omega) (fun c_6 => ?_) (fun c_6 => ?_)
      · exact absurd c_6 (by omega)
      · refine V_aload_0 (pc := 9) dX6_copyRow_9 ?_
        refine V_iload_1 (pc := 10) dX6_copyRow_10 ?_
        refine V_iload_3 (pc := 11) dX6_copyRow_11 ?_
        refine V_imul (pc := 12) dX6_copyRow_12 ?_
        refine V_iload_4 (pc := 13) dX6_copyRow_13 ?_
        refine V_iadd (pc := 15) dX6_copyRow_15 ?_
        refine V_aload_0 (pc := 16) dX6_copyRow_16 ?_
        refine V_iload_1 (pc := 17) dX6_copyRow_17 ?_
        refine V_iload_2 (pc := 18) dX6_copyRow_18 ?_
        refine V_imul (pc := 19) dX6_copyRow_19 ?_
        refine V_iload_4 (pc := 20) dX6_copyRow_20 ?_
        refine V_iadd (pc := 22) dX6_copyRow_22 ?_
        refine V_iald (pc := 23) dX6_copyRow_23 sh_43 (by omega) (by omega) (hI.2 43 0 (4 * f + (i : Int)) (by omega)) ?_
        refine V_iast (pc := 24) dX6_copyRow_24 sh_43 (by omega) (by omega) ?_
        refine V_iinc_4 (pc := 25) dX6_copyRow_25 ?_
        refine V_goto (pc := 28) 3 dX6_copyRow_28 (by decide) ?_
        refine V.sub (by simp only [subL, Option.some.injEq, Sum.inl.injEq, reduceCtorEq, true_or, or_true, false_or, true_and, and_true]; omega) (ih _ ⟨fun x hx => ?_, fun t' k z a => ?_⟩)
        · by_cases q : x = i
          · subst q; rw [setI_same]
          · rw [setI_x (by omega)]; exact hI.1 x (by omega)
        · have q : ¬ (t' = 43 ∧ k = 0 ∧ z = 4 * g + (i : Int)) := fun q => a ⟨q.1, by omega⟩
          simp only [setI, q, if_false]
          exact hI.2 t' k z (fun r => a ⟨r.1, by omega⟩)
  refine V_iconst (pc := 0) dX6_copyRow_0 ?_
  refine V_istore_4 (pc := 1) dX6_copyRow_1 ?_
  exact loop 0 (by omega) σ ⟨fun x hx => by omega, fun _ _ _ _ => rfl⟩

set_option maxRecDepth 20000 in
set_option maxHeartbeats 1000000 in
theorem c_copyRow_44 {d : Nat} (hd : 0 ≤ d) {σ : MM} {f g : Int} (hf : 0 ≤ f ∧ f ≤ 4) (hg : 0 ≤ g ∧ g ≤ 4) (hfg : f ≠ g) : V yX6_copyRow cX6_copyRow 5 none d (QZ (fun σ' => CPR 44 28 f g σ σ')) 0 [some (vR 44 0), some (vI 28), some (vI f), some (vI g), none] [] σ := by
  have loop : ∀ i : Nat, i ≤ 28 → ∀ σi : MM, ((∀ x : Int, 0 ≤ x ∧ x < (i : Int) → σi 44 0 (28 * g + x) = σ 44 0 (28 * f + x)) ∧ ∀ (t' : Nat) (k z : Int), ¬ (t' = 44 ∧ 28 * g ≤ z ∧ z < 28 * g + (i : Int)) → σi t' k z = σ t' k z) → V yX6_copyRow cX6_copyRow 5 none d (QZ (fun σ' => CPR 44 28 f g σ σ')) 3 [some (vR 44 0), some (vI 28), some (vI f), some (vI g), some (vI (i : Int))] [] σi := by
    refine up_ind (P := fun i : Nat => ∀ σi : MM, ((∀ x : Int, 0 ≤ x ∧ x < (i : Int) → σi 44 0 (28 * g + x) = σ 44 0 (28 * f + x)) ∧ ∀ (t' : Nat) (k z : Int), ¬ (t' = 44 ∧ 28 * g ≤ z ∧ z < 28 * g + (i : Int)) → σi t' k z = σ t' k z) → V yX6_copyRow cX6_copyRow 5 none d (QZ (fun σ' => CPR 44 28 f g σ σ')) 3 [some (vR 44 0), some (vI 28), some (vI f), some (vI g), some (vI (i : Int))] [] σi) ?_ ?_
    · intro σi hI
      refine V_iload_4 (pc := 3) dX6_copyRow_3 ?_
      refine V_iload_1 (pc := 5) dX6_copyRow_5 ?_
      refine V_icmp_ge (pc := 6) 31 dX6_copyRow_6 (by decide) (by omega) (by omega) (fun c_6 => ?_) (fun c_6 => ?_)
      · refine V_vret (pc := 31) dX6_copyRow_31 rfl ?_
        exact ⟨rfl, hI⟩
      · exact absurd c_6 (by omega)
    · intro i hi ih σi hI
      refine V_iload_4 (pc := 3) dX6_copyRow_3 ?_
      refine V_iload_1 (pc := 5) dX6_copyRow_5 ?_
      refine V_icmp_ge (pc := 6) 31 dX6_copyRow_6 (by decide) (by omega) (by omega) (fun c_6 => ?_) (fun c_6 => ?_)
      · exact absurd c_6 (by omega)
      · refine V_aload_0 (pc := 9) dX6_copyRow_9 ?_
        refine V_iload_1 (pc := 10) dX6_copyRow_10 ?_
        refine V_iload_3 (pc := 11) dX6_copyRow_11 ?_
        refine V_imul (pc := 12) dX6_copyRow_12 ?_
        refine V_iload_4 (pc := 13) dX6_copyRow_13 ?_
        refine V_iadd (pc := 15) dX6_copyRow_15 ?_
        refine V_aload_0 (pc := 16) dX6_copyRow_16 ?_
        refine V_iload_1 (pc := 17) dX6_copyRow_17 ?_
        refine V_iload_2 (pc := 18) dX6_copyRow_18 ?_
        refine V_imul (pc := 19) dX6_copyRow_19 ?_
        refine V_iload_4 (pc := 20) dX6_copyRow_20 ?_
        refine V_iadd (pc := 22) dX6_copyRow_22 ?_
        refine V_iald (pc := 23) dX6_copyRow_23 sh_44 (by omega) (by omega) (hI.2 44 0 (28 * f + (i : Int)) (by omega)) ?_
        refine V_iast (pc := 24) dX6_copyRow_24 sh_44 (by omega) (by omega) ?_
        refine V_iinc_4 (pc := 25) dX6_copyRow_25 ?_
        refine V_goto (pc := 28) 3 dX6_copyRow_28 (by decide) ?_
        refine V.sub (by simp only [subL, Option.some.injEq, Sum.inl.injEq, reduceCtorEq, true_or, or_true, false_or, true_and, and_true]; omega) (ih _ ⟨fun x hx => ?_, fun t' k z a => ?_⟩)
        · by_cases q : x = i
          · subst q; rw [setI_same]
          · rw [setI_x (by omega)]; exact hI.1 x (by omega)
        · have q : ¬ (t' = 44 ∧ k = 0 ∧ z = 28 * g + (i : Int)) := fun q => a ⟨q.1, by omega⟩
          simp only [setI, q, if_false]
          exact hI.2 t' k z (fun r => a ⟨r.1, by omega⟩)
  refine V_iconst (pc := 0) dX6_copyRow_0 ?_
  refine V_istore_4 (pc := 1) dX6_copyRow_1 ?_
  exact loop 0 (by omega) σ ⟨fun x hx => by omega, fun _ _ _ _ => rfl⟩

set_option maxRecDepth 20000 in
set_option maxHeartbeats 1000000 in
theorem c_copyRow_45 {d : Nat} (hd : 0 ≤ d) {σ : MM} {f g : Int} (hf : 0 ≤ f ∧ f ≤ 4) (hg : 0 ≤ g ∧ g ≤ 4) (hfg : f ≠ g) : V yX6_copyRow cX6_copyRow 5 none d (QZ (fun σ' => CPR 45 120 f g σ σ')) 0 [some (vR 45 0), some (vI 120), some (vI f), some (vI g), none] [] σ := by
  have loop : ∀ i : Nat, i ≤ 120 → ∀ σi : MM, ((∀ x : Int, 0 ≤ x ∧ x < (i : Int) → σi 45 0 (120 * g + x) = σ 45 0 (120 * f + x)) ∧ ∀ (t' : Nat) (k z : Int), ¬ (t' = 45 ∧ 120 * g ≤ z ∧ z < 120 * g + (i : Int)) → σi t' k z = σ t' k z) → V yX6_copyRow cX6_copyRow 5 none d (QZ (fun σ' => CPR 45 120 f g σ σ')) 3 [some (vR 45 0), some (vI 120), some (vI f), some (vI g), some (vI (i : Int))] [] σi := by
    refine up_ind (P := fun i : Nat => ∀ σi : MM, ((∀ x : Int, 0 ≤ x ∧ x < (i : Int) → σi 45 0 (120 * g + x) = σ 45 0 (120 * f + x)) ∧ ∀ (t' : Nat) (k z : Int), ¬ (t' = 45 ∧ 120 * g ≤ z ∧ z < 120 * g + (i : Int)) → σi t' k z = σ t' k z) → V yX6_copyRow cX6_copyRow 5 none d (QZ (fun σ' => CPR 45 120 f g σ σ')) 3 [some (vR 45 0), some (vI 120), some (vI f), some (vI g), some (vI (i : Int))] [] σi) ?_ ?_
    · intro σi hI
      refine V_iload_4 (pc := 3) dX6_copyRow_3 ?_
      refine V_iload_1 (pc := 5) dX6_copyRow_5 ?_
      refine V_icmp_ge (pc := 6) 31 dX6_copyRow_6 (by decide) (by omega) (by omega) (fun c_6 => ?_) (fun c_6 => ?_)
      · refine V_vret (pc := 31) dX6_copyRow_31 rfl ?_
        exact ⟨rfl, hI⟩
      · exact absurd c_6 (by omega)
    · intro i hi ih σi hI
      refine V_iload_4 (pc := 3) dX6_copyRow_3 ?_
      refine V_iload_1 (pc := 5) dX6_copyRow_5 ?_
      refine V_icmp_ge (pc := 6) 31 dX6_copyRow_6 (by decide) (by omega) (by omega) (fun c_6 => ?_) (fun c_6 => ?_)
      · exact absurd c_6 (by omega)
      · refine V_aload_0 (pc := 9) dX6_copyRow_9 ?_
        refine V_iload_1 (pc := 10) dX6_copyRow_10 ?_
        refine V_iload_3 (pc := 11) dX6_copyRow_11 ?_
        refine V_imul (pc := 12) dX6_copyRow_12 ?_
        refine V_iload_4 (pc := 13) dX6_copyRow_13 ?_
        refine V_iadd (pc := 15) dX6_copyRow_15 ?_
        refine V_aload_0 (pc := 16) dX6_copyRow_16 ?_
        refine V_iload_1 (pc := 17) dX6_copyRow_17 ?_
        refine V_iload_2 (pc := 18) dX6_copyRow_18 ?_
        refine V_imul (pc := 19) dX6_copyRow_19 ?_
        refine V_iload_4 (pc := 20) dX6_copyRow_20 ?_
        refine V_iadd (pc := 22) dX6_copyRow_22 ?_
        refine V_iald (pc := 23) dX6_copyRow_23 sh_45 (by omega) (by omega) (hI.2 45 0 (120 * f + (i : Int)) (by omega)) ?_
        refine V_iast (pc := 24) dX6_copyRow_24 sh_45 (by omega) (by omega) ?_
        refine V_iinc_4 (pc := 25) dX6_copyRow_25 ?_
        refine V_goto (pc := 28) 3 dX6_copyRow_28 (by decide) ?_
        refine V.sub (by simp only [subL, Option.some.injEq, Sum.inl.injEq, reduceCtorEq, true_or, or_true, false_or, true_and, and_true]; omega) (ih _ ⟨fun x hx => ?_, fun t' k z a => ?_⟩)
        · by_cases q : x = i
          · subst q; rw [setI_same]
          · rw [setI_x (by omega)]; exact hI.1 x (by omega)
        · have q : ¬ (t' = 45 ∧ k = 0 ∧ z = 120 * g + (i : Int)) := fun q => a ⟨q.1, by omega⟩
          simp only [setI, q, if_false]
          exact hI.2 t' k z (fun r => a ⟨r.1, by omega⟩)
  refine V_iconst (pc := 0) dX6_copyRow_0 ?_
  refine V_istore_4 (pc := 1) dX6_copyRow_1 ?_
  exact loop 0 (by omega) σ ⟨fun x hx => by omega, fun _ _ _ _ => rfl⟩

set_option maxRecDepth 20000 in
set_option maxHeartbeats 1000000 in
theorem c_X6_copyBook {d : Nat} (hd : 1 ≤ d) {σ : MM} {f g : Int} (hf : 0 ≤ f ∧ f ≤ 4) (hg : 0 ≤ g ∧ g ≤ 4) (hfg : f ≠ g) : V yX6_copyBook cX6_copyBook 3 none d (QZ (fun σ' => (∀ B : BK, GB B → MB σ f B → MB σ' g B) ∧ OffM g σ σ')) 0 [some (vR 34 0), some (vI f), some (vI g)] [] σ := by
  refine V_aload_0 (pc := 0) dX6_copyBook_0 ?_
  refine V_getc (pc := 1) dX6_copyBook_1 gf_X6_31 (by omega) ?_
  refine V_iconst (pc := 4) dX6_copyBook_4 ?_
  refine V_iload_1 (pc := 5) dX6_copyBook_5 ?_
  refine V_iload_2 (pc := 6) dX6_copyBook_6 ?_
  refine V_callS4z (pc := 7) dX6_copyBook_7 kv_X6_232 (d - 1) (by omega) rfl (c_copyRow_40 (by omega) hf hg hfg) (fun σ_7 h_7 => ?_)
  refine V_aload_0 (pc := 10) dX6_copyBook_10 ?_
  refine V_getc (pc := 11) dX6_copyBook_11 gf_X6_34 (by omega) ?_
  refine V_bipush (pc := 14) dX6_copyBook_14 (by decide) ?_
  refine V_iload_1 (pc := 16) dX6_copyBook_16 ?_
  refine V_iload_2 (pc := 17) dX6_copyBook_17 ?_
  refine V_callS4z (pc := 18) dX6_copyBook_18 kv_X6_232 (d - 1) (by omega) rfl (c_copyRow_41 (by omega) hf hg hfg) (fun σ_18 h_18 => ?_)
  refine V_aload_0 (pc := 21) dX6_copyBook_21 ?_
  refine V_getc (pc := 22) dX6_copyBook_22 gf_X6_37 (by omega) ?_
  refine V_bipush (pc := 25) dX6_copyBook_25 (by decide) ?_
  refine V_iload_1 (pc := 27) dX6_copyBook_27 ?_
  refine V_iload_2 (pc := 28) dX6_copyBook_28 ?_
  refine V_callS4z (pc := 29) dX6_copyBook_29 kv_X6_232 (d - 1) (by omega) rfl (c_copyRow_42 (by omega) hf hg hfg) (fun σ_29 h_29 => ?_)
  refine V_aload_0 (pc := 32) dX6_copyBook_32 ?_
  refine V_getc (pc := 33) dX6_copyBook_33 gf_X6_40 (by omega) ?_
  refine V_iconst (pc := 36) dX6_copyBook_36 ?_
  refine V_iload_1 (pc := 37) dX6_copyBook_37 ?_
  refine V_iload_2 (pc := 38) dX6_copyBook_38 ?_
  refine V_callS4z (pc := 39) dX6_copyBook_39 kv_X6_232 (d - 1) (by omega) rfl (c_copyRow_43 (by omega) hf hg hfg) (fun σ_39 h_39 => ?_)
  refine V_aload_0 (pc := 42) dX6_copyBook_42 ?_
  refine V_getc (pc := 43) dX6_copyBook_43 gf_X6_43 (by omega) ?_
  refine V_bipush (pc := 46) dX6_copyBook_46 (by decide) ?_
  refine V_iload_1 (pc := 48) dX6_copyBook_48 ?_
  refine V_iload_2 (pc := 49) dX6_copyBook_49 ?_
  refine V_callS4z (pc := 50) dX6_copyBook_50 kv_X6_232 (d - 1) (by omega) rfl (c_copyRow_44 (by omega) hf hg hfg) (fun σ_50 h_50 => ?_)
  refine V_aload_0 (pc := 53) dX6_copyBook_53 ?_
  refine V_getc (pc := 54) dX6_copyBook_54 gf_X6_46 (by omega) ?_
  refine V_bipush (pc := 57) dX6_copyBook_57 (by decide) ?_
  refine V_iload_1 (pc := 59) dX6_copyBook_59 ?_
  refine V_iload_2 (pc := 60) dX6_copyBook_60 ?_
  refine V_callS4z (pc := 61) dX6_copyBook_61 kv_X6_232 (d - 1) (by omega) rfl (c_copyRow_45 (by omega) hf hg hfg) (fun σ_61 h_61 => ?_)
  refine V_vret (pc := 64) dX6_copyBook_64 rfl ?_
  exact ⟨rfl, CPB h_7 h_18 h_29 h_39 h_50 h_61⟩

set_option maxRecDepth 20000 in
set_option maxHeartbeats 1000000 in
theorem c_X6_image {d : Nat} (hd : 2 ≤ d) {σ : MM} {X : CST} {k : Int} (hX : MRl σ X) (hO : XOK X) (hk : IR k) : V yX6_image cX6_image 2 (some .int) d (QI (fun v σ' => v = q_image k ∧ MRl σ' (s_image X k) ∧ FM σ σ')) 0 [some (vR 34 0), some (vI k)] [] σ := by
  have hM := hX.1
  have hG := hO.1
  have hW := hG.w
  have hs := hW.s
  have hF := hX.2.2.2.1
  have hT := hX.2.2.1
  have hI6 := hX.2.2.2.2
  have hZ := hX.2.1
  have h30 := hG.2.2.1
  refine V_aload_0 (pc := 0) dX6_image_0 ?_
  refine V_iconst (pc := 1) dX6_image_1 ?_
  refine V_puti (pc := 2) dX6_image_2 gf_X6_74 (by omega) ?_
  have hM := (KM.set (σ := σ) (t := 34) (k := 0) (z := 0) (v := 0) (by unfold SCM; omega)).mb hM
  refine V_iload_1 (pc := 5) dX6_image_5 ?_
  refine V_i2l (pc := 6) dX6_image_6 (by omega) ?_
  refine V_lconst (pc := 7) dX6_image_7 (z := 0) rfl ?_
  refine V_ldc2 (pc := 8) dX6_image_8 (z := 2) ldc_X6_324 ?_
  refine V_callS3p (pc := 11) dX6_image_11 kv_X6_79 (d - 1) (by omega) rfl (c_X6_in (by omega) (by omega) (by omega) (by omega)) ?_
  refine V_if_ne_b (pc := 14) 20 dX6_image_14 (by decide) (fun c_14 => ?_) (fun c_14 => ?_)
  · refine V_aload_0 (pc := 20) dX6_image_20 ?_
    refine V_iconst (pc := 21) dX6_image_21 ?_
    refine V_iconst (pc := 22) dX6_image_22 ?_
    refine V_iload_1 (pc := 23) dX6_image_23 ?_
    refine V_iadd (pc := 24) dX6_image_24 ?_
    refine V_callV2z (pc := 25) dX6_image_25 kv_X6_229 rc_34 (by omega) (d - 1) (by omega) rfl (c_X6_copyBook (by omega) (by omega) (by omega) (by omega)) (fun σ_25 h_25 => ?_)
    refine V_aload_0 (pc := 28) dX6_image_28 ?_
    refine V_getc (pc := 29) dX6_image_29 gf_X6_49 (by omega) ?_
    refine V_iload_1 (pc := 32) dX6_image_32 ?_
    refine V_iconst (pc := 33) dX6_image_33 ?_
    refine V_zast (pc := 34) dX6_image_34 sh_46 (by omega) (by omega) (by omega) ?_
    refine V_iconst (pc := 35) dX6_image_35 ?_
    refine V_iretI (pc := 36) dX6_image_36 rfl ?_
    exact ⟨_, rfl, by unfold q_image; rw [if_neg (by omega)], by unfold s_image; rw [if_neg (by omega)]; exact MRl.img hX hO (by omega) ((KM.set (σ := σ) (t := 34) (k := 0) (z := 0) (v := 0) (by unfold SCM; omega)).offm.tr h_25.2) (h_25.1 _ hG hM), (KM.set (σ := σ) (t := 34) (k := 0) (z := 0) (v := 0) (by unfold SCM; omega)).fm.tr (h_25.2.fm.tr (FM.set (by decide)))⟩
  · refine V_bipush (pc := 17) dX6_image_17 (by decide) ?_
    refine V_iretI (pc := 19) dX6_image_19 rfl ?_
    exact ⟨_, rfl, by unfold q_image; rw [if_pos (by omega)], by unfold s_image; rw [if_pos (by omega)]; exact (KM.set (σ := σ) (t := 34) (k := 0) (z := 0) (v := 0) (by unfold SCM; omega)).mrl hX, (KM.set (σ := σ) (t := 34) (k := 0) (z := 0) (v := 0) (by unfold SCM; omega)).fm⟩

set_option maxRecDepth 20000 in
set_option maxHeartbeats 1000000 in
theorem c_X6_back {d : Nat} (hd : 2 ≤ d) {σ : MM} {X : CST} {k : Int} (hX : MRl σ X) (hO : XOK X) (hk : IR k) : V yX6_back cX6_back 2 (some .int) d (QI (fun v σ' => v = q_back X k ∧ MRl σ' (NEWB X (s_back X k)) ∧ FM σ σ')) 0 [some (vR 34 0), some (vI k)] [] σ := by
  have hM := hX.1
  have hG := hO.1
  have hW := hG.w
  have hs := hW.s
  have hF := hX.2.2.2.1
  have hT := hX.2.2.1
  have hI6 := hX.2.2.2.2
  have hZ := hX.2.1
  have h30 := hG.2.2.1
  refine V_aload_0 (pc := 0) dX6_back_0 ?_
  refine V_iconst (pc := 1) dX6_back_1 ?_
  refine V_puti (pc := 2) dX6_back_2 gf_X6_74 (by omega) ?_
  have hM := (KM.set (σ := σ) (t := 34) (k := 0) (z := 0) (v := 0) (by unfold SCM; omega)).mb hM
  refine V_iload_1 (pc := 5) dX6_back_5 ?_
  refine V_i2l (pc := 6) dX6_back_6 (by omega) ?_
  refine V_lconst (pc := 7) dX6_back_7 (z := 0) rfl ?_
  refine V_ldc2 (pc := 8) dX6_back_8 (z := 2) ldc_X6_324 ?_
  refine V_callS3p (pc := 11) dX6_back_11 kv_X6_79 (d - 1) (by omega) rfl (c_X6_in (by omega) (by omega) (by omega) (by omega)) ?_
  refine V_if_ne_b (pc := 14) 20 dX6_back_14 (by decide) (fun c_14 => ?_) (fun c_14 => ?_)
  · have hk01 := hO.2.2.2 k (by omega)
    refine V_aload_0 (pc := 20) dX6_back_20 ?_
    refine V_getc (pc := 21) dX6_back_21 gf_X6_49 (by omega) ?_
    refine V_iload_1 (pc := 24) dX6_back_24 ?_
    refine V_zald (pc := 25) dX6_back_25 sh_46 (by omega) (by omega) (hI6 k (by omega)).1 ?_
    have hkk : X.K k = 0 ∨ X.K k = 1 := by rcases hk01 with q | q; exact Or.inl q; exact Or.inr q.1
    refine V_if_ne (pc := 26) 32 dX6_back_26 (by decide) (by omega) (fun c_26 => ?_) (fun c_26 => ?_)
    · have hk2 := hk01.resolve_left (by omega)
      have hMk := (KM.set (σ := σ) (t := 34) (k := 0) (z := 0) (v := 0) (by unfold SCM; omega)).mb ((hI6 k (by omega)).2 hk2.1)
      refine V_aload_0 (pc := 32) dX6_back_32 ?_
      refine V_iconst (pc := 33) dX6_back_33 ?_
      refine V_iload_1 (pc := 34) dX6_back_34 ?_
      refine V_iadd (pc := 35) dX6_back_35 ?_
      refine V_iconst (pc := 36) dX6_back_36 ?_
      refine V_callV2z (pc := 37) dX6_back_37 kv_X6_229 rc_34 (by omega) (d - 1) (by omega) rfl (c_X6_copyBook (by omega) (by omega) (by omega) (by omega)) (fun σ_37 h_37 => ?_)
      refine V_iconst (pc := 40) dX6_back_40 ?_
      refine V_iretI (pc := 41) dX6_back_41 rfl ?_
      exact ⟨_, rfl, by unfold q_back; rw [if_neg (by omega), if_neg (by omega)], by unfold s_back; rw [if_neg (by omega), if_neg (by omega)]; exact hX.newb hO ((KM.set (σ := σ) (t := 34) (k := 0) (z := 0) (v := 0) (by unfold SCM; omega)).offm.tr h_37.2) (h_37.1 _ hk2.2 hMk), (KM.set (σ := σ) (t := 34) (k := 0) (z := 0) (v := 0) (by unfold SCM; omega)).fm.tr h_37.2.fm⟩
    · refine V_bipush (pc := 29) dX6_back_29 (by decide) ?_
      refine V_iretI (pc := 31) dX6_back_31 rfl ?_
      exact ⟨_, rfl, by unfold q_back; rw [if_neg (by omega), if_pos (by omega)], by unfold s_back; rw [if_neg (by omega), if_pos (by omega)]; exact (KM.set (σ := σ) (t := 34) (k := 0) (z := 0) (v := 0) (by unfold SCM; omega)).mrl hX, (KM.set (σ := σ) (t := 34) (k := 0) (z := 0) (v := 0) (by unfold SCM; omega)).fm⟩
  · refine V_bipush (pc := 17) dX6_back_17 (by decide) ?_
    refine V_iretI (pc := 19) dX6_back_19 rfl ?_
    exact ⟨_, rfl, by unfold q_back; rw [if_pos (by omega)], by unfold s_back; rw [if_pos (by omega)]; exact (KM.set (σ := σ) (t := 34) (k := 0) (z := 0) (v := 0) (by unfold SCM; omega)).mrl hX, (KM.set (σ := σ) (t := 34) (k := 0) (z := 0) (v := 0) (by unfold SCM; omega)).fm⟩
