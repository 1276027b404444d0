/-! THE REFERENCE's draft, book 4 -/
def OffL (σ σ' : MM) : Prop := ∀ (t : Nat) (k z : Int), ¬ (t = 34 ∧ 7 ≤ z ∧ z ≤ 13) → ¬ ISL 4 t z → σ' t k z = σ t k z
theorem OffL.rf {σ : MM} : OffL σ σ := fun _ _ _ _ _ => rfl
theorem OffL.tr {σ σ1 σ2 : MM} (h : OffL σ σ1) (h2 : OffL σ1 σ2) : OffL σ σ2 := fun t k z a b => (h2 t k z a b).trans (h t k z a b)
theorem OffG.l {σ σ' : MM} (h : OffG σ σ') : OffL σ σ' := fun t k z a _ => h t k z a
theorem OffL.set {σ : MM} {t : Nat} {z v : Int} (h : ISL 4 t z) : OffL σ (setI σ t 0 z v) := fun t' k' z' _ b => by
  have : ¬ (t' = t ∧ k' = 0 ∧ z' = z) := fun q => b (by rw [q.1, q.2.2]; exact h)
  simp only [setI, this, if_false]
theorem OffL.tpe {σ σ' : MM} {T : Int → Int} {n : Int} (h : OffL σ σ') (hT : TPE σ T n) : TPE σ' T n := ⟨(h 34 0 6 (by omega) (by unfold ISL; omega)).trans hT.1, fun x hx => (h 39 0 x (by omega) (by unfold ISL; omega)).trans (hT.2 x hx)⟩
theorem RSM.set {σ : MM} {T : Int → Int} {n : Int} {s : Int × Int} {t : Nat} {k z v : Int} (h : RSM σ T n s) (ht : t ≠ 34) : RSM (setI σ t k z v) T n s := h.cong (fun x _ => setI_ne (Ne.symm ht) 0 x)
theorem OffG.mb {σ σ' : MM} {s : Int} {B : BK} (h : OffG σ σ') (hM : MB σ s B) : MB σ' s B := hM.cong (fun t ht => OffG_x h (by omega))
/-- one more in the draft -/
theorem MB4.ink {σ σ' : MM} {B : BK} {a b c : Int} (hM : MB σ 4 B) (hD : DB B) (hO : ∀ (t : Nat) (x : Int), t ≠ 34 → ¬ (t = 42 ∧ 3 * (16 + B 4 0) ≤ x ∧ x < 3 * (16 + B 4 0) + 3) → ¬ (t = 41 ∧ x = 31) → σ' t 0 x = σ t 0 x) (h31 : σ' 41 0 31 = B 4 0 + 1) (a0 : σ' 42 0 (3 * (16 + B 4 0)) = a) (a1 : σ' 42 0 (3 * (16 + B 4 0) + 1) = b) (a2 : σ' 42 0 (3 * (16 + B 4 0) + 2) = c) : MB σ' 4 (iB B a b c) := by
  obtain ⟨h0, h1, h2, h3, h4⟩ := hM
  have hs := hD.1.s
  have e4 : iB B a b c 4 0 = B 4 0 + 1 := by simp [iB, sB]
  have et : ∀ j : Nat, j ≠ 4 → j ≠ 7 → j ≠ 8 → j ≠ 9 → iB B a b c j = B j := fun j p q r s => by funext k; simp [iB, sB, p, q, r, s]
  refine ⟨?_, fun i hi => ?_, fun i hi => ?_, fun i hi => ?_, fun i hi => ?_⟩
  · rw [e4, et 0 (by decide) (by decide) (by decide) (by decide), et 1 (by decide) (by decide) (by decide) (by decide), et 2 (by decide) (by decide) (by decide) (by decide), et 3 (by decide) (by decide) (by decide) (by decide), et 5 (by decide) (by decide) (by decide) (by decide), et 6 (by decide) (by decide) (by decide) (by decide), et 17 (by decide) (by decide) (by decide) (by decide)]
    rw [hO 40 _ (by decide) (by omega) (by omega), hO 41 (7 * 4) (by decide) (by omega) (by omega), hO 41 (7 * 4 + 1) (by decide) (by omega) (by omega), hO 41 (7 * 4 + 2) (by decide) (by omega) (by omega), hO 41 (7 * 4 + 4) (by decide) (by omega) (by omega), hO 41 (7 * 4 + 5) (by decide) (by omega) (by omega), hO 41 (7 * 4 + 6) (by decide) (by omega) (by omega)]
    exact ⟨h0.1, h0.2.1, h0.2.2.1, h0.2.2.2.1, h31, h0.2.2.2.2.2.1, h0.2.2.2.2.2.2.1, h0.2.2.2.2.2.2.2⟩
  · rw [e4] at hi
    by_cases q : i = B 4 0
    · subst q
      rw [show 12 * 4 + 3 * B 4 0 = 3 * (16 + B 4 0) by omega]
      refine ⟨a0.trans ?_, a1.trans ?_, a2.trans ?_⟩ <;> simp [iB, sB]
    · have := h1 i (by omega)
      rw [hO 42 _ (by decide) (by omega) (by omega), hO 42 _ (by decide) (by omega) (by omega), hO 42 _ (by decide) (by omega) (by omega)]
      refine ⟨this.1.trans ?_, this.2.1.trans ?_, this.2.2.trans ?_⟩ <;> simp [iB, sB, q]
  · rw [et 5 (by decide) (by decide) (by decide) (by decide)] at hi
    rw [et 10 (by decide) (by decide) (by decide) (by decide), hO 43 _ (by decide) (by omega) (by omega)]; exact h2 i hi
  · rw [et 6 (by decide) (by decide) (by decide) (by decide)] at hi
    rw [et 11 (by decide) (by decide) (by decide) (by decide), et 12 (by decide) (by decide) (by decide) (by decide), et 13 (by decide) (by decide) (by decide) (by decide), et 14 (by decide) (by decide) (by decide) (by decide), hO 44 _ (by decide) (by omega) (by omega), hO 44 _ (by decide) (by omega) (by omega), hO 44 _ (by decide) (by omega) (by omega), hO 44 _ (by decide) (by omega) (by omega)]; exact h3 i hi
  · rw [et 17 (by decide) (by decide) (by decide) (by decide), hD.2.2] at hi; omega
theorem MB4.page {σ σ' : MM} {B : BK} {a : Int} (hM : MB σ 4 B) (hD : DB B) (hO : ∀ (t : Nat) (x : Int), t ≠ 34 → ¬ (t = 43 ∧ x = 16 + B 5 0) → ¬ (t = 41 ∧ x = 32) → σ' t 0 x = σ t 0 x) (h32 : σ' 41 0 32 = B 5 0 + 1) (a0 : σ' 43 0 (16 + B 5 0) = a) : MB σ' 4 (pB B a) := by
  obtain ⟨h0, h1, h2, h3, h4⟩ := hM
  have hs := hD.1.s
  have e5 : pB B a 5 0 = B 5 0 + 1 := by simp [pB, sB]
  have et : ∀ j : Nat, j ≠ 5 → j ≠ 10 → pB B a j = B j := fun j p q => by funext k; simp [pB, sB, p, q]
  refine ⟨?_, fun i hi => ?_, fun i hi => ?_, fun i hi => ?_, fun i hi => ?_⟩
  · rw [e5, et 0 (by decide) (by decide), et 1 (by decide) (by decide), et 2 (by decide) (by decide), et 3 (by decide) (by decide), et 4 (by decide) (by decide), et 6 (by decide) (by decide), et 17 (by decide) (by decide)]
    rw [hO 40 _ (by decide) (by omega) (by omega), hO 41 (7 * 4) (by decide) (by omega) (by omega), hO 41 (7 * 4 + 1) (by decide) (by omega) (by omega), hO 41 (7 * 4 + 2) (by decide) (by omega) (by omega), hO 41 (7 * 4 + 3) (by decide) (by omega) (by omega), hO 41 (7 * 4 + 5) (by decide) (by omega) (by omega), hO 41 (7 * 4 + 6) (by decide) (by omega) (by omega)]
    exact ⟨h0.1, h0.2.1, h0.2.2.1, h0.2.2.2.1, h0.2.2.2.2.1, h32, h0.2.2.2.2.2.2.1, h0.2.2.2.2.2.2.2⟩
  · rw [et 4 (by decide) (by decide)] at hi
    rw [et 7 (by decide) (by decide), et 8 (by decide) (by decide), et 9 (by decide) (by decide), hO 42 _ (by decide) (by omega) (by omega), hO 42 _ (by decide) (by omega) (by omega), hO 42 _ (by decide) (by omega) (by omega)]; exact h1 i hi
  · rw [e5] at hi
    by_cases q : i = B 5 0
    · subst q
      rw [show 4 * 4 + B 5 0 = 16 + B 5 0 by omega]
      refine a0.trans ?_
      simp [pB, sB]
    · rw [hO 43 _ (by decide) (by omega) (by omega)]
      refine (h2 i (by omega)).trans ?_
      simp [pB, sB, q]
  · rw [et 6 (by decide) (by decide)] at hi
    rw [et 11 (by decide) (by decide), et 12 (by decide) (by decide), et 13 (by decide) (by decide), et 14 (by decide) (by decide), hO 44 _ (by decide) (by omega) (by omega), hO 44 _ (by decide) (by omega) (by omega), hO 44 _ (by decide) (by omega) (by omega), hO 44 _ (by decide) (by omega) (by omega)]; exact h3 i hi
  · rw [et 17 (by decide) (by decide), hD.2.2] at hi; omega
theorem MB4.entry {σ σ' : MM} {B : BK} {a b c d : Int} (hM : MB σ 4 B) (hD : DB B) (hO : ∀ (t : Nat) (x : Int), t ≠ 34 → ¬ (t = 44 ∧ 4 * (28 + B 6 0) ≤ x ∧ x < 4 * (28 + B 6 0) + 4) → ¬ (t = 41 ∧ x = 33) → σ' t 0 x = σ t 0 x) (h33 : σ' 41 0 33 = B 6 0 + 1) (a0 : σ' 44 0 (4 * (28 + B 6 0)) = a) (a1 : σ' 44 0 (4 * (28 + B 6 0) + 1) = b) (a2 : σ' 44 0 (4 * (28 + B 6 0) + 2) = c) (a3 : σ' 44 0 (4 * (28 + B 6 0) + 3) = d) : MB σ' 4 (eB B a b c d) := by
  obtain ⟨h0, h1, h2, h3, h4⟩ := hM
  have hs := hD.1.s
  have e6 : eB B a b c d 6 0 = B 6 0 + 1 := eB_6
  have et : ∀ j : Nat, j ≠ 6 → j ≠ 11 → j ≠ 12 → j ≠ 13 → j ≠ 14 → eB B a b c d j = B j := fun j p q r s u => by funext k; simp [eB, sB, p, q, r, s, u]
  refine ⟨?_, fun i hi => ?_, fun i hi => ?_, fun i hi => ?_, fun i hi => ?_⟩
  · rw [e6, et 0 (by decide) (by decide) (by decide) (by decide) (by decide), et 1 (by decide) (by decide) (by decide) (by decide) (by decide), et 2 (by decide) (by decide) (by decide) (by decide) (by decide), et 3 (by decide) (by decide) (by decide) (by decide) (by decide), et 4 (by decide) (by decide) (by decide) (by decide) (by decide), et 5 (by decide) (by decide) (by decide) (by decide) (by decide), et 17 (by decide) (by decide) (by decide) (by decide) (by decide)]
    rw [hO 40 _ (by decide) (by omega) (by omega), hO 41 (7 * 4) (by decide) (by omega) (by omega), hO 41 (7 * 4 + 1) (by decide) (by omega) (by omega), hO 41 (7 * 4 + 2) (by decide) (by omega) (by omega), hO 41 (7 * 4 + 3) (by decide) (by omega) (by omega), hO 41 (7 * 4 + 4) (by decide) (by omega) (by omega), hO 41 (7 * 4 + 6) (by decide) (by omega) (by omega)]
    exact ⟨h0.1, h0.2.1, h0.2.2.1, h0.2.2.2.1, h0.2.2.2.2.1, h0.2.2.2.2.2.1, h33, h0.2.2.2.2.2.2.2⟩
  · rw [et 4 (by decide) (by decide) (by decide) (by decide) (by decide)] at hi
    rw [et 7 (by decide) (by decide) (by decide) (by decide) (by decide), et 8 (by decide) (by decide) (by decide) (by decide) (by decide), et 9 (by decide) (by decide) (by decide) (by decide) (by decide), hO 42 _ (by decide) (by omega) (by omega), hO 42 _ (by decide) (by omega) (by omega), hO 42 _ (by decide) (by omega) (by omega)]; exact h1 i hi
  · rw [et 5 (by decide) (by decide) (by decide) (by decide) (by decide)] at hi
    rw [et 10 (by decide) (by decide) (by decide) (by decide) (by decide), hO 43 _ (by decide) (by omega) (by omega)]; exact h2 i hi
  · rw [e6] at hi
    by_cases q : i = B 6 0
    · subst q
      rw [show 28 * 4 + 4 * B 6 0 = 4 * (28 + B 6 0) by omega]
      refine ⟨a0.trans ?_, a1.trans ?_, a2.trans ?_, a3.trans ?_⟩ <;> simp [eB, sB]
    · have := h3 i (by omega)
      rw [hO 44 _ (by decide) (by omega) (by omega), hO 44 _ (by decide) (by omega) (by omega), hO 44 _ (by decide) (by omega) (by omega), hO 44 _ (by decide) (by omega) (by omega)]
      refine ⟨this.1.trans ?_, this.2.1.trans ?_, this.2.2.1.trans ?_, this.2.2.2.trans ?_⟩ <;> simp [eB, sB, q]
  · rw [et 17 (by decide) (by decide) (by decide) (by decide) (by decide), hD.2.2] at hi; omega
theorem MB4.put {σ σ' : MM} {B : BK} {j : Nat} {v z : Int} (hM : MB σ 4 B) (hD : DB B) (hj : (j = 0 ∧ z = 0 - 1) ∨ (1 ≤ j ∧ j ≤ 3 ∧ z = 27 + j)) (hO : ∀ (t : Nat) (x : Int), t ≠ 34 → ¬ (j ≠ 0 ∧ t = 41 ∧ x = z) → ¬ (j = 0 ∧ t = 40 ∧ x = 4) → σ' t 0 x = σ t 0 x) (h1' : j ≠ 0 → σ' 41 0 z = v) (h0' : j = 0 → σ' 40 0 4 = v) : MB σ' 4 (sB B j 0 v) := by
  obtain ⟨h0, h1, h2, h3, h4⟩ := hM
  have hs := hD.1.s
  have et : ∀ {t : Nat}, 4 ≤ t → sB B j 0 v t = B t := fun ht => sBt (by omega)
  refine ⟨?_, fun i hi => ?_, fun i hi => ?_, fun i hi => ?_, fun i hi => ?_⟩
  · rw [et (t := 4) (by decide), et (t := 5) (by decide), et (t := 6) (by decide), et (t := 17) (by decide)]
    rw [hO 41 (7 * 4 + 3) (by decide) (by omega) (by omega), hO 41 (7 * 4 + 4) (by decide) (by omega) (by omega), hO 41 (7 * 4 + 5) (by decide) (by omega) (by omega), hO 41 (7 * 4 + 6) (by decide) (by omega) (by omega)]
    have hc : j = 0 ∨ j = 1 ∨ j = 2 ∨ j = 3 := by omega
    rcases hc with rfl | rfl | rfl | rfl
    · rw [sBs, sBt (by decide), sBt (by decide), sBt (by decide), hO 41 (7 * 4) (by decide) (by omega) (by omega), hO 41 (7 * 4 + 1) (by decide) (by omega) (by omega), hO 41 (7 * 4 + 2) (by decide) (by omega) (by omega)]
      exact ⟨h0' rfl, h0.2⟩
    · have hz : z = 7 * 4 := by omega
      rw [sBs, sBt (by decide), sBt (by decide), sBt (by decide), hO 40 4 (by decide) (by omega) (by omega), hO 41 (7 * 4 + 1) (by decide) (by omega) (by omega), hO 41 (7 * 4 + 2) (by decide) (by omega) (by omega)]
      exact ⟨h0.1, by rw [← hz]; exact h1' (by decide), h0.2.2⟩
    · have hz : z = 7 * 4 + 1 := by omega
      rw [sBs, sBt (by decide), sBt (by decide), sBt (by decide), hO 40 4 (by decide) (by omega) (by omega), hO 41 (7 * 4) (by decide) (by omega) (by omega), hO 41 (7 * 4 + 2) (by decide) (by omega) (by omega)]
      exact ⟨h0.1, h0.2.1, by rw [← hz]; exact h1' (by decide), h0.2.2.2⟩
    · have hz : z = 7 * 4 + 2 := by omega
      rw [sBs, sBt (by decide), sBt (by decide), sBt (by decide), hO 40 4 (by decide) (by omega) (by omega), hO 41 (7 * 4) (by decide) (by omega) (by omega), hO 41 (7 * 4 + 1) (by decide) (by omega) (by omega)]
      exact ⟨h0.1, h0.2.1, h0.2.2.1, by rw [← hz]; exact h1' (by decide), h0.2.2.2.2⟩
  · rw [et (t := 4) (by decide)] at hi
    rw [et (t := 7) (by decide), et (t := 8) (by decide), et (t := 9) (by decide), hO 42 _ (by decide) (by omega) (by omega), hO 42 _ (by decide) (by omega) (by omega), hO 42 _ (by decide) (by omega) (by omega)]; exact h1 i hi
  · rw [et (t := 5) (by decide)] at hi
    rw [et (t := 10) (by decide), hO 43 _ (by decide) (by omega) (by omega)]; exact h2 i hi
  · rw [et (t := 6) (by decide)] at hi
    rw [et (t := 11) (by decide), et (t := 12) (by decide), et (t := 13) (by decide), et (t := 14) (by decide), hO 44 _ (by decide) (by omega) (by omega), hO 44 _ (by decide) (by omega) (by omega), hO 44 _ (by decide) (by omega) (by omega), hO 44 _ (by decide) (by omega) (by omega)]; exact h3 i hi
  · rw [et (t := 17) (by decide), hD.2.2] at hi; omega
theorem MB.r3 {σ : MM} {B : BK} (h : MB σ 4 B) : σ 41 0 31 = B 4 0 ∧ σ 41 0 32 = B 5 0 ∧ σ 41 0 33 = B 6 0 ∧ σ 40 0 4 = B 0 0 := ⟨h.1.2.2.2.2.1, h.1.2.2.2.2.2.1, h.1.2.2.2.2.2.2.1, h.1.1⟩
