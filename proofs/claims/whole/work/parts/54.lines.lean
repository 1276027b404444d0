/-! reading a book, line by line -/
theorem CB_put3 {σ : MM} {b z v : Int} {B : BK} {j : Nat} (hz : z = j) (hj : j ≤ 3) (hB : CB σ b B) : CB (setI σ 3 b z v) b (sB B j 0 v) := by
  have hf : ∀ x, FAC (sB B j 0 v) x = FAC B x := fun x => FAC_cong (by funext y; simp only [sB]; rw [if_neg (by omega)]) (by simp only [sB]; rw [if_neg (by omega)]) x
  have hp : ∀ x, PLC (sB B j 0 v) x = PLC B x := fun x => PLC_cong (by funext y; simp only [sB]; rw [if_neg (by omega)]) x
  unfold CB at hB ⊢
  simp only [hf, hp]
  obtain ⟨h1, h2, h3, h4, h5⟩ := hB
  have hc : j = 0 ∨ j = 1 ∨ j = 2 ∨ j = 3 := by omega
  rcases hc with rfl | rfl | rfl | rfl <;> subst hz <;> (refine ⟨?_, ?_, ?_, ?_, ?_⟩) <;> first
    | (simp [setI_at, sB, h1]; done)
    | (intro i hi; simp [sB] at hi; simp [setI_at, sB, h2 i hi]; done)
    | (intro i hi; simp [sB] at hi; simp [setI_at, sB, h3 i hi]; done)
    | (intro i hi; simp [sB] at hi; simp [setI_at, sB, h4 i hi]; done)
    | (intro i hi; simp [sB] at hi; simp [setI_at, sB, h5 i hi]; done)
/-- a draft -/
def DB (B : BK) : Prop := WB B ∧ (∀ e : Int, 0 ≤ e ∧ e < B 6 0 → B 13 e ≤ 20) ∧ B 17 0 = 0
def OffD (σ σ' : MM) : Prop := ∀ (t : Nat) (k z : Int), ¬ (t = 1 ∧ 2 ≤ z ∧ z ≤ 7) → ¬ (3 ≤ t ∧ t ≤ 17 ∧ k = 0) → σ' t k z = σ t k z
theorem OffD.rf {σ : MM} : OffD σ σ := fun _ _ _ _ _ => rfl
theorem OffD.tr {σ σ1 σ2 : MM} (h : OffD σ σ1) (h2 : OffD σ1 σ2) : OffD σ σ2 := fun t k z a b => (h2 t k z a b).trans (h t k z a b)
theorem OffR.D {σ σ' : MM} (h : OffR σ σ') : OffD σ σ' := fun t k z a _ => h t k z a
theorem OffB.D {σ σ' : MM} (h : OffB 0 σ σ') : OffD σ σ' := fun t k z _ b => h t k z b
theorem OffD.set {σ : MM} {t : Nat} {z v : Int} (h : 3 ≤ t ∧ t ≤ 17) : OffD σ (setI σ t 0 z v) := fun t' k' z' _ b => by
  have : ¬ (t' = t ∧ k' = 0 ∧ z' = z) := fun q => b ⟨by omega, by omega, q.2.1⟩
  simp only [setI, this, if_false]
theorem OffD.rdf {σ σ' : MM} {T : Int → Int} {n : Int} (h : OffD σ σ') (hr : RDF σ T n) : RDF σ' T n := by
  refine ⟨(h 1 0 1 (by omega) (by omega)).trans hr.1, hr.2.1, fun x hx => ?_⟩
  rw [h 2 0 x (by omega) (by omega)]
  exact hr.2.2 x hx
theorem RST.same {σ σ' : MM} {T : Int → Int} {n : Int} {s : Int × Int} (h : σ' 1 = σ 1) (hr : RST σ T n s) : RST σ' T n s := by
  unfold RST TOK at hr ⊢
  rw [h]
  exact hr
theorem OffB.rst {σ σ' : MM} {T : Int → Int} {n b : Int} {s : Int × Int} (h : OffB b σ σ') (hr : RST σ T n s) : RST σ' T n s := hr.same (h.tag (by omega))
theorem DB_z : DB zB := by
  have z : ∀ i : Int, 0 ≤ i ∧ i < 0 → False := fun i hi => by omega
  refine ⟨⟨?_, fun i hi => (z i hi).elim, fun i hi => (z i hi).elim, fun i hi => (z i hi).elim, fun i hi => (z i hi).elim⟩, fun i hi => (z i hi).elim, rfl⟩
  show (0 ≤ (0 : Int) ∧ (0 : Int) ≤ 700) ∧ (0 ≤ (0 : Int) ∧ (0 : Int) ≤ 20) ∧ (0 ≤ (0 : Int) ∧ (0 : Int) ≤ 3) ∧ (0 ≤ (0 : Int) ∧ (0 : Int) ≤ 10) ∧ (0 ≤ (0 : Int) ∧ (0 : Int) ≤ 4) ∧ (0 ≤ (0 : Int) ∧ (0 : Int) ≤ 4) ∧ (0 ≤ (0 : Int) ∧ (0 : Int) ≤ 7) ∧ (0 ≤ (0 : Int) ∧ (0 : Int) ≤ 40)
  omega
theorem DB_put {B : BK} {j : Nat} {v : Int} (h : DB B) (hj : (j = 1 ∧ 0 ≤ v ∧ v ≤ 20) ∨ (j = 2 ∧ 0 ≤ v ∧ v ≤ 3) ∨ (j = 3 ∧ 0 ≤ v ∧ v ≤ 10) ∨ (j = 0 ∧ 0 ≤ v ∧ v ≤ 700)) : DB (sB B j 0 v) := by
  obtain ⟨⟨h0, h1, h2, h3, h4⟩, h5, h6⟩ := h
  have z : ∀ i : Int, 0 ≤ i ∧ i < B 17 0 → False := fun i hi => by omega
  rcases hj with ⟨rfl, hv⟩ | ⟨rfl, hv⟩ | ⟨rfl, hv⟩ | ⟨rfl, hv⟩
  all_goals
    refine ⟨⟨?_, fun i hi => ?_, fun i hi => ?_, fun i hi => ?_, fun i hi => (z i (by simpa [sB] using hi)).elim⟩, fun i hi => ?_, ?_⟩
    · unfold WS at h0 ⊢; simp [sB]; omega
    · have := h1 i (by simpa [sB] using hi); simpa [sB] using this
    · have := h2 i (by simpa [sB] using hi); simpa [sB] using this
    · have := h3 i (by simpa [sB] using hi); simpa [sB] using this
    · have := h5 i (by simpa [sB] using hi); simpa [sB] using this
    · simpa [sB] using h6
theorem DB_ink {B : BK} {r t f : Int} (h : DB B) (h4' : B 4 0 < 4) (hr : 1 ≤ r ∧ r ≤ 20) (ht : 1 ≤ t ∧ t ≤ 60) (hf : 0 ≤ f ∧ f ≤ 9) : DB (iB B r t f) := by
  obtain ⟨⟨h0, h1, h2, h3, h4⟩, h5, h6⟩ := h
  have z : ∀ i : Int, 0 ≤ i ∧ i < B 17 0 → False := fun i hi => by omega
  have e4 : iB B r t f 4 0 = B 4 0 + 1 := by simp [iB, sB]
  have et : ∀ j : Nat, j ≠ 4 → j ≠ 7 → j ≠ 8 → j ≠ 9 → iB B r t f j = B j := fun j a b c d => by funext k; simp [iB, sB, a, b, c, d]
  refine ⟨⟨?_, fun i hi => ?_, fun i hi => ?_, fun i hi => ?_, fun i hi => ?_⟩, fun i hi => ?_, ?_⟩
  · unfold WS at h0 ⊢
    rw [e4, et 0 (by decide) (by decide) (by decide) (by decide), et 1 (by decide) (by decide) (by decide) (by decide), et 2 (by decide) (by decide) (by decide) (by decide), et 3 (by decide) (by decide) (by decide) (by decide), et 5 (by decide) (by decide) (by decide) (by decide), et 6 (by decide) (by decide) (by decide) (by decide), et 17 (by decide) (by decide) (by decide) (by decide)]
    omega
  · rw [e4] at hi
    by_cases q : i = B 4 0
    · subst q; simp [iB, sB]; omega
    · have := h1 i (by omega); simpa [iB, sB, q] using this
  · rw [et 5 (by decide) (by decide) (by decide) (by decide)] at hi; rw [et 10 (by decide) (by decide) (by decide) (by decide)]; exact h2 i hi
  · rw [et 6 (by decide) (by decide) (by decide) (by decide)] at hi
    rw [e4, et 11 (by decide) (by decide) (by decide) (by decide), et 12 (by decide) (by decide) (by decide) (by decide), et 13 (by decide) (by decide) (by decide) (by decide), et 14 (by decide) (by decide) (by decide) (by decide), et 5 (by decide) (by decide) (by decide) (by decide)]
    have := h3 i hi
    exact ⟨this.1, by omega, this.2.2.1, this.2.2.2⟩
  · rw [et 17 (by decide) (by decide) (by decide) (by decide)] at hi; exact (z i hi).elim
  · rw [et 6 (by decide) (by decide) (by decide) (by decide)] at hi; rw [et 13 (by decide) (by decide) (by decide) (by decide)]; exact h5 i hi
  · rw [et 17 (by decide) (by decide) (by decide) (by decide)]; exact h6
theorem DB_page {B : BK} {d : Int} (h : DB B) (h5' : B 5 0 < 4) (hd : 0 ≤ d ∧ d ≤ 1) : DB (pB B d) := by
  obtain ⟨⟨h0, h1, h2, h3, h4⟩, h5, h6⟩ := h
  have z : ∀ i : Int, 0 ≤ i ∧ i < B 17 0 → False := fun i hi => by omega
  have e5 : pB B d 5 0 = B 5 0 + 1 := by simp [pB, sB]
  have et : ∀ j : Nat, j ≠ 5 → j ≠ 10 → pB B d j = B j := fun j a b => by funext k; simp [pB, sB, a, b]
  refine ⟨⟨?_, fun i hi => ?_, fun i hi => ?_, fun i hi => ?_, fun i hi => ?_⟩, fun i hi => ?_, ?_⟩
  · unfold WS at h0 ⊢
    rw [e5, et 0 (by decide) (by decide), et 1 (by decide) (by decide), et 2 (by decide) (by decide), et 3 (by decide) (by decide), et 4 (by decide) (by decide), et 6 (by decide) (by decide), et 17 (by decide) (by decide)]
    omega
  · rw [et 4 (by decide) (by decide)] at hi; rw [et 7 (by decide) (by decide), et 8 (by decide) (by decide), et 9 (by decide) (by decide)]; exact h1 i hi
  · rw [e5] at hi
    by_cases q : i = B 5 0
    · subst q; simp [pB, sB]; omega
    · have := h2 i (by omega); simpa [pB, sB, q] using this
  · rw [et 6 (by decide) (by decide)] at hi
    rw [e5, et 11 (by decide) (by decide), et 12 (by decide) (by decide), et 13 (by decide) (by decide), et 14 (by decide) (by decide), et 4 (by decide) (by decide)]
    have := h3 i hi
    exact ⟨by omega, this.2⟩
  · rw [et 17 (by decide) (by decide)] at hi; exact (z i hi).elim
  · rw [et 6 (by decide) (by decide)] at hi; rw [et 13 (by decide) (by decide)]; exact h5 i hi
  · rw [et 17 (by decide) (by decide)]; exact h6
theorem DB_entry {B : BK} {p i w s : Int} (h : DB B) (h6' : B 6 0 < 7) (hp : 0 ≤ p ∧ p < B 5 0) (hi0 : 0 ≤ i ∧ i < B 4 0) (hw : 0 ≤ w ∧ w ≤ 20) (hs : 0 ≤ s ∧ s ≤ 20) : DB (eB B p i w s) := by
  obtain ⟨⟨h0, h1, h2, h3, h4⟩, h5, h6⟩ := h
  have z : ∀ i : Int, 0 ≤ i ∧ i < B 17 0 → False := fun i hi => by omega
  have e6 : eB B p i w s 6 0 = B 6 0 + 1 := eB_6
  have et : ∀ j : Nat, j ≠ 6 → j ≠ 11 → j ≠ 12 → j ≠ 13 → j ≠ 14 → eB B p i w s j = B j := fun j a b c d e => by funext k; simp [eB, sB, a, b, c, d, e]
  refine ⟨⟨?_, fun x hx => ?_, fun x hx => ?_, fun x hx => ?_, fun x hx => ?_⟩, fun x hx => ?_, ?_⟩
  · unfold WS at h0 ⊢
    rw [e6, et 0 (by decide) (by decide) (by decide) (by decide) (by decide), et 1 (by decide) (by decide) (by decide) (by decide) (by decide), et 2 (by decide) (by decide) (by decide) (by decide) (by decide), et 3 (by decide) (by decide) (by decide) (by decide) (by decide), et 4 (by decide) (by decide) (by decide) (by decide) (by decide), et 5 (by decide) (by decide) (by decide) (by decide) (by decide), et 17 (by decide) (by decide) (by decide) (by decide) (by decide)]
    omega
  · rw [et 4 (by decide) (by decide) (by decide) (by decide) (by decide)] at hx; rw [et 7 (by decide) (by decide) (by decide) (by decide) (by decide), et 8 (by decide) (by decide) (by decide) (by decide) (by decide), et 9 (by decide) (by decide) (by decide) (by decide) (by decide)]; exact h1 x hx
  · rw [et 5 (by decide) (by decide) (by decide) (by decide) (by decide)] at hx; rw [et 10 (by decide) (by decide) (by decide) (by decide) (by decide)]; exact h2 x hx
  · rw [e6] at hx
    rw [et 4 (by decide) (by decide) (by decide) (by decide) (by decide), et 5 (by decide) (by decide) (by decide) (by decide) (by decide)]
    by_cases q : x = B 6 0
    · subst q; simp [eB, sB]; omega
    · have := h3 x (by omega); simpa [eB, sB, q] using this
  · rw [et 17 (by decide) (by decide) (by decide) (by decide) (by decide)] at hx; exact (z x hx).elim
  · rw [e6] at hx
    by_cases q : x = B 6 0
    · subst q; simp [eB, sB]; omega
    · have := h5 x (by omega); simpa [eB, sB, q] using this
  · rw [et 17 (by decide) (by decide) (by decide) (by decide) (by decide)]; exact h6
theorem HDL_in {T : Int → Int} {n p : Int} {B : BK} (hp : 0 ≤ p ∧ p ≤ n) (h : DB B) : ((0 ≤ (HDL T n p B).1.1 ∧ (HDL T n p B).1.1 ≤ 3) ∧ (0 ≤ (HDL T n p B).1.2 ∧ (HDL T n p B).1.2 ≤ n)) ∧ DB (HDL T n p B).2 ∧ (HDL T n p B).2 0 0 = B 0 0 ∧ ((HDL T n p B).1.1 = 0 → p ≤ (HDL T n p B).1.2) := by
  have hS := TS_in (T := T) hp
  have hE := TE_in (T := T) hp
  have a1 := NBF_in (T := T) (n := n) (w := 4) (lo := 1) (hi := 20) (s := (0, TE T n p)) ⟨by show 0 ≤ TE T n p; omega, by show TE T n p ≤ n; omega⟩ ⟨Int.le_refl 0, (by decide : (0 : Int) ≤ 3)⟩
  have a2 := NBF_in (T := T) (n := n) (w := 5) (lo := 0) (hi := 3) a1.1.2 a1.1.1
  have a3 := NBF_in (T := T) (n := n) (w := 6) (lo := 0) (hi := 10) a2.1.2 a2.1.1
  unfold HDL
  refine ⟨a3.1, DB_put (DB_put (DB_put h (Or.inl ⟨rfl, by omega, by omega⟩)) (Or.inr (Or.inl ⟨rfl, by omega, by omega⟩))) (Or.inr (Or.inr (Or.inl ⟨rfl, by omega, by omega⟩))), by simp [sB], fun q => ?_⟩
  have b3 := a3.2.2 q
  have b2 := a2.2.2 b3.2.2.1
  have b1 := a1.2.2 b2.2.2.1
  have : (0, TE T n p).2 = TE T n p := rfl
  show p ≤ (NBF T n 6 0 10 (NBF T n 5 0 3 (NBF T n 4 1 20 (0, TE T n p)).1).1).1.2
  omega
theorem INL_in {T : Int → Int} {n p : Int} {B : BK} (hp : 0 ≤ p ∧ p ≤ n) (h : DB B) : ((0 ≤ (INL T n p B).1.1 ∧ (INL T n p B).1.1 ≤ 3) ∧ (0 ≤ (INL T n p B).1.2 ∧ (INL T n p B).1.2 ≤ n)) ∧ DB (INL T n p B).2 ∧ (INL T n p B).2 0 0 = B 0 0 ∧ ((INL T n p B).1.1 = 0 → p ≤ (INL T n p B).1.2) := by
  have hS := TS_in (T := T) hp
  have hE := TE_in (T := T) hp
  unfold INL
  by_cases c : 4 ≤ B 4 0
  · rw [if_pos c]
    exact ⟨⟨by show 0 ≤ (3 : Int) ∧ (3 : Int) ≤ 3; omega, by show 0 ≤ TS T n p ∧ TS T n p ≤ n; omega⟩, h, rfl, fun q => absurd (show (3 : Int) = 0 from q) (by decide)⟩
  · rw [if_neg c]
    have a1 := NBF_in (T := T) (n := n) (w := 7) (lo := 1) (hi := 20) (s := (0, TE T n p)) ⟨by show 0 ≤ TE T n p; omega, by show TE T n p ≤ n; omega⟩ ⟨Int.le_refl 0, (by decide : (0 : Int) ≤ 3)⟩
    have a2 := NBF_in (T := T) (n := n) (w := 8) (lo := 1) (hi := 60) a1.1.2 a1.1.1
    have a3 := NBF_in (T := T) (n := n) (w := 9) (lo := 0) (hi := 9) a2.1.2 a2.1.1
    refine ⟨a3.1, ?_, ?_, fun q => ?_⟩
    · dsimp only
      split
      · rename_i q
        have b3 := a3.2.2 q
        have b2 := a2.2.2 b3.2.2.1
        have b1 := a1.2.2 b2.2.2.1
        exact DB_ink h (by omega) ⟨b1.1, b1.2.1⟩ ⟨b2.1, b2.2.1⟩ ⟨b3.1, b3.2.1⟩
      · exact h
    · dsimp only
      split
      · simp [iB, sB]
      · rfl
    · have b3 := a3.2.2 q
      have b2 := a2.2.2 b3.2.2.1
      have b1 := a1.2.2 b2.2.2.1
      have : (0, TE T n p).2 = TE T n p := rfl
      show p ≤ (NBF T n 9 0 9 (NBF T n 8 1 60 (NBF T n 7 1 20 (0, TE T n p)).1).1).1.2
      omega
theorem PGL_in {T : Int → Int} {n p : Int} {B : BK} (hp : 0 ≤ p ∧ p ≤ n) (h : DB B) : ((0 ≤ (PGL T n p B).1.1 ∧ (PGL T n p B).1.1 ≤ 3) ∧ (0 ≤ (PGL T n p B).1.2 ∧ (PGL T n p B).1.2 ≤ n)) ∧ DB (PGL T n p B).2 ∧ (PGL T n p B).2 0 0 = B 0 0 ∧ ((PGL T n p B).1.1 = 0 → p ≤ (PGL T n p B).1.2) := by
  have hS := TS_in (T := T) hp
  have hE := TE_in (T := T) hp
  have hE2 := TE_in (T := T) (n := n) (i := TE T n p) (by omega)
  have hS2 := TS_in (T := T) (n := n) (i := TE T n p) (by omega)
  unfold PGL
  by_cases c : 4 ≤ B 5 0
  · rw [if_pos c]
    exact ⟨⟨by show 0 ≤ (3 : Int) ∧ (3 : Int) ≤ 3; omega, by show 0 ≤ TS T n p ∧ TS T n p ≤ n; omega⟩, h, rfl, fun q => absurd (show (3 : Int) = 0 from q) (by decide)⟩
  · rw [if_neg c]
    refine ⟨⟨by show 0 ≤ (0 : Int) ∧ (0 : Int) ≤ 3; omega, ?_⟩, DB_page h (by omega) (by have := bI_01 (WRD T n (TE T n p) 10); omega), by simp [pB, sB], fun _ => ?_⟩
    · dsimp only; split <;> omega
    · dsimp only; split <;> omega
theorem ENL_in {T : Int → Int} {n p : Int} {B : BK} (hp : 0 ≤ p ∧ p ≤ n) (h : DB B) : ((0 ≤ (ENL T n p B).1.1 ∧ (ENL T n p B).1.1 ≤ 3) ∧ (0 ≤ (ENL T n p B).1.2 ∧ (ENL T n p B).1.2 ≤ n)) ∧ DB (ENL T n p B).2 ∧ (ENL T n p B).2 0 0 = B 0 0 ∧ ((ENL T n p B).1.1 = 0 → p ≤ (ENL T n p B).1.2) := by
  have hS := TS_in (T := T) hp
  have hE := TE_in (T := T) hp
  unfold ENL
  by_cases c : 7 ≤ B 6 0
  · rw [if_pos c]
    exact ⟨⟨by show 0 ≤ (3 : Int) ∧ (3 : Int) ≤ 3; omega, by show 0 ≤ TS T n p ∧ TS T n p ≤ n; omega⟩, h, rfl, fun q => absurd (show (3 : Int) = 0 from q) (by decide)⟩
  · rw [if_neg c]
    have a1 := NBF_in (T := T) (n := n) (w := 11) (lo := 0) (hi := B 5 0 - 1) (s := (0, TE T n p)) ⟨by show 0 ≤ TE T n p; omega, by show TE T n p ≤ n; omega⟩ ⟨Int.le_refl 0, (by decide : (0 : Int) ≤ 3)⟩
    have a2 := NBF_in (T := T) (n := n) (w := 12) (lo := 0) (hi := B 4 0 - 1) a1.1.2 a1.1.1
    have a3 := NBF_in (T := T) (n := n) (w := 13) (lo := 0) (hi := 20) a2.1.2 a2.1.1
    have a4 := NBF_in (T := T) (n := n) (w := 14) (lo := 0) (hi := 20) a3.1.2 a3.1.1
    refine ⟨a4.1, ?_, ?_, fun q => ?_⟩
    · dsimp only
      split
      · rename_i q
        have b4 := a4.2.2 q
        have b3 := a3.2.2 b4.2.2.1
        have b2 := a2.2.2 b3.2.2.1
        have b1 := a1.2.2 b2.2.2.1
        exact DB_entry h (by omega) ⟨b1.1, by omega⟩ ⟨b2.1, by omega⟩ ⟨b3.1, b3.2.1⟩ ⟨b4.1, b4.2.1⟩
      · exact h
    · dsimp only
      split
      · simp [eB, sB]
      · rfl
    · have b4 := a4.2.2 q
      have b3 := a3.2.2 b4.2.2.1
      have b2 := a2.2.2 b3.2.2.1
      have b1 := a1.2.2 b2.2.2.1
      have : (0, TE T n p).2 = TE T n p := rfl
      show p ≤ (NBF T n 14 0 20 (NBF T n 13 0 20 (NBF T n 12 0 (B 4 0 - 1) (NBF T n 11 0 (B 5 0 - 1) (0, TE T n p)).1).1).1).1.2
      omega
theorem LIN_in {T : Int → Int} {n p : Int} {B : BK} (hp : 0 ≤ p ∧ p ≤ n) (h : DB B) : ((0 ≤ (LIN T n p B).1.1 ∧ (LIN T n p B).1.1 ≤ 3) ∧ (0 ≤ (LIN T n p B).1.2 ∧ (LIN T n p B).1.2 ≤ n)) ∧ DB (LIN T n p B).2 ∧ (LIN T n p B).2 0 0 = B 0 0 ∧ ((LIN T n p B).1.1 = 0 → p ≤ (LIN T n p B).1.2) := by
  have hS := TS_in (T := T) hp
  have hx : ((0 ≤ (((1, TS T n p), B) : (Int × Int) × BK).1.1 ∧ (((1, TS T n p), B) : (Int × Int) × BK).1.1 ≤ 3) ∧ (0 ≤ (((1, TS T n p), B) : (Int × Int) × BK).1.2 ∧ (((1, TS T n p), B) : (Int × Int) × BK).1.2 ≤ n)) ∧ DB (((1, TS T n p), B) : (Int × Int) × BK).2 ∧ (((1, TS T n p), B) : (Int × Int) × BK).2 0 0 = B 0 0 ∧ ((((1, TS T n p), B) : (Int × Int) × BK).1.1 = 0 → p ≤ (((1, TS T n p), B) : (Int × Int) × BK).1.2) :=
    ⟨⟨by show 0 ≤ (1 : Int) ∧ (1 : Int) ≤ 3; omega, by show 0 ≤ TS T n p ∧ TS T n p ≤ n; omega⟩, h, rfl, fun q => absurd (show (1 : Int) = 0 from q) (by decide)⟩
  unfold LIN
  split
  · exact hx
  · split
    · exact HDL_in hp h
    · split
      · exact INL_in hp h
      · split
        · exact PGL_in hp h
        · split
          · exact ENL_in hp h
          · exact hx
/-- of the first k lines -/
theorem RBI_in {T : Int → Int} {n : Int} (hn : 0 ≤ n ∧ n ≤ 700) : ∀ k : Nat, k ≤ 700 → ((0 ≤ (RBI T n k).1.1 ∧ (RBI T n k).1.1 ≤ 3) ∧ (0 ≤ (RBI T n k).1.2 ∧ (RBI T n k).1.2 ≤ n)) ∧ DB (RBI T n k).2 ∧ (0 ≤ (RBI T n k).2 0 0 ∧ (RBI T n k).2 0 0 ≤ k) ∧ ((RBI T n k).1.1 = 0 → (TK T n (RBI T n k).1.2 ≠ 0 → (k : Int) ≤ (RBI T n k).1.2) ∧ ((RBI T n k).2 0 0 = 0 → (RBI T n k).2 = zB))
  | 0, _ => ⟨⟨⟨Int.le_refl 0, (by decide : (0 : Int) ≤ 3)⟩, ⟨Int.le_refl 0, hn.1⟩⟩, DB_z, ⟨Int.le_refl 0, Int.le_refl 0⟩, fun _ => ⟨fun _ => Int.le_refl 0, fun _ => rfl⟩⟩
  | k + 1, hk => by
    have ih := RBI_in (T := T) hn k (by omega)
    have hL := LIN_in (T := T) ih.1.2 ih.2.1
    have hS := TS_in (T := T) hL.1.2
    have hE := TE_in (T := T) hL.1.2
    rw [RBI]
    by_cases c : (RBI T n k).1.1 ≠ 0 ∨ TK T n (RBI T n k).1.2 = 0
    · rw [if_pos c]
      exact ⟨ih.1, ih.2.1, by omega, fun q => ⟨fun r => by rcases c with c | c; exact absurd q c; exact absurd c r, (ih.2.2.2 q).2⟩⟩
    · rw [if_neg c]
      have c1 : (RBI T n k).1.1 = 0 := by omega
      have c2 : TK T n (RBI T n k).1.2 ≠ 0 := by omega
      have ih4 := (ih.2.2.2 c1).1 c2
      unfold STE
      by_cases d1 : (LIN T n (RBI T n k).1.2 (RBI T n k).2).1.1 ≠ 0
      · rw [if_pos d1]
        exact ⟨hL.1, hL.2.1, by rw [hL.2.2.1]; omega, fun q => absurd q d1⟩
      · rw [if_neg d1]
        by_cases d2 : TK T n (LIN T n (RBI T n k).1.2 (RBI T n k).2).1.2 ≠ 3
        · rw [if_pos d2]
          exact ⟨⟨by show 0 ≤ (1 : Int) ∧ (1 : Int) ≤ 3; omega, by show 0 ≤ TS T n _ ∧ TS T n _ ≤ n; omega⟩, hL.2.1, by show 0 ≤ (LIN T n _ _).2 0 0 ∧ (LIN T n _ _).2 0 0 ≤ _; rw [hL.2.2.1]; omega, fun q => absurd (show (1 : Int) = 0 from q) (by decide)⟩
        · rw [if_neg d2]
          have d3 : TK T n (LIN T n (RBI T n k).1.2 (RBI T n k).2).1.2 = 3 := by omega
          have hlt := hE.2.2 (by omega)
          have hpp := hL.2.2.2 (by omega)
          have e0 : ∀ v : Int, sB (LIN T n (RBI T n k).1.2 (RBI T n k).2).2 0 0 v 0 0 = v := fun v => by simp [sB]
          refine ⟨⟨by show 0 ≤ (0 : Int) ∧ (0 : Int) ≤ 3; omega, by show 0 ≤ TE T n _ ∧ TE T n _ ≤ n; omega⟩, DB_put hL.2.1 (Or.inr (Or.inr (Or.inr ⟨rfl, by rw [hL.2.2.1]; omega, by rw [hL.2.2.1]; omega⟩))), ?_, fun _ => ⟨fun _ => ?_, fun q => ?_⟩⟩
          · dsimp only
            rw [e0, hL.2.2.1]; omega
          · show ((k + 1 : Nat) : Int) ≤ TE T n _
            omega
          · have : sB (LIN T n (RBI T n k).1.2 (RBI T n k).2).2 0 0 ((LIN T n (RBI T n k).1.2 (RBI T n k).2).2 0 0 + 1) 0 0 = 0 := q
            rw [e0, hL.2.2.1] at this
            omega
/-- once it stands still, it does -/
theorem RBI_st {T : Int → Int} {n : Int} {k : Nat} (h : (RBI T n k).1.1 ≠ 0 ∨ TK T n (RBI T n k).1.2 = 0) : ∀ j : Nat, RBI T n (k + j) = RBI T n k
  | 0 => rfl
  | j + 1 => by
    have ih := RBI_st h j
    show (if (RBI T n (k + j)).1.1 ≠ 0 ∨ TK T n (RBI T n (k + j)).1.2 = 0 then RBI T n (k + j) else STE T n (LIN T n (RBI T n (k + j)).1.2 (RBI T n (k + j)).2)) = _
    rw [ih, if_pos h]
theorem BOK_at {T : Int → Int} {n : Int} {k : Nat} (hk : k ≤ 700) (h : (RBI T n k).1.1 ≠ 0 ∨ TK T n (RBI T n k).1.2 = 0) : BOK T n = RBI T n k := by
  have := RBI_st h (700 - k)
  rw [show k + (700 - k) = 700 by omega] at this
  exact this
theorem RBI_go {T : Int → Int} {n : Int} {k : Nat} (h1 : (RBI T n k).1.1 = 0) (h2 : TK T n (RBI T n k).1.2 ≠ 0) : RBI T n (k + 1) = STE T n (LIN T n (RBI T n k).1.2 (RBI T n k).2) := if_neg (by omega)
theorem RBI_700 {T : Int → Int} {n : Int} (hn : 0 ≤ n ∧ n ≤ 700) : (RBI T n 700).1.1 ≠ 0 ∨ TK T n (RBI T n 700).1.2 = 0 := by
  have h := RBI_in (T := T) hn 700 (Nat.le_refl _)
  by_cases c : (RBI T n 700).1.1 = 0
  · right
    by_cases c2 : TK T n (RBI T n 700).1.2 = 0
    · exact c2
    · have := (h.2.2.2 c).1 c2
      have hS := TS_in (T := T) h.1.2
      exact TK_0.mpr (by omega)
  · exact Or.inl c
/-- what a text tells is a book -/
theorem RBI_GB {T : Int → Int} {n : Int} (hn : 0 ≤ n ∧ n ≤ 700) {k : Nat} (hk : k ≤ 700) (h : (RBI T n k).1.1 = 0) : GB (RBI T n k).2 := by
  have h7 := RBI_in (T := T) hn k hk
  generalize RBI T n k = r at h h7 ⊢
  refine ⟨h7.2.1.1, h7.2.1.2.1, by have := h7.2.1.2.2; omega, fun q => ?_⟩
  have e := (h7.2.2.2 h).2 q
  rw [e]
  exact ⟨rfl, rfl, rfl, rfl, rfl⟩
theorem BOK_GB {T : Int → Int} {n : Int} (hn : 0 ≤ n ∧ n ≤ 700) (h : (BOK T n).1.1 = 0) : GB (BOK T n).2 := by
  unfold BOK at h ⊢
  exact RBI_GB (k := 700) hn (Nat.le_refl _) h
theorem BOK_in {T : Int → Int} {n : Int} (hn : 0 ≤ n ∧ n ≤ 700) : ((0 ≤ (BOK T n).1.1 ∧ (BOK T n).1.1 ≤ 3) ∧ (0 ≤ (BOK T n).1.2 ∧ (BOK T n).1.2 ≤ n)) ∧ DB (BOK T n).2 := by
  have h := RBI_in (T := T) hn 700 (Nat.le_refl _)
  unfold BOK
  generalize RBI T n 700 = r at h ⊢
  exact ⟨h.1, h.2.1⟩
