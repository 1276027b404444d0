/-! TRYING another book -/
theorem WB_law {B : BK} {v : Int} (hW : WB B) (hv : 0 ≤ v ∧ v ≤ 3) : WB (sB B 2 0 v) := by
  obtain ⟨h0, h1, h2, h3, h4⟩ := hW
  exact ⟨⟨h0.1, h0.2.1, hv, h0.2.2.2⟩, h1, h2, h3, h4⟩
theorem WB_wrote {B : BK} {k v : Int} (hW : WB B) (hv : 0 ≤ v ∧ v ≤ 99) : WB (sB B 13 k v) := by
  obtain ⟨h0, h1, h2, h3, h4⟩ := hW
  refine ⟨h0, h1, h2, fun i hi => ?_, h4⟩
  have := h3 i hi
  refine ⟨this.1, this.2.1, ?_, this.2.2.2⟩
  simp only [sB]
  split
  · exact hv
  · exact this.2.2.1
theorem WB_ik {B : BK} {k v : Int} (hW : WB B) (hv : 0 ≤ v ∧ v < B 4 0) : WB (sB B 12 k v) := by
  obtain ⟨h0, h1, h2, h3, h4⟩ := hW
  refine ⟨h0, h1, h2, fun i hi => ?_, h4⟩
  have := h3 i hi
  refine ⟨this.1, ?_, this.2.2⟩
  show 0 ≤ sB B 12 k v 12 i ∧ sB B 12 k v 12 i < B 4 0
  simp only [sB]
  split
  · exact hv
  · exact this.2.1
theorem WB_damp {B : BK} {k v : Int} (hW : WB B) (hv : 0 ≤ v ∧ v ≤ 1) : WB (sB B 10 k v) := by
  obtain ⟨h0, h1, h2, h3, h4⟩ := hW
  refine ⟨h0, h1, fun i hi => ?_, h3, h4⟩
  have := h2 i hi
  simp only [sB]
  split
  · exact hv
  · exact this
theorem WB_says {B : BK} {k v : Int} (hW : WB B) (hv : 0 ≤ v ∧ v ≤ 20) : WB (sB B 14 k v) := by
  obtain ⟨h0, h1, h2, h3, h4⟩ := hW
  refine ⟨h0, h1, h2, fun i hi => ?_, h4⟩
  have := h3 i hi
  refine ⟨this.1, this.2.1, this.2.2.1, ?_⟩
  simp only [sB]
  split
  · exact hv
  · exact this.2.2.2
theorem WB_done {B : BK} {v : Int} (hW : WB B) (hv : 0 ≤ v ∧ v ≤ B 17 0) : WB (sB B 17 0 v) := by
  obtain ⟨h0, h1, h2, h3, h4⟩ := hW
  refine ⟨⟨h0.1, h0.2.1, h0.2.2.1, h0.2.2.2.1, h0.2.2.2.2.1, h0.2.2.2.2.2.1, h0.2.2.2.2.2.2.1, ?_⟩, h1, h2, h3, fun i hi => h4 i ?_⟩
  · show 0 ≤ sB B 17 0 v 17 0 ∧ sB B 17 0 v 17 0 ≤ 40
    have := h0.2.2.2.2.2.2.2
    simp only [sB]
    simp
    omega
  · simp [sB] at hi; omega
theorem WB_act {B : BK} {e i y : Int} (hW : WB B) (h40 : B 17 0 < 40) (he : 0 ≤ e ∧ e < B 6 0) (hi : -1 ≤ i ∧ i < B 4 0) (hy : 0 ≤ y ∧ y ≤ B 1 0) : WB (aB B e i y) := by
  have h17 := hW.s.2.2.2.2.2.2.2
  obtain ⟨h0, h1, h2, h3, h4⟩ := hW
  refine ⟨⟨h0.1, h0.2.1, h0.2.2.1, h0.2.2.2.1, h0.2.2.2.2.1, h0.2.2.2.2.2.1, h0.2.2.2.2.2.2.1, ?_⟩, h1, h2, h3, fun x hx => ?_⟩
  · show 0 ≤ aB B e i y 17 0 ∧ aB B e i y 17 0 ≤ 40
    simp [aB, sB]
    omega
  · simp [aB, sB] at hx
    show (0 ≤ aB B e i y 18 x ∧ aB B e i y 18 x < B 6 0) ∧ (-1 ≤ aB B e i y 19 x ∧ aB B e i y 19 x < B 4 0) ∧ (0 ≤ aB B e i y 20 x ∧ aB B e i y 20 x ≤ B 1 0)
    simp [aB, sB]
    by_cases q : x = B 17 0
    · subst q; simp; omega
    · simp [q]; have := h4 x (by omega); omega
/-- all shades together at the end -/
def TOT (B : BK) : Int := ALS B (YS B (bt 0) (B 1 0).toNat)
theorem TOT_in {B : BK} (hW : WB B) : 0 ≤ TOT B ∧ TOT B ≤ 420 := ALS_in hW.s (TB_YS hW (w := bt 0) (fun k _ => bt_01 0 k) (B 1 0).toNat)
/-- the last shade -/
def LAS (B : BK) (e : Int) : Int := SHD B (bt 0) (B 1 0) e
def q_by (B : BK) (l : Int) : Int := if B 0 0 = 0 ∨ l < 0 ∨ 3 < l then -2 else TOT (sB B 2 0 l)
def q_law (B : BK) : Int := if B 0 0 = 0 then -2 else mxN (fun l => TOT (sB B 2 0 l)) 3
def q_later (B : BK) (e n : Int) : Int := if (e < 0 ∨ B 6 0 ≤ e) ∨ (n < 0 ∨ 20 < n) then -2 else LAS (sB B 13 e (B 13 e + n)) e
def q_other (B : BK) (e i : Int) : Int := if (e < 0 ∨ B 6 0 ≤ e) ∨ (i < 0 ∨ B 4 0 ≤ i) then -2 else LAS (sB B 12 e i) e
/-- a book that stands: bounds as they are told, and nothing without lines -/
def GB (B : BK) : Prop := WB B ∧ (∀ e, 0 ≤ e ∧ e < B 6 0 → B 13 e ≤ 20) ∧ B 17 0 ≤ 30 ∧ (B 0 0 = 0 → B 1 0 = 0 ∧ B 4 0 = 0 ∧ B 5 0 = 0 ∧ B 6 0 = 0 ∧ B 17 0 = 0)
theorem GB.w {B : BK} (h : GB B) : WB B := h.1
theorem GB.n {B : BK} (h : GB B) {e : Int} (he : 0 ≤ e ∧ e < B 6 0) : B 13 e ≤ 20 := h.2.1 e he
