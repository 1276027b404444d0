/-! THE REFERENCE'S STATE -/
def MB (σ : MM) (s : Int) (B : BK) : Prop :=
  (σ 40 0 s = B 0 0 ∧ σ 41 0 (7 * s) = B 1 0 ∧ σ 41 0 (7 * s + 1) = B 2 0 ∧ σ 41 0 (7 * s + 2) = B 3 0 ∧ σ 41 0 (7 * s + 3) = B 4 0 ∧ σ 41 0 (7 * s + 4) = B 5 0 ∧ σ 41 0 (7 * s + 5) = B 6 0 ∧ σ 41 0 (7 * s + 6) = B 17 0) ∧
  (∀ i, 0 ≤ i ∧ i < B 4 0 → σ 42 0 (12 * s + 3 * i) = B 7 i ∧ σ 42 0 (12 * s + 3 * i + 1) = B 8 i ∧ σ 42 0 (12 * s + 3 * i + 2) = B 9 i) ∧
  (∀ i, 0 ≤ i ∧ i < B 5 0 → σ 43 0 (4 * s + i) = B 10 i) ∧
  (∀ i, 0 ≤ i ∧ i < B 6 0 → σ 44 0 (28 * s + 4 * i) = B 11 i ∧ σ 44 0 (28 * s + 4 * i + 1) = B 12 i ∧ σ 44 0 (28 * s + 4 * i + 2) = B 13 i ∧ σ 44 0 (28 * s + 4 * i + 3) = B 14 i) ∧
  (∀ i, 0 ≤ i ∧ i < B 17 0 → σ 45 0 (120 * s + 4 * i) = (if B 19 i = -1 then 1 else 0) ∧ σ 45 0 (120 * s + 4 * i + 1) = B 18 i ∧ (B 19 i ≠ -1 → σ 45 0 (120 * s + 4 * i + 2) = B 19 i) ∧ σ 45 0 (120 * s + 4 * i + 3) = B 20 i)
section MBF
variable {σ : MM} {B : BK}
theorem MB.l (h : MB σ 0 B) : σ 40 0 0 = B 0 0 := h.1.1
theorem MB.h0 (h : MB σ 0 B) : σ 41 0 0 = B 1 0 := h.1.2.1
theorem MB.h1 (h : MB σ 0 B) : σ 41 0 1 = B 2 0 := h.1.2.2.1
theorem MB.h2 (h : MB σ 0 B) : σ 41 0 2 = B 3 0 := h.1.2.2.2.1
theorem MB.h3 (h : MB σ 0 B) : σ 41 0 3 = B 4 0 := h.1.2.2.2.2.1
theorem MB.h4 (h : MB σ 0 B) : σ 41 0 4 = B 5 0 := h.1.2.2.2.2.2.1
theorem MB.h5 (h : MB σ 0 B) : σ 41 0 5 = B 6 0 := h.1.2.2.2.2.2.2.1
theorem MB.h6 (h : MB σ 0 B) : σ 41 0 6 = B 17 0 := h.1.2.2.2.2.2.2.2
theorem MB.i0 (h : MB σ 0 B) {i : Int} (hi : 0 ≤ i ∧ i < B 4 0) : σ 42 0 (3 * i) = B 7 i := by have := (h.2.1 i hi).1; rw [show (12 : Int) * 0 + 3 * i = 3 * i by omega] at this; exact this
theorem MB.i1 (h : MB σ 0 B) {i : Int} (hi : 0 ≤ i ∧ i < B 4 0) : σ 42 0 (3 * i + 1) = B 8 i := by have := (h.2.1 i hi).2.1; rw [show (12 : Int) * 0 + 3 * i = 3 * i by omega] at this; exact this
theorem MB.i2 (h : MB σ 0 B) {i : Int} (hi : 0 ≤ i ∧ i < B 4 0) : σ 42 0 (3 * i + 2) = B 9 i := by have := (h.2.1 i hi).2.2; rw [show (12 : Int) * 0 + 3 * i = 3 * i by omega] at this; exact this
theorem MB.p0 (h : MB σ 0 B) {i : Int} (hi : 0 ≤ i ∧ i < B 5 0) : σ 43 0 i = B 10 i := by have := h.2.2.1 i hi; rw [show (4 : Int) * 0 + i = i by omega] at this; exact this
theorem MB.t0 (h : MB σ 0 B) {i : Int} (hi : 0 ≤ i ∧ i < B 6 0) : σ 44 0 (4 * i) = B 11 i := by have := (h.2.2.2.1 i hi).1; rw [show (28 : Int) * 0 + 4 * i = 4 * i by omega] at this; exact this
theorem MB.t1 (h : MB σ 0 B) {i : Int} (hi : 0 ≤ i ∧ i < B 6 0) : σ 44 0 (4 * i + 1) = B 12 i := by have := (h.2.2.2.1 i hi).2.1; rw [show (28 : Int) * 0 + 4 * i = 4 * i by omega] at this; exact this
theorem MB.t2 (h : MB σ 0 B) {i : Int} (hi : 0 ≤ i ∧ i < B 6 0) : σ 44 0 (4 * i + 2) = B 13 i := by have := (h.2.2.2.1 i hi).2.2.1; rw [show (28 : Int) * 0 + 4 * i = 4 * i by omega] at this; exact this
theorem MB.t3 (h : MB σ 0 B) {i : Int} (hi : 0 ≤ i ∧ i < B 6 0) : σ 44 0 (4 * i + 3) = B 14 i := by have := (h.2.2.2.1 i hi).2.2.2; rw [show (28 : Int) * 0 + 4 * i = 4 * i by omega] at this; exact this
theorem MB.a0 (h : MB σ 0 B) {i : Int} (hi : 0 ≤ i ∧ i < B 17 0) : σ 45 0 (4 * i) = (if B 19 i = -1 then 1 else 0) := by have := (h.2.2.2.2 i hi).1; rw [show (120 : Int) * 0 + 4 * i = 4 * i by omega] at this; exact this
theorem MB.a1 (h : MB σ 0 B) {i : Int} (hi : 0 ≤ i ∧ i < B 17 0) : σ 45 0 (4 * i + 1) = B 18 i := by have := (h.2.2.2.2 i hi).2.1; rw [show (120 : Int) * 0 + 4 * i = 4 * i by omega] at this; exact this
theorem MB.a2 (h : MB σ 0 B) {i : Int} (hi : 0 ≤ i ∧ i < B 17 0) (h9 : B 19 i ≠ -1) : σ 45 0 (4 * i + 2) = B 19 i := by have := (h.2.2.2.2 i hi).2.2.1 h9; rw [show (120 : Int) * 0 + 4 * i = 4 * i by omega] at this; exact this
theorem MB.a3 (h : MB σ 0 B) {i : Int} (hi : 0 ≤ i ∧ i < B 17 0) : σ 45 0 (4 * i + 3) = B 20 i := by have := (h.2.2.2.2 i hi).2.2.2; rw [show (120 : Int) * 0 + 4 * i = 4 * i by omega] at this; exact this
end MBF
theorem MB.cong {σ σ' : MM} {s : Int} {B : BK} (h : MB σ s B) (ht : ∀ t : Nat, 40 ≤ t ∧ t ≤ 45 → σ' t = σ t) : MB σ' s B := by
  unfold MB at h ⊢
  rw [ht 40 (by omega), ht 41 (by omega), ht 42 (by omega), ht 43 (by omega), ht 44 (by omega), ht 45 (by omega)]
  exact h
/-- what the reference uses as it goes -/
abbrev SCM (t : Nat) (z : Int) : Prop := (t = 34 ∧ (z = 0 ∨ (23 ≤ z ∧ z ≤ 30) ∨ (37 ≤ z ∧ z ≤ 39))) ∨ (47 ≤ t ∧ t ≤ 53)
def KM (σ σ' : MM) : Prop := ∀ (t : Nat) (k z : Int), ¬ SCM t z → σ' t k z = σ t k z
theorem KM.rf {σ : MM} : KM σ σ := fun _ _ _ _ => rfl
theorem KM.tr {σ σ1 σ2 : MM} (h : KM σ σ1) (h2 : KM σ1 σ2) : KM σ σ2 := fun t k z a => (h2 t k z a).trans (h t k z a)
theorem KM.set {σ : MM} {t : Nat} {k z v : Int} (h : SCM t z) : KM σ (setI σ t k z v) := fun t' k' z' a => by
  have : ¬ (t' = t ∧ k' = k ∧ z' = z) := fun q => a (by rw [q.1, q.2.2]; exact h)
  simp only [setI, this, if_false]
theorem KM.tag {σ σ' : MM} (h : KM σ σ') {t : Nat} (ht : t < 34 ∨ (35 ≤ t ∧ t ≤ 46) ∨ 53 < t) : σ' t = σ t := by
  funext k z
  exact h t k z (by unfold SCM; omega)
theorem KM.mb {σ σ' : MM} {s : Int} {B : BK} (h : KM σ σ') (hM : MB σ s B) : MB σ' s B := hM.cong (fun t ht => h.tag (by omega))
/-- shades alone change -/
def KR (σ σ' : MM) : Prop := ∀ t : Nat, t ≠ 50 → t ≠ 51 → t ≠ 52 → σ' t = σ t
theorem KR.rf {σ : MM} : KR σ σ := fun _ _ _ _ => rfl
theorem KR.tr {σ σ1 σ2 : MM} (h : KR σ σ1) (h2 : KR σ1 σ2) : KR σ σ2 := fun t a b c => (h2 t a b c).trans (h t a b c)
theorem KR.set {σ : MM} {t : Nat} {k z v : Int} (h : t = 50 ∨ t = 51 ∨ t = 52) : KR σ (setI σ t k z v) := fun t' a b c => setI_tag (by omega)
theorem KR.km {σ σ' : MM} (h : KR σ σ') : KM σ σ' := fun t k z a => by rw [h t (by unfold SCM at a; omega) (by unfold SCM at a; omega) (by unfold SCM at a; omega)]
theorem KR.mb {σ σ' : MM} {s : Int} {B : BK} (h : KR σ σ') (hM : MB σ s B) : MB σ' s B := h.km.mb hM
/-- acts as laid: the book's, then bleachings, then a retracing -/
def LA (σ : MM) (B E : BK) : Prop := (-1 ≤ σ 34 0 26 ∧ σ 34 0 26 < B 6 0) ∧ (0 ≤ σ 34 0 28 ∧ σ 34 0 28 ≤ 9) ∧ (-1 ≤ σ 34 0 29 ∧ σ 34 0 29 < B 6 0) ∧
  (∀ k : Int, 0 ≤ k ∧ k < B 17 0 → E 18 k = B 18 k ∧ E 19 k = B 19 k ∧ E 20 k = B 20 k) ∧
  E 17 0 = B 17 0 + (if σ 34 0 26 = -1 then 0 else σ 34 0 28) + (if σ 34 0 29 = -1 then 0 else 1) ∧
  (σ 34 0 26 ≠ -1 → IR (σ 34 0 27) ∧ ∀ k : Int, B 17 0 ≤ k ∧ k < B 17 0 + σ 34 0 28 → E 18 k = σ 34 0 26 ∧ E 19 k = -1 ∧ E 20 k = σ 34 0 27) ∧
  (σ 34 0 29 ≠ -1 → IR (σ 34 0 30) ∧ E 18 (B 17 0 + (if σ 34 0 26 = -1 then 0 else σ 34 0 28)) = σ 34 0 29 ∧ E 19 (B 17 0 + (if σ 34 0 26 = -1 then 0 else σ 34 0 28)) = B 12 (σ 34 0 29) ∧ E 20 (B 17 0 + (if σ 34 0 26 = -1 then 0 else σ 34 0 28)) = σ 34 0 30)
/-- the book as it is laid: E in place of B, wet years wv -/
def LD (σ : MM) (B E : BK) (wv : Int) : Prop := WB E ∧ (∀ t : Nat, (t ≤ 9 ∧ t ≠ 2) ∨ t = 11 ∨ t = 14 → E t = B t) ∧ σ 34 0 23 = E 2 0 ∧ (σ 34 0 24 = wv ∧ 0 ≤ wv ∧ wv ≤ 2147483647) ∧
  ((0 ≤ σ 34 0 25 ∧ σ 34 0 25 ≤ 127) ∧ ∀ e : Int, 0 ≤ e ∧ e < B 6 0 → (bt (σ 34 0 25) e = 1 ∧ E 13 e = 99) ∨ (bt (σ 34 0 25) e = 0 ∧ σ 47 0 e = E 13 e)) ∧
  (∀ e : Int, 0 ≤ e ∧ e < B 6 0 → σ 48 0 e = E 12 e) ∧ (∀ p : Int, 0 ≤ p ∧ p < B 5 0 → σ 49 0 p = E 10 p) ∧ LA σ B E
section LDF
variable {σ : MM} {B E : BK} {wv : Int}
theorem LD.w (h : LD σ B E wv) : WB E := h.1
theorem LD.e (h : LD σ B E wv) {t : Nat} (ht : (t ≤ 9 ∧ t ≠ 2) ∨ t = 11 ∨ t = 14) : E t = B t := h.2.1 t ht
theorem LD.law (h : LD σ B E wv) : σ 34 0 23 = E 2 0 := h.2.2.1
theorem LD.wet (h : LD σ B E wv) : σ 34 0 24 = wv ∧ 0 ≤ wv ∧ wv ≤ 2147483647 := h.2.2.2.1
theorem LD.nev (h : LD σ B E wv) : 0 ≤ σ 34 0 25 ∧ σ 34 0 25 ≤ 127 := h.2.2.2.2.1.1
theorem LD.wr (h : LD σ B E wv) {e : Int} (he : 0 ≤ e ∧ e < B 6 0) : (bt (σ 34 0 25) e = 1 ∧ E 13 e = 99) ∨ (bt (σ 34 0 25) e = 0 ∧ σ 47 0 e = E 13 e) := h.2.2.2.2.1.2 e he
theorem LD.ik (h : LD σ B E wv) {e : Int} (he : 0 ≤ e ∧ e < B 6 0) : σ 48 0 e = E 12 e := h.2.2.2.2.2.1 e he
theorem LD.dp (h : LD σ B E wv) {p : Int} (hp : 0 ≤ p ∧ p < B 5 0) : σ 49 0 p = E 10 p := h.2.2.2.2.2.2.1 p hp
theorem LD.la (h : LD σ B E wv) : LA σ B E := h.2.2.2.2.2.2.2
end LDF
theorem LD.cong {σ σ' : MM} {B E : BK} {wv : Int} (h : LD σ B E wv) (h34 : σ' 34 = σ 34) (h47 : σ' 47 = σ 47) (h48 : σ' 48 = σ 48) (h49 : σ' 49 = σ 49) : LD σ' B E wv := by
  unfold LD LA at h ⊢
  rw [h34, h47, h48, h49]
  exact h
theorem KR.ld {σ σ' : MM} {B E : BK} {wv : Int} (h : KR σ σ') (hL : LD σ B E wv) : LD σ' B E wv := hL.cong (h 34 (by decide) (by decide) (by decide)) (h 47 (by decide) (by decide) (by decide)) (h 48 (by decide) (by decide) (by decide)) (h 49 (by decide) (by decide) (by decide))
/-- a year's row -/
def MRW (σ : MM) (y : Int) (E T : BK) : Prop := ∀ e : Int, 0 ≤ e ∧ e < E 6 0 → σ 50 0 (7 * y + e) = T 0 e ∧ σ 51 0 (7 * y + e) = T 2 e ∧ (E 13 e ≤ y → σ 52 0 e = T 1 e)
/-- an entry's shade, ink, rising are set -/
def MUP (σ σ' : MM) (y e a b c : Int) : Prop := (σ' 50 0 (7 * y + e) = a ∧ σ' 52 0 e = b ∧ σ' 51 0 (7 * y + e) = c) ∧ (∀ x : Int, x ≠ 7 * y + e → σ' 50 0 x = σ 50 0 x ∧ σ' 51 0 x = σ 51 0 x) ∧ (∀ x : Int, x ≠ e → σ' 52 0 x = σ 52 0 x) ∧ KR σ σ'
theorem MUP.rw {σ σ' : MM} {y e a b c : Int} {E T : BK} (h : MUP σ σ' y e a b c) (hT : MRW σ y E T) : MRW σ' y E (upA T e a b c) := by
  intro x hx
  by_cases q : x = e
  · subst q
    rw [(upA_at T x a b c).1, (upA_at T x a b c).2.1, (upA_at T x a b c).2.2]
    exact ⟨h.1.1, h.1.2.2, fun _ => h.1.2.1⟩
  · rw [upA_ne T a b c 0 q, upA_ne T a b c 1 q, upA_ne T a b c 2 q, (h.2.1 (7 * y + x) (by omega)).1, (h.2.1 (7 * y + x) (by omega)).2, h.2.2.1 x q]
    exact hT x hx
/-- shades and risings as they are -/
def SHM (σ : MM) (B E : BK) (wv : Int) : Prop := ∀ y e : Int, 0 ≤ y ∧ y ≤ B 1 0 → 0 ≤ e ∧ e < B 6 0 → σ 50 0 (7 * y + e) = SHD E (bt wv) y e ∧ σ 51 0 (7 * y + e) = RSD E (bt wv) y e
theorem SHM.s {σ : MM} {B E : BK} {wv y e : Int} (h : SHM σ B E wv) (hy : 0 ≤ y ∧ y ≤ B 1 0) (he : 0 ≤ e ∧ e < B 6 0) : σ 50 0 (7 * y + e) = SHD E (bt wv) y e := (h y e hy he).1
theorem SHM.r {σ : MM} {B E : BK} {wv y e : Int} (h : SHM σ B E wv) (hy : 0 ≤ y ∧ y ≤ B 1 0) (he : 0 ≤ e ∧ e < B 6 0) : σ 51 0 (7 * y + e) = RSD E (bt wv) y e := (h y e hy he).2
