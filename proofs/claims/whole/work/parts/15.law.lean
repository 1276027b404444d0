/-! COURSES: the shades year by year -/
def RS (σ : MM) (j y : Int) : BK := fun f e => if f = 0 then σ 22 (21 * j + y) e else if f = 1 then σ 23 (21 * j + y) e else bt (σ 21 j y) e
def Off (j y : Int) (σ σ' : MM) : Prop := ∀ (t : Nat) (k z : Int), ¬ (t = 22 ∧ k = 21 * j + y) → ¬ (t = 23 ∧ k = 21 * j + y) → ¬ (t = 21 ∧ k = j ∧ z = y) → σ' t k z = σ t k z
def upA (S : BK) (e sh ik rs : Int) : BK := fun f x => if x = e then (if f = 0 then sh else if f = 1 then ik else rs) else S f x
def RowUp (σ σ' : MM) (j y : Int) (S' : BK) : Prop := (0 ≤ σ' 21 j y ∧ σ' 21 j y < p2 7) ∧ (∀ (f : Nat) (e : Int), 0 ≤ e → RS σ' j y f e = S' f e) ∧ Off j y σ σ'
theorem Off.rf {j y : Int} {σ : MM} : Off j y σ σ := fun _ _ _ _ _ _ => rfl
theorem Off.tr {j y : Int} {σ σ1 σ2 : MM} (h : Off j y σ σ1) (h2 : Off j y σ1 σ2) : Off j y σ σ2 := fun t k z a b c => (h2 t k z a b c).trans (h t k z a b c)
theorem Off.tag {j y : Int} {σ σ' : MM} (h : Off j y σ σ') {t : Nat} (ht : t ≠ 21 ∧ t ≠ 22 ∧ t ≠ 23) : σ' t = σ t := by
  funext k z
  exact h t k z (fun q => ht.2.1 q.1) (fun q => ht.2.2 q.1) (fun q => ht.1 q.1)
theorem Off.row {j y j2 y2 : Int} {σ σ' : MM} (h : Off j y σ σ') (hne : ¬ (j2 = j ∧ y2 = y)) (hy : 0 ≤ y ∧ y < 21) (hy2 : 0 ≤ y2 ∧ y2 < 21) : RS σ' j2 y2 = RS σ j2 y2 ∧ σ' 21 j2 y2 = σ 21 j2 y2 := by
  have hk : ¬ (21 * j2 + y2 = 21 * j + y) := by omega
  have e3 : σ' 21 j2 y2 = σ 21 j2 y2 := h 21 j2 y2 (fun q => by omega) (fun q => by omega) (fun q => hne ⟨q.2.1, q.2.2⟩)
  refine ⟨?_, e3⟩
  funext f e
  unfold RS
  rw [h 22 (21 * j2 + y2) e (fun q => hk q.2) (fun q => by omega) (fun q => by omega), h 23 (21 * j2 + y2) e (fun q => by omega) (fun q => hk q.2) (fun q => by omega), e3]
theorem CB.cong {σ σ' : MM} {b : Int} {B : BK} (h : CB σ b B) (ht : ∀ t : Nat, 3 ≤ t ∧ t ≤ 17 → σ' t b = σ t b) : CB σ' b B := by
  have e3 := ht 3 (by omega); have e4 := ht 4 (by omega); have e5 := ht 5 (by omega); have e6 := ht 6 (by omega); have e7 := ht 7 (by omega)
  have e8 := ht 8 (by omega); have e9 := ht 9 (by omega); have e10 := ht 10 (by omega); have e11 := ht 11 (by omega); have e12 := ht 12 (by omega)
  have e13 := ht 13 (by omega); have e14 := ht 14 (by omega); have e15 := ht 15 (by omega); have e16 := ht 16 (by omega); have e17 := ht 17 (by omega)
  unfold CB at h ⊢
  rw [e3, e4, e5, e6, e7, e8, e9, e10, e11, e12, e13, e14, e15, e16, e17]
  exact h
theorem Off.CB {j y b : Int} {σ σ' : MM} {B : BK} (h : Off j y σ σ') (hB : CB σ b B) : CB σ' b B := hB.cong (fun t ht => by rw [h.tag (by omega)])
theorem RowUp.cong {σ σ' : MM} {j y : Int} {S S' : BK} (h : RowUp σ σ' j y S) (hs : ∀ (f : Nat) (e : Int), 0 ≤ e → S f e = S' f e) : RowUp σ σ' j y S' := ⟨h.1, fun f e he => (h.2.1 f e he).trans (hs f e he), h.2.2⟩
theorem RS_0 (σ : MM) (j y e : Int) : RS σ j y 0 e = σ 22 (21 * j + y) e := rfl
theorem RS_1 (σ : MM) (j y e : Int) : RS σ j y 1 e = σ 23 (21 * j + y) e := rfl
theorem RS_2 (σ : MM) (j y e : Int) : RS σ j y 2 e = bt (σ 21 j y) e := rfl
/-- one entry's shade and rising are set -/
theorem RowUp_mk {σ : MM} {j y e n r' b : Int} (hr : 0 ≤ r' ∧ r' < p2 7) (hb : ∀ x : Int, 0 ≤ x → bt r' x = if x = e then b else bt (σ 21 j y) x) : RowUp σ (setI (setI σ 22 (21 * j + y) e n) 21 j y r') j y (upA (RS σ j y) e n (RS σ j y 1 e) b) := by
  have e21 : (setI (setI σ 22 (21 * j + y) e n) 21 j y r') 21 j y = r' := by simp [setI]
  refine ⟨by rw [e21]; exact hr, fun f x hx => ?_, fun t k z h1 h2 h3 => ?_⟩
  · unfold RS upA
    rw [e21, hb x hx]
    by_cases hxe : x = e
    · subst hxe
      by_cases f0 : f = 0
      · subst f0; simp [setI]
      · by_cases f1 : f = 1
        · subst f1; simp [setI, RS]
        · simp [f0, f1]
    · by_cases f0 : f = 0
      · subst f0; simp [setI, hxe]
      · by_cases f1 : f = 1
        · subst f1; simp [setI, hxe]
        · simp [f0, f1, hxe]
  · have a1 : ¬ (t = 21 ∧ k = j ∧ z = y) := h3
    have a2 : ¬ (t = 22 ∧ k = 21 * j + y ∧ z = e) := fun q => h1 ⟨q.1, q.2.1⟩
    simp only [setI, a1, a2, if_false]
/-- an entry's shade alone -/
theorem RowUp_sh {σ : MM} {j y e n : Int} (hr : 0 ≤ σ 21 j y ∧ σ 21 j y < p2 7) : RowUp σ (setI σ 22 (21 * j + y) e n) j y (upA (RS σ j y) e n (RS σ j y 1 e) (RS σ j y 2 e)) := by
  have e21 : (setI σ 22 (21 * j + y) e n) 21 j y = σ 21 j y := by simp [setI]
  refine ⟨by rw [e21]; exact hr, fun f x hx => ?_, fun t k z h1 h2 h3 => ?_⟩
  · unfold RS upA
    rw [e21]
    by_cases hxe : x = e
    · subst hxe
      by_cases f0 : f = 0
      · subst f0; simp [setI]
      · by_cases f1 : f = 1
        · subst f1; simp [setI, RS]
        · simp [f0, f1, RS]
    · by_cases f0 : f = 0
      · subst f0; simp [setI, hxe]
      · by_cases f1 : f = 1
        · subst f1; simp [setI, hxe]
        · simp [f0, f1, hxe]
  · have a2 : ¬ (t = 22 ∧ k = 21 * j + y ∧ z = e) := fun q => h1 ⟨q.1, q.2.1⟩
    simp only [setI, a2, if_false]
/-- an entry's ink alone -/
theorem RowUp_ik {σ : MM} {j y e n : Int} (hr : 0 ≤ σ 21 j y ∧ σ 21 j y < p2 7) : RowUp σ (setI σ 23 (21 * j + y) e n) j y (upA (RS σ j y) e (RS σ j y 0 e) n (RS σ j y 2 e)) := by
  have e21 : (setI σ 23 (21 * j + y) e n) 21 j y = σ 21 j y := by simp [setI]
  refine ⟨by rw [e21]; exact hr, fun f x hx => ?_, fun t k z h1 h2 h3 => ?_⟩
  · unfold RS upA
    rw [e21]
    by_cases hxe : x = e
    · subst hxe
      by_cases f0 : f = 0
      · subst f0; simp [setI, RS]
      · by_cases f1 : f = 1
        · subst f1; simp [setI]
        · simp [f0, f1, RS]
    · by_cases f0 : f = 0
      · subst f0; simp [setI, hxe]
      · by_cases f1 : f = 1
        · subst f1; simp [setI, hxe]
        · simp [f0, f1, hxe]
  · have a2 : ¬ (t = 23 ∧ k = 21 * j + y ∧ z = e) := fun q => h2 ⟨q.1, q.2.1⟩
    simp only [setI, a2, if_false]
/-- rising alone -/
theorem RowUp_rs {σ : MM} {j y e r' b : Int} (hr : 0 ≤ r' ∧ r' < p2 7) (hb : ∀ x : Int, 0 ≤ x → bt r' x = if x = e then b else bt (σ 21 j y) x) : RowUp σ (setI σ 21 j y r') j y (upA (RS σ j y) e (RS σ j y 0 e) (RS σ j y 1 e) b) := by
  have e21 : (setI σ 21 j y r') 21 j y = r' := by simp [setI]
  refine ⟨by rw [e21]; exact hr, fun f x hx => ?_, fun t k z h1 h2 h3 => ?_⟩
  · unfold RS upA
    rw [e21, hb x hx]
    by_cases hxe : x = e
    · subst hxe
      by_cases f0 : f = 0
      · subst f0; simp [setI, RS]
      · by_cases f1 : f = 1
        · subst f1; simp [setI, RS]
        · simp [f0, f1]
    · by_cases f0 : f = 0
      · subst f0; simp [setI, hxe]
      · by_cases f1 : f = 1
        · subst f1; simp [setI, hxe]
        · simp [f0, f1, hxe]
  · simp only [setI, h3, if_false]
theorem RowUp.tr {σ σ1 σ2 : MM} {j y : Int} {S1 S2 : BK} (h : RowUp σ σ1 j y S1) (h2 : RowUp σ1 σ2 j y S2) : RowUp σ σ2 j y S2 := ⟨h2.1, h2.2.1, h.2.2.tr h2.2.2⟩
theorem upA_upA (S : BK) (e a b c a2 b2 c2 : Int) : upA (upA S e a b c) e a2 b2 c2 = upA S e a2 b2 c2 := by
  funext f x
  unfold upA
  by_cases h : x = e <;> simp [h]
theorem upA_cong {S S' : BK} {e a b c : Int} (h : ∀ (f : Nat) (x : Int), 0 ≤ x → S f x = S' f x) : ∀ (f : Nat) (x : Int), 0 ≤ x → upA S e a b c f x = upA S' e a b c f x := by
  intro f x hx
  unfold upA
  rw [h f x hx]
theorem upA_at (S : BK) (e a b c : Int) : upA S e a b c 0 e = a ∧ upA S e a b c 1 e = b ∧ upA S e a b c 2 e = c := by simp [upA]
theorem upA_ne (S : BK) {e x : Int} (a b c : Int) (f : Nat) (h : x ≠ e) : upA S e a b c f x = S f x := by simp [upA, h]
/-! the law of shades -/
def NEW (B : BK) (S : BK) (e i : Int) : BK := upA S e (min (B 7 i) (B 8 i)) i (bI (min (B 7 i) (B 8 i) < B 8 i))
def GON (B P : BK) (e y w : Int) (S : BK) : BK := if P 2 e = 1 then upA S e (min (P 0 e + B 7 (P 1 e)) (B 8 (P 1 e))) (P 1 e) (bI (min (P 0 e + B 7 (P 1 e)) (B 8 (P 1 e)) < B 8 (P 1 e))) else upA S e (max 0 (P 0 e - LOS B (P 1 e) (B 11 e) y w)) (P 1 e) (S 2 e)
def PRF (B : BK) (S : BK) (e i : Int) : BK := if i = -1 then upA S e (max 0 (S 0 e - 10)) (S 1 e) 0 else NEW B S e i
/-- of an entry that is there or not: what it has ahead of rubbing and acts -/
def BAS (B P : BK) (y w : Int) : BK := fun f e => if B 13 e = y then NEW B (fun _ _ => 0) e (B 12 e) f e else if B 13 e < y ∧ 0 < y then GON B P e y w (fun _ _ => 0) f e else 0
abbrev RBC (B P : BK) (y e : Int) : Prop := FAC B e ≠ -1 ∧ B 13 e ≤ y - 1 ∧ B 13 (FAC B e) ≤ y - 1 ∧ P 0 (FAC B e) - P 0 e ≥ 10

def RUB1 (B P : BK) (y n : Int) (S : BK) : BK := fun f e => if f = 0 ∧ e < n ∧ RBC B P y e then min 60 (S 0 e + 1) else S f e
def RUB (B P : BK) (y : Int) (S : BK) : BK := if B 2 0 = 2 ∧ 0 < y then RUB1 B P y (B 6 0) S else S
def ACT (B : BK) (y : Int) (S : BK) : Nat → BK
  | 0 => S
  | n + 1 => if B 20 n = y ∧ B 13 (B 18 n) ≤ y then PRF B (ACT B y S n) (B 18 n) (B 19 n) else ACT B y S n
def PAS (B P : BK) (y w : Int) : BK := ACT B y (RUB B P y (BAS B P y w)) (B 17 0).toNat
/-- all years, by which going from one is wet -/
def YS (B : BK) (w : Int → Int) : Nat → BK
  | 0 => PAS B (fun _ _ => 0) 0 0
  | n + 1 => PAS B (YS B w n) (n + 1) (w n)
theorem fst_in {p : Int → Prop} [DecidablePred p] : ∀ (k : Nat) (i : Int), fst p k i = -1 ∨ (i ≤ fst p k i ∧ fst p k i < i + k ∧ p (fst p k i))
  | 0, _ => Or.inl rfl
  | k + 1, i => by
    rw [fst]
    split
    · rename_i h; exact Or.inr ⟨by omega, by omega, h⟩
    · rcases fst_in (p := p) k (i + 1) with h | h
      · exact Or.inl h
      · exact Or.inr ⟨by omega, by omega, h.2.2⟩
theorem FAC_in {B : BK} (hs : WS B) (e : Int) : -1 ≤ FAC B e ∧ FAC B e < B 6 0 := by
  unfold FAC FAN
  rcases fst_in (p := fun k => B 11 k = PFA (B 11 e) ∧ PLC B k = PLC B e) (B 6 0).toNat 0 with h | h <;> omega
theorem RUB1_no {B P S : BK} {y i : Int} (h : ¬ RBC B P y i) (f : Nat) (x : Int) : RUB1 B P y i S f x = RUB1 B P y (i + 1) S f x := by
  unfold RUB1
  by_cases hx : x = i
  · subst hx; simp [h]
  · have : x < i ↔ x < i + 1 := by omega
    simp [this]
theorem RUB1_yes {B P : BK} {σ : MM} {j y y' i : Int} (h : RBC B P y i) (f : Nat) (x : Int) : upA (RUB1 B P y i (RS σ j y')) i (min 60 (RS σ j y' 0 i + 1)) (RS σ j y' 1 i) (RS σ j y' 2 i) f x = RUB1 B P y (i + 1) (RS σ j y') f x := by
  unfold upA RUB1
  by_cases hx : x = i
  · subst hx
    by_cases f0 : f = 0
    · subst f0
      have : x < x + 1 := by omega
      simp only [if_true, this]
      exact (if_pos ⟨trivial, trivial, h⟩).symm
    · by_cases f1 : f = 1
      · subst f1; simp
      · simp [f0, f1, RS]
  · have : x < i ↔ x < i + 1 := by omega
    simp [hx, this]
theorem RUB1_at {B P S : BK} {y i : Int} (f : Nat) {x : Int} (h : i ≤ x) : RUB1 B P y i S f x = S f x := by
  unfold RUB1
  have : ¬ x < i := by omega
  simp [this]
theorem RUB1_0 {B P S : BK} {y : Int} (f : Nat) {x : Int} (h : 0 ≤ x) : RUB1 B P y 0 S f x = S f x := RUB1_at f h
