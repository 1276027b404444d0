/-! BOOKS that differ in a number, or are copied -/
def OffB (b : Int) (σ σ' : MM) : Prop := ∀ (t : Nat) (k z : Int), ¬ (3 ≤ t ∧ t ≤ 17 ∧ k = b) → σ' t k z = σ t k z
def AcCp (b b2 : Int) (σ σ' : MM) : Prop := σ' 14 b 3 = σ 14 b2 3 ∧ (∀ i : Int, 0 ≤ i ∧ i < σ 14 b2 3 → σ' 15 b i = σ 15 b2 i ∧ σ' 16 b i = σ 16 b2 i ∧ σ' 17 b i = σ 17 b2 i) ∧ ∀ (t : Nat) (k z : Int), ¬ (14 ≤ t ∧ t ≤ 17 ∧ k = b) → σ' t k z = σ t k z
theorem OffB.rf {b : Int} {σ : MM} : OffB b σ σ := fun _ _ _ _ => rfl
theorem OffB.tr {b : Int} {σ σ1 σ2 : MM} (h : OffB b σ σ1) (h2 : OffB b σ1 σ2) : OffB b σ σ2 := fun t k z a => (h2 t k z a).trans (h t k z a)
theorem OffB.set {b : Int} {σ : MM} {t : Nat} {j v : Int} (ht : 3 ≤ t ∧ t ≤ 17) : OffB b σ (setI σ t b j v) := fun t' k z a => by
  have : ¬ (t' = t ∧ k = b ∧ z = j) := fun q => a ⟨by omega, by omega, q.2.1⟩
  simp only [setI, this, if_false]
theorem OffB.CB {b b2 : Int} {σ σ' : MM} {B : BK} (h : OffB b σ σ') (hne : b2 ≠ b) (hB : CB σ b2 B) : CB σ' b2 B := hB.cong (fun t ht => by funext z; exact h t b2 z (fun q => hne q.2.2))
theorem OffB.tag {b : Int} {σ σ' : MM} (h : OffB b σ σ') {t : Nat} (ht : t < 3 ∨ 17 < t) : σ' t = σ t := by
  funext k z
  exact h t k z (fun q => by omega)
theorem OffB.ck {b j : Int} {σ σ' : MM} {B : BK} {w : Int → Int} (h : OffB b σ σ') (hk : CK σ j B w) : CK σ' j B w := fun y hy => by
  have e1 := h.tag (t := 21) (by omega)
  have e2 := h.tag (t := 22) (by omega)
  have e3 := h.tag (t := 23) (by omega)
  have hk := hk y hy
  have e : RS σ' j y = RS σ j y := by unfold RS; rw [e1, e2, e3]
  unfold RK at hk ⊢
  rw [e, e1]
  exact hk
/-- one number of a book is another -/
def sB (B : BK) (t : Nat) (k v : Int) : BK := fun t' k' => if t' = t ∧ k' = k then v else B t' k'
def aB (B : BK) (e i y : Int) : BK := sB (sB (sB (sB B 18 (B 17 0) e) 19 (B 17 0) i) 20 (B 17 0) y) 17 0 (B 17 0 + 1)
theorem PLN_cong {B B' : BK} {e : Int} (h : B' 11 = B 11) : ∀ n : Nat, PLN B' e n = PLN B e n
  | 0 => rfl
  | n + 1 => by rw [PLN, PLN, PLN_cong h n, h]
theorem PLC_cong {B B' : BK} (h : B' 11 = B 11) (e : Int) : PLC B' e = PLC B e := PLN_cong h _
theorem fst_cong {p q : Int → Prop} [DecidablePred p] [DecidablePred q] : ∀ (k : Nat) (i : Int), (∀ x : Int, i ≤ x ∧ x < i + k → (p x ↔ q x)) → fst p k i = fst q k i
  | 0, _, _ => rfl
  | k + 1, i, h => by
    rw [fst, fst, fst_cong k (i + 1) (fun x hx => h x (by omega))]
    by_cases hp : p i
    · rw [if_pos hp, if_pos ((h i (by omega)).mp hp)]
    · rw [if_neg hp, if_neg (fun z => hp ((h i (by omega)).mpr z))]
theorem FAC_cong {B B' : BK} (h : B' 11 = B 11) (h6 : B' 6 0 = B 6 0) (e : Int) : FAC B' e = FAC B e := by
  unfold FAC FAN
  rw [h6]
  exact fst_cong _ _ (fun x _ => by rw [h, PLC_cong h, PLC_cong h])
/-- a book's number is written where the book has it -/
theorem CB_put {σ : MM} {b : Int} {B : BK} {t : Nat} {k v : Int} {t' : Nat} {k' : Int} (hB : CB σ b B) (hs : (t = 3 ∧ k = 2 ∧ t' = 2 ∧ k' = 0) ∨ (t = 14 ∧ k = 3 ∧ t' = 17 ∧ k' = 0 ∧ v ≤ B 17 0) ∨ (t = 7 ∧ t' = 10 ∧ k' = k) ∨ (t = 9 ∧ t' = 12 ∧ k' = k) ∨ (t = 10 ∧ t' = 13 ∧ k' = k) ∨ (t = 11 ∧ t' = 14 ∧ k' = k)) : CB (setI σ t b k v) b (sB B t' k' v) := by
  have hf : ∀ e, FAC (sB B t' k' v) e = FAC B e := fun e => FAC_cong (by funext z; simp only [sB]; rw [if_neg (by omega)]) (by simp only [sB]; rw [if_neg (by omega)]) e
  have hp : ∀ e, PLC (sB B t' k' v) e = PLC B e := fun e => PLC_cong (by funext z; simp only [sB]; rw [if_neg (by omega)]) e
  unfold CB at hB ⊢
  simp only [hf, hp]
  obtain ⟨h1, h2, h3, h4, h5⟩ := hB
  rcases hs with ⟨rfl, rfl, rfl, rfl⟩ | ⟨rfl, rfl, rfl, rfl, hv⟩ | ⟨rfl, rfl, rfl⟩ | ⟨rfl, rfl, rfl⟩ | ⟨rfl, rfl, rfl⟩ | ⟨rfl, rfl, rfl⟩
  all_goals
    simp only [setI_at, sB]
    simp (config := {decide := true}) only [if_true, if_false, true_and, false_and, and_true]
    refine ⟨?_, ?_, ?_, ?_, ?_⟩
  all_goals first
    | exact h1
    | exact h2
    | exact h3
    | exact h4
    | exact h5
    | (simp only [h1, and_self])
    | (intro i hi; exact h5 i (by omega))
    | (intro i hi
       by_cases q : i = k'
       · subst q; simp [h4 i hi]
       · simp only [q, if_false]; exact h4 i hi)
    | (intro i hi
       by_cases q : i = k'
       · subst q; simp
       · simp only [q, if_false]; exact h3 i hi)
theorem CB_act {σ : MM} {b e i y : Int} {B : BK} (hB : CB σ b B) : CB (setI (setI (setI (setI σ 15 b (B 17 0) e) 16 b (B 17 0) i) 17 b (B 17 0) y) 14 b 3 (B 17 0 + 1)) b (aB B e i y) := by
  have hf : ∀ x, FAC (aB B e i y) x = FAC B x := fun x => FAC_cong (by funext z; simp [aB, sB]) (by simp [aB, sB]) x
  have hp : ∀ x, PLC (aB B e i y) x = PLC B x := fun x => PLC_cong (by funext z; simp [aB, sB]) x
  unfold CB at hB ⊢
  simp only [hf, hp]
  obtain ⟨h1, h2, h3, h4, h5⟩ := hB
  refine ⟨?_, h2, h3, h4, ?_⟩
  · simp [setI_at, aB, sB, h1]
  · intro x hx
    simp only [aB, sB, setI_at] at hx ⊢
    simp (config := {decide := true}) only [if_true, if_false, true_and, false_and, and_true] at hx ⊢
    by_cases q : x = B 17 0
    · subst q; simp
    · simp only [q, if_false]; exact h5 x (by omega)
theorem CB_cp {σ σ' : MM} {b b2 : Int} {B : BK} (hB : CB σ b2 B) (hW : WS B) (h3 : ∀ z, 0 ≤ z ∧ z < 7 → σ' 3 b z = σ 3 b2 z) (a1 : σ' 14 b 3 = σ 14 b2 3) (a2 : ∀ i : Int, 0 ≤ i ∧ i < σ 14 b2 3 → σ' 15 b i = σ 15 b2 i ∧ σ' 16 b i = σ 16 b2 i ∧ σ' 17 b i = σ 17 b2 i) (ht : ∀ t : Nat, 4 ≤ t ∧ t ≤ 13 → ∀ z, 0 ≤ z ∧ z < (if t < 8 then 4 else 7) → σ' t b z = σ t b2 z) : CB σ' b B := by
  obtain ⟨h1, h2, h3', h4, h5⟩ := hB
  have q4 := ht 4 (by omega); have q5 := ht 5 (by omega); have q6 := ht 6 (by omega); have q7 := ht 7 (by omega); have q8 := ht 8 (by omega); have q9 := ht 9 (by omega); have q10 := ht 10 (by omega); have q11 := ht 11 (by omega); have q12 := ht 12 (by omega); have q13 := ht 13 (by omega)
  simp (config := {decide := true}) only [if_true, if_false] at q4 q5 q6 q7 q8 q9 q10 q11 q12 q13
  refine ⟨?_, ?_, ?_, ?_, ?_⟩
  · rw [h3 0 (by omega), h3 1 (by omega), h3 2 (by omega), h3 3 (by omega), h3 4 (by omega), h3 5 (by omega), h3 6 (by omega), a1]
    exact h1
  · intro i hi; rw [q4 i (by omega), q5 i (by omega), q6 i (by omega)]; exact h2 i hi
  · intro i hi; rw [q7 i (by omega)]; exact h3' i hi
  · intro i hi; rw [q8 i (by omega), q9 i (by omega), q10 i (by omega), q11 i (by omega), q12 i (by omega), q13 i (by omega)]; exact h4 i hi
  · intro i hi
    have e := h1.2.2.2.2.2.2.2
    obtain ⟨b1, b2', b3⟩ := a2 i (by rw [e]; exact hi)
    rw [b1, b2', b3]; exact h5 i hi
/-! telling a book -/
def zB : BK := fun _ _ => 0
def iB (B : BK) (r t f : Int) : BK := sB (sB (sB (sB B 7 (B 4 0) r) 8 (B 4 0) t) 9 (B 4 0) f) 4 0 (B 4 0 + 1)
def pB (B : BK) (d : Int) : BK := sB (sB B 10 (B 5 0) d) 5 0 (B 5 0 + 1)
def eB (B : BK) (p i w s : Int) : BK := sB (sB (sB (sB (sB B 11 (B 6 0) p) 12 (B 6 0) i) 13 (B 6 0) w) 14 (B 6 0) s) 6 0 (B 6 0 + 1)
theorem CB_z {σ : MM} {b : Int} (h : ∀ z : Int, 0 ≤ z ∧ z < 7 → σ 3 b z = 0) (h2 : σ 14 b 3 = 0) : CB σ b zB := by
  have z : ∀ i : Int, 0 ≤ i ∧ i < 0 → False := fun i hi => by omega
  exact ⟨⟨h 0 (by omega), h 1 (by omega), h 2 (by omega), h 3 (by omega), h 4 (by omega), h 5 (by omega), h 6 (by omega), h2⟩, fun i hi => (z i hi).elim, fun i hi => (z i hi).elim, fun i hi => (z i hi).elim, fun i hi => (z i hi).elim⟩
theorem CB_ink {σ : MM} {b r t f : Int} {B : BK} (hB : CB σ b B) : CB (setI (setI (setI (setI σ 4 b (B 4 0) r) 5 b (B 4 0) t) 6 b (B 4 0) f) 3 b 4 (B 4 0 + 1)) b (iB B r t f) := by
  have hf : ∀ x, FAC (iB B r t f) x = FAC B x := fun x => FAC_cong (by funext z; simp [iB, sB]) (by simp [iB, sB]) x
  have hp : ∀ x, PLC (iB B r t f) x = PLC B x := fun x => PLC_cong (by funext z; simp [iB, sB]) x
  unfold CB at hB ⊢
  simp only [hf, hp]
  obtain ⟨h1, h2, h3, h4, h5⟩ := hB
  refine ⟨?_, ?_, h3, h4, h5⟩
  · simp [setI_at, iB, sB, h1]
  · intro x hx
    simp only [iB, sB, setI_at] at hx ⊢
    simp (config := {decide := true}) only [if_true, if_false, true_and, false_and, and_true] at hx ⊢
    by_cases q : x = B 4 0
    · subst q; simp
    · simp only [q, if_false]; exact h2 x (by omega)
theorem CB_page {σ : MM} {b d : Int} {B : BK} (hB : CB σ b B) : CB (setI (setI σ 7 b (B 5 0) d) 3 b 5 (B 5 0 + 1)) b (pB B d) := by
  have hf : ∀ x, FAC (pB B d) x = FAC B x := fun x => FAC_cong (by funext z; simp [pB, sB]) (by simp [pB, sB]) x
  have hp : ∀ x, PLC (pB B d) x = PLC B x := fun x => PLC_cong (by funext z; simp [pB, sB]) x
  unfold CB at hB ⊢
  simp only [hf, hp]
  obtain ⟨h1, h2, h3, h4, h5⟩ := hB
  refine ⟨?_, h2, ?_, h4, h5⟩
  · simp [setI_at, pB, sB, h1]
  · intro x hx
    simp only [pB, sB, setI_at] at hx ⊢
    simp (config := {decide := true}) only [if_true, if_false, true_and, false_and, and_true] at hx ⊢
    by_cases q : x = B 5 0
    · subst q; simp
    · simp only [q, if_false]; exact h3 x (by omega)
/-! who faces whom, an entry more -/
theorem PLN_le {B : BK} {e : Int} : ∀ {n m : Nat}, n ≤ m → PLN B e n ≤ PLN B e m := by
  intro n m h
  induction m with
  | zero => rw [show n = 0 by omega]; exact Int.le_refl _
  | succ m ih =>
    rcases Nat.lt_or_ge n (m + 1) with q | q
    · have := ih (by omega)
      rw [PLN]
      rcases bI_01 (B 11 m = B 11 e) with r | r <;> omega
    · rw [show n = m + 1 by omega]; exact Int.le_refl _
theorem PLN_ce {B : BK} {e e2 : Int} (h : B 11 e = B 11 e2) : ∀ n : Nat, PLN B e n = PLN B e2 n
  | 0 => rfl
  | n + 1 => by rw [PLN, PLN, PLN_ce h n, h]
theorem PLC_lt {B : BK} {x y : Int} (hx : 0 ≤ x) (hy : x < y) (h : B 11 x = B 11 y) : PLC B x < PLC B y := by
  obtain ⟨n, rfl⟩ := Int.eq_ofNat_of_zero_le hx
  unfold PLC
  have h1 := PLN_le (B := B) (e := y) (show n + 1 ≤ y.toNat by omega)
  rw [PLN, bI_t h] at h1
  rw [PLN_ce h]
  simp only [Int.toNat_natCast]
  omega
theorem PLC_inj {B : BK} {x y : Int} (hx : 0 ≤ x) (hy : 0 ≤ y) (h : B 11 x = B 11 y) (h2 : PLC B x = PLC B y) : x = y := by
  rcases Int.lt_trichotomy x y with q | q | q
  · have := PLC_lt hx q h; omega
  · exact q
  · have := PLC_lt hy q h.symm; omega
theorem fst_is {p : Int → Prop} [DecidablePred p] {x : Int} (hp : p x) : ∀ (k : Nat) (i : Int), i ≤ x ∧ x < i + k → (∀ y : Int, i ≤ y ∧ y < x → ¬ p y) → fst p k i = x
  | 0, i, h, _ => by omega
  | k + 1, i, h, hn => by
    rw [fst]
    by_cases q : p i
    · rw [if_pos q]
      rcases Int.lt_trichotomy i x with r | r | r
      · exact absurd q (hn i (by omega))
      · exact r
      · omega
    · rw [if_neg q]
      have : i ≠ x := fun z => q (z ▸ hp)
      exact fst_is hp k (i + 1) (by omega) (fun y hy => hn y (by omega))
theorem fst_no {p : Int → Prop} [DecidablePred p] : ∀ (k : Nat) (i : Int), (∀ y : Int, i ≤ y ∧ y < i + k → ¬ p y) → fst p k i = -1
  | 0, i, _ => rfl
  | k + 1, i, hn => by rw [fst, if_neg (hn i (by omega)), fst_no k (i + 1) (fun y hy => hn y (by omega))]
/-- one that is faced is faced by one alone -/
theorem FAC_is {B : BK} {e x : Int} (hx : 0 ≤ x ∧ x < B 6 0) (h : B 11 x = PFA (B 11 e) ∧ PLC B x = PLC B e) : FAC B e = x := by
  unfold FAC FAN
  refine fst_is h _ _ (by omega) (fun y hy q => ?_)
  have := PLC_inj (B := B) (x := y) (y := x) hy.1 hx.1 (q.1.trans h.1.symm) (q.2.trans h.2.symm)
  omega
theorem FAC_no {B : BK} {e : Int} (hs : 0 ≤ B 6 0) (h : ∀ x : Int, 0 ≤ x ∧ x < B 6 0 → ¬ (B 11 x = PFA (B 11 e) ∧ PLC B x = PLC B e)) : FAC B e = -1 := by
  unfold FAC FAN
  exact fst_no _ _ (fun y hy => h y (by omega))
theorem PFA_PFA {p : Int} : PFA (PFA p) = p := by
  unfold PFA
  split <;> split <;> omega
theorem PFA_ne {p : Int} : PFA p ≠ p := by
  unfold PFA
  split <;> omega
theorem eB_11 {B : BK} {p i w s x : Int} : eB B p i w s 11 x = if x = B 6 0 then p else B 11 x := by simp [eB, sB]
theorem eB_6 {B : BK} {p i w s : Int} : eB B p i w s 6 0 = B 6 0 + 1 := by simp [eB, sB]
theorem eB_PLN {B : BK} {p i w s x : Int} (hx : x ≠ B 6 0) : ∀ n : Nat, (n : Int) ≤ B 6 0 → PLN (eB B p i w s) x n = PLN B x n
  | 0, _ => rfl
  | n + 1, h => by
    rw [PLN, PLN, eB_PLN hx n (by omega), eB_11, eB_11, if_neg (by omega), if_neg hx]
theorem eB_PLC {B : BK} {p i w s x : Int} (hx : 0 ≤ x ∧ x < B 6 0) : PLC (eB B p i w s) x = PLC B x := eB_PLN (by omega) _ (by omega)
/-- does x face the new entry? -/
abbrev MAT (B : BK) (p i w s x : Int) : Prop := B 11 x = PFA p ∧ PLC B x = PLC (eB B p i w s) (B 6 0)
theorem eB_FAC {B : BK} {p i w s x : Int} (hx : 0 ≤ x ∧ x < B 6 0) : FAC (eB B p i w s) x = if MAT B p i w s x then B 6 0 else FAC B x := by
  have e11 : eB B p i w s 11 (B 6 0) = p := by rw [eB_11, if_pos rfl]
  have ex : eB B p i w s 11 x = B 11 x := by rw [eB_11, if_neg (by omega)]
  by_cases h : MAT B p i w s x
  · rw [if_pos h]
    refine FAC_is ⟨by omega, by rw [eB_6]; omega⟩ ⟨?_, ?_⟩
    · rw [e11, ex, h.1, PFA_PFA]
    · rw [eB_PLC hx]; exact h.2.symm
  · rw [if_neg h]
    have hno : ∀ y : Int, 0 ≤ y ∧ y < B 6 0 + 1 → (eB B p i w s 11 y = PFA (eB B p i w s 11 x) ∧ PLC (eB B p i w s) y = PLC (eB B p i w s) x) → y < B 6 0 := by
      intro y hy q
      rcases Int.lt_or_le y (B 6 0) with r | r
      · exact r
      · have : y = B 6 0 := by omega
        subst this
        rw [e11, ex, eB_PLC hx] at q
        exact absurd ⟨by rw [q.1, PFA_PFA], q.2.symm⟩ h
    by_cases hy : ∃ y : Int, (0 ≤ y ∧ y < B 6 0) ∧ B 11 y = PFA (B 11 x) ∧ PLC B y = PLC B x
    · obtain ⟨y, hy, h1⟩ := hy
      rw [FAC_is hy h1]
      refine FAC_is ⟨hy.1, by rw [eB_6]; omega⟩ ?_
      rw [eB_PLC hy, eB_PLC hx, ex, eB_11, if_neg (by omega)]
      exact h1
    · rw [FAC_no (by omega) (fun y hy2 q => hy ⟨y, hy2, q⟩)]
      refine FAC_no (by rw [eB_6]; omega) (fun y hy2 q => hy ⟨y, ?_⟩)
      rw [eB_6] at hy2
      have hlt := hno y hy2 q
      rw [eB_PLC ⟨hy2.1, hlt⟩, eB_PLC hx, ex, eB_11, if_neg (by omega)] at q
      exact ⟨⟨hy2.1, hlt⟩, q⟩
/-- the last of n that match -/
def lst (p : Int → Prop) [DecidablePred p] : Nat → Int
  | 0 => -1
  | n + 1 => if p n then n else lst p n
theorem lst_in {p : Int → Prop} [DecidablePred p] : ∀ n : Nat, (lst p n = -1 ∧ ∀ x : Int, 0 ≤ x ∧ x < n → ¬ p x) ∨ (0 ≤ lst p n ∧ lst p n < n ∧ p (lst p n))
  | 0 => Or.inl ⟨rfl, fun x hx => by omega⟩
  | n + 1 => by
    rw [lst]
    by_cases h : p n
    · rw [if_pos h]; exact Or.inr ⟨by omega, by omega, h⟩
    · rw [if_neg h]
      rcases lst_in (p := p) n with q | q
      · refine Or.inl ⟨q.1, fun x hx => ?_⟩
        rcases Int.lt_or_le x n with r | r
        · exact q.2 x (by omega)
        · rw [show x = n by omega]; exact h
      · exact Or.inr ⟨q.1, by omega, q.2.2⟩
theorem eB_FACn {B : BK} {p i w s : Int} (h6 : 0 ≤ B 6 0) : FAC (eB B p i w s) (B 6 0) = lst (MAT B p i w s) (B 6 0).toNat := by
  have e11 : eB B p i w s 11 (B 6 0) = p := by rw [eB_11, if_pos rfl]
  rcases lst_in (p := MAT B p i w s) (B 6 0).toNat with q | q
  · rw [q.1]
    refine FAC_no (by rw [eB_6]; omega) (fun x hx r => ?_)
    rw [eB_6] at hx
    rw [e11, eB_11] at r
    by_cases hn : x = B 6 0
    · rw [if_pos hn] at r; exact PFA_ne r.1.symm
    · rw [if_neg hn, eB_PLC ⟨hx.1, by omega⟩] at r
      exact q.2 x (by omega) r
  · have hl : 0 ≤ lst (MAT B p i w s) (B 6 0).toNat ∧ lst (MAT B p i w s) (B 6 0).toNat < B 6 0 := ⟨q.1, by omega⟩
    refine FAC_is ⟨hl.1, by rw [eB_6]; omega⟩ ?_
    rw [eB_11, if_neg (by omega), eB_PLC hl, e11]
    exact q.2.2
/-- the state once the last is placed -/
def PLD (σ σ' : MM) (b : Int) (B : BK) (p i w s : Int) : Prop := σ' 12 b (B 6 0) = PLC (eB B p i w s) (B 6 0) ∧ (∀ x : Int, 0 ≤ x ∧ x ≤ B 6 0 → σ' 13 b x = FAC (eB B p i w s) x) ∧ (∀ (t : Nat) (k z : Int), ¬ (t = 12 ∧ k = b ∧ z = B 6 0) → ¬ (t = 13 ∧ k = b) → σ' t k z = σ t k z)
theorem CB_entry {σ σ' : MM} {b p i w s : Int} {B : BK} (hB : CB σ b B) (h6 : 0 ≤ B 6 0) (h : PLD (setI (setI (setI (setI σ 8 b (B 6 0) p) 9 b (B 6 0) i) 10 b (B 6 0) w) 11 b (B 6 0) s) σ' b B p i w s) : CB (setI σ' 3 b 6 (B 6 0 + 1)) b (eB B p i w s) := by
  obtain ⟨a1, a2, a3⟩ := h
  obtain ⟨h1, h2, h3, h4, h5⟩ := hB
  have et : ∀ (t : Nat) (z : Int), t ≠ 12 → t ≠ 13 → t ≠ 8 → t ≠ 9 → t ≠ 10 → t ≠ 11 → σ' t b z = σ t b z := fun t z q1 q2 q3 q4 q5 q6 => by
    rw [a3 t b z (fun q => q1 q.1) (fun q => q2 q.1)]
    simp [setI_at, q3, q4, q5, q6]
  refine ⟨?_, ?_, ?_, ?_, ?_⟩
  · simp [setI_at, eB, sB, et, h1]
  · intro x hx
    have := h2 x (by simpa [eB, sB] using hx)
    simp [setI_at, eB, sB, et, this]
  · intro x hx
    have := h3 x (by simpa [eB, sB] using hx)
    simp [setI_at, eB, sB, et, this]
  · intro x hx
    rw [eB_6] at hx
    have n3 : ∀ t : Nat, t ≠ 3 → (setI σ' 3 b 6 (B 6 0 + 1)) t b x = σ' t b x := fun t q => by simp [setI_at, q]
    rw [n3 8 (by decide), n3 9 (by decide), n3 10 (by decide), n3 11 (by decide), n3 12 (by decide), n3 13 (by decide), a2 x (by omega), a3 8 b x (by omega) (by omega), a3 9 b x (by omega) (by omega), a3 10 b x (by omega) (by omega), a3 11 b x (by omega) (by omega)]
    by_cases q : x = B 6 0
    · subst q
      refine ⟨?_, ?_, ?_, ?_, a1, rfl⟩ <;> simp [setI_at, eB, sB]
    · have hx2 : 0 ≤ x ∧ x < B 6 0 := by omega
      obtain ⟨b1, b2, b3, b4, b5, b6⟩ := h4 x hx2
      refine ⟨?_, ?_, ?_, ?_, ?_, rfl⟩
      · simp [setI_at, eB, sB, q, b1]
      · simp [setI_at, eB, sB, q, b2]
      · simp [setI_at, eB, sB, q, b3]
      · simp [setI_at, eB, sB, q, b4]
      · rw [a3 12 b x (by omega) (by omega), eB_PLC hx2]
        simp [setI_at, b5]
  · intro x hx
    have := h5 x (by simpa [eB, sB] using hx)
    simp [setI_at, eB, sB, et, this]
theorem PLN_in {B : BK} {e : Int} : ∀ n : Nat, 0 ≤ PLN B e n ∧ PLN B e n ≤ n
  | 0 => ⟨Int.le_refl 0, Int.le_refl 0⟩
  | n + 1 => by
    have ih := PLN_in (B := B) (e := e) n
    rw [PLN]
    rcases bI_01 (B 11 n = B 11 e) with h | h <;> omega
theorem PLC_in {B : BK} {k : Int} (hk : 0 ≤ k) : 0 ≤ PLC B k ∧ PLC B k ≤ k := by
  have h := PLN_in (B := B) (e := k) k.toNat
  unfold PLC
  omega
theorem bw_x1 {p : Int} (hp : 0 ≤ p ∧ p < 4) : iN p ^^^ iN 1 = iN (PFA p) := by
  have h : p = 0 ∨ p = 1 ∨ p = 2 ∨ p = 3 := by omega
  rcases h with rfl | rfl | rfl | rfl <;> decide +kernel
