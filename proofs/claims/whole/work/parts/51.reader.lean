/-! THE READER: tokens by their places -/
def ADVn (p : Int → Prop) [DecidablePred p] : Nat → Int → Int
  | 0, i => i
  | k + 1, i => if p i then ADVn p k (i + 1) else i
def ADV (p : Int → Prop) [DecidablePred p] (n i : Int) : Int := ADVn p (n - i).toNat i
theorem ADV_ge {p : Int → Prop} [DecidablePred p] {n i : Int} (h : n ≤ i) : ADV p n i = i := by
  unfold ADV
  rw [show (n - i).toNat = 0 by omega]
  rfl
theorem ADV_no {p : Int → Prop} [DecidablePred p] {n i : Int} (h : ¬ p i) : ADV p n i = i := by
  unfold ADV
  cases (n - i).toNat with
  | zero => rfl
  | succ k => rw [ADVn, if_neg h]
theorem ADV_yes {p : Int → Prop} [DecidablePred p] {n i : Int} (hi : i < n) (h : p i) : ADV p n i = ADV p n (i + 1) := by
  unfold ADV
  rw [show (n - i).toNat = (n - (i + 1)).toNat + 1 by omega, ADVn, if_pos h]
theorem ADV_in {p : Int → Prop} [DecidablePred p] {n : Int} : ∀ (k : Nat) (i : Int), (n - i).toNat = k → i ≤ n → i ≤ ADV p n i ∧ ADV p n i ≤ n
  | 0, i, hk, hi => by rw [ADV_ge (by omega)]; omega
  | k + 1, i, hk, hi => by
    by_cases h : p i
    · rw [ADV_yes (by omega) h]
      have := ADV_in (p := p) (n := n) k (i + 1) (by omega) (by omega)
      omega
    · rw [ADV_no h]; omega
theorem ADV_all {p : Int → Prop} [DecidablePred p] {n : Int} : ∀ (k : Nat) (i : Int), (n - i).toNat = k → i ≤ n → ∀ x : Int, i ≤ x ∧ x < ADV p n i → p x
  | 0, i, hk, hi, x, hx => by rw [ADV_ge (by omega)] at hx; omega
  | k + 1, i, hk, hi, x, hx => by
    by_cases h : p i
    · by_cases e : x = i
      · subst e; exact h
      · rw [ADV_yes (by omega) h] at hx
        exact ADV_all (p := p) (n := n) k (i + 1) (by omega) (by omega) x (by omega)
    · rw [ADV_no h] at hx; omega
abbrev BLK (T : Int → Int) (x : Int) : Prop := T x = 32 ∨ T x = 10
abbrev LET (T : Int → Int) (x : Int) : Prop := 97 ≤ T x ∧ T x ≤ 122
abbrev DIG (T : Int → Int) (x : Int) : Prop := 48 ≤ T x ∧ T x ≤ 57
/-- the token behind a place: its start, kind, end, number -/
def TS (T : Int → Int) (n i : Int) : Int := ADV (BLK T) n i
def TK (T : Int → Int) (n i : Int) : Int := if n ≤ TS T n i then 0 else if LET T (TS T n i) then 1 else if DIG T (TS T n i) then 2 else if T (TS T n i) = 59 then 3 else 4
def TE (T : Int → Int) (n i : Int) : Int := if TK T n i = 0 then TS T n i else if TK T n i = 1 then ADV (LET T) n (TS T n i) else if TK T n i = 2 then ADV (DIG T) n (TS T n i) else TS T n i + 1
def NM (T : Int → Int) (s : Int) : Nat → Int
  | 0 => 0
  | k + 1 => 10 * NM T s k + (T (s + k) - 48)
def TV (T : Int → Int) (n i : Int) : Int := NM T (TS T n i) (TE T n i - TS T n i).toNat
theorem TS_in {T : Int → Int} {n i : Int} (hi : 0 ≤ i ∧ i ≤ n) : i ≤ TS T n i ∧ TS T n i ≤ n := ADV_in _ i rfl hi.2
theorem TK_in (T : Int → Int) (n i : Int) : 0 ≤ TK T n i ∧ TK T n i ≤ 4 := by
  unfold TK
  (repeat' split) <;> omega
theorem TK_0 {T : Int → Int} {n i : Int} : TK T n i = 0 ↔ n ≤ TS T n i := by
  unfold TK
  (repeat' split) <;> simp_all
theorem TK_1 {T : Int → Int} {n i : Int} : TK T n i = 1 ↔ TS T n i < n ∧ LET T (TS T n i) := by
  unfold TK
  by_cases h : n ≤ TS T n i
  · rw [if_pos h]; constructor <;> intro q <;> omega
  · rw [if_neg h]
    by_cases h1 : LET T (TS T n i)
    · rw [if_pos h1]; exact ⟨fun _ => ⟨by omega, h1⟩, fun _ => rfl⟩
    · rw [if_neg h1]
      by_cases h2 : DIG T (TS T n i)
      · rw [if_pos h2]; constructor <;> intro q <;> omega
      · rw [if_neg h2]
        split
        · exact ⟨fun q => by omega, fun q => absurd q.2 h1⟩
        · exact ⟨fun q => by omega, fun q => absurd q.2 h1⟩
theorem TK_2 {T : Int → Int} {n i : Int} : TK T n i = 2 ↔ TS T n i < n ∧ DIG T (TS T n i) := by
  unfold TK
  by_cases h : n ≤ TS T n i
  · rw [if_pos h]; constructor <;> intro q <;> omega
  · rw [if_neg h]
    by_cases h1 : LET T (TS T n i)
    · rw [if_pos h1]; constructor <;> intro q <;> omega
    · rw [if_neg h1]
      by_cases h2 : DIG T (TS T n i)
      · rw [if_pos h2]; exact ⟨fun _ => ⟨by omega, h2⟩, fun _ => rfl⟩
      · rw [if_neg h2]
        split
        · exact ⟨fun q => by omega, fun q => absurd q.2 h2⟩
        · exact ⟨fun q => by omega, fun q => absurd q.2 h2⟩
theorem TK_3 {T : Int → Int} {n i : Int} : TK T n i = 3 ↔ TS T n i < n ∧ T (TS T n i) = 59 := by
  unfold TK
  by_cases h : n ≤ TS T n i
  · rw [if_pos h]; constructor <;> intro q <;> omega
  · rw [if_neg h]
    by_cases h1 : LET T (TS T n i)
    · rw [if_pos h1]; constructor <;> intro q <;> omega
    · rw [if_neg h1]
      by_cases h2 : DIG T (TS T n i)
      · rw [if_pos h2]; constructor <;> intro q <;> omega
      · rw [if_neg h2]
        by_cases h3 : T (TS T n i) = 59
        · rw [if_pos h3]; exact ⟨fun _ => ⟨by omega, h3⟩, fun _ => rfl⟩
        · rw [if_neg h3]; exact ⟨fun q => by omega, fun q => absurd q.2 h3⟩
theorem TE_0 {T : Int → Int} {n i : Int} (h : TK T n i = 0) : TE T n i = TS T n i := if_pos h
theorem TE_1 {T : Int → Int} {n i : Int} (h : TK T n i = 1) : TE T n i = ADV (LET T) n (TS T n i) := by unfold TE; rw [if_neg (by omega), if_pos h]
theorem TE_2 {T : Int → Int} {n i : Int} (h : TK T n i = 2) : TE T n i = ADV (DIG T) n (TS T n i) := by unfold TE; rw [if_neg (by omega), if_neg (by omega), if_pos h]
theorem TE_3 {T : Int → Int} {n i : Int} (h : 3 ≤ TK T n i) : TE T n i = TS T n i + 1 := by unfold TE; rw [if_neg (by omega), if_neg (by omega), if_neg (by omega)]
theorem TE_in {T : Int → Int} {n i : Int} (hi : 0 ≤ i ∧ i ≤ n) : TS T n i ≤ TE T n i ∧ TE T n i ≤ n ∧ (TK T n i ≠ 0 → TS T n i < TE T n i) := by
  have hs := TS_in (T := T) hi
  have hk := TK_in T n i
  have h0 := TK_0 (T := T) (n := n) (i := i)
  have hc : TK T n i = 0 ∨ TK T n i = 1 ∨ TK T n i = 2 ∨ 3 ≤ TK T n i := by omega
  rcases hc with h | h | h | h
  · rw [TE_0 h]; omega
  · have := TK_1.mp h
    have h2 := ADV_in (p := LET T) (n := n) _ (TS T n i + 1) rfl (by omega)
    rw [TE_1 h, ADV_yes this.1 this.2]; omega
  · have := TK_2.mp h
    have h2 := ADV_in (p := DIG T) (n := n) _ (TS T n i + 1) rfl (by omega)
    rw [TE_2 h, ADV_yes this.1 this.2]; omega
  · rw [TE_3 h]; omega
theorem TE_let {T : Int → Int} {n i : Int} (hi : 0 ≤ i ∧ i ≤ n) (h : TK T n i = 1) : ∀ x : Int, TS T n i ≤ x ∧ x < TE T n i → LET T x := by
  rw [TE_1 h]
  exact ADV_all _ _ rfl (TS_in hi).2
theorem TE_dig {T : Int → Int} {n i : Int} (hi : 0 ≤ i ∧ i ≤ n) (h : TK T n i = 2) : ∀ x : Int, TS T n i ≤ x ∧ x < TE T n i → DIG T x := by
  rw [TE_2 h]
  exact ADV_all _ _ rfl (TS_in hi).2
theorem NM_S (T : Int → Int) (s : Int) (k : Nat) : NM T s (k + 1) = 10 * NM T s k + (T (s + k) - 48) := rfl
theorem NM_in {T : Int → Int} {s : Int} : ∀ {k : Nat}, (∀ x : Int, s ≤ x ∧ x < s + k → DIG T x) → 0 ≤ NM T s k
  | 0, _ => Int.le_refl 0
  | k + 1, h => by
    have ih := NM_in (T := T) (s := s) (k := k) (fun x hx => h x (by omega))
    have := h (s + k) (by omega)
    rw [NM_S]
    omega
/-- the word behind a place -/
abbrev WRD (T : Int → Int) (n i : Int) (w : Nat) : Prop := TK T n i = 1 ∧ TE T n i - TS T n i = SLN w ∧ fst (fun x => T (TS T n i + x) ≠ SCH w x) (SLN w).toNat 0 = -1
theorem WRD_iff {T : Int → Int} {n i : Int} {w : Nat} : WRD T n i w ↔ TK T n i = 1 ∧ TE T n i - TS T n i = SLN w ∧ ∀ x : Int, 0 ≤ x ∧ x < SLN w → T (TS T n i + x) = SCH w x := by
  unfold WRD
  rw [fst_m1]
  constructor
  · intro h
    exact ⟨h.1, h.2.1, fun x hx => Decidable.of_not_not (h.2.2 x (by omega))⟩
  · intro h
    exact ⟨h.1, h.2.1, fun x hx q => q (h.2.2 x (by omega))⟩
/-! the class's reader -/
def RDF (σ : MM) (T : Int → Int) (n : Int) : Prop := σ 1 0 1 = n ∧ (0 ≤ n ∧ n ≤ 700) ∧ ∀ x : Int, 0 ≤ x ∧ x < n → σ 2 0 x = T x ∧ -128 ≤ T x ∧ T x ≤ 127
def OffT (σ σ' : MM) : Prop := ∀ (t : Nat) (k z : Int), ¬ (t = 1 ∧ 4 ≤ z ∧ z ≤ 7) → σ' t k z = σ t k z
def OffR (σ σ' : MM) : Prop := ∀ (t : Nat) (k z : Int), ¬ (t = 1 ∧ 2 ≤ z ∧ z ≤ 7) → σ' t k z = σ t k z
theorem OffT.rf {σ : MM} : OffT σ σ := fun _ _ _ _ => rfl
theorem OffT.tr {σ σ1 σ2 : MM} (h : OffT σ σ1) (h2 : OffT σ1 σ2) : OffT σ σ2 := fun t k z a => (h2 t k z a).trans (h t k z a)
theorem OffT.set {σ : MM} {k z v : Int} (h : 4 ≤ z ∧ z ≤ 7) : OffT σ (setI σ 1 k z v) := fun t' k' z' a => by
  have : ¬ (t' = 1 ∧ k' = k ∧ z' = z) := fun q => a ⟨q.1, by omega, by omega⟩
  simp only [setI, this, if_false]
theorem OffR.rf {σ : MM} : OffR σ σ := fun _ _ _ _ => rfl
theorem OffR.tr {σ σ1 σ2 : MM} (h : OffR σ σ1) (h2 : OffR σ1 σ2) : OffR σ σ2 := fun t k z a => (h2 t k z a).trans (h t k z a)
theorem OffR.set {σ : MM} {k z v : Int} (h : 2 ≤ z ∧ z ≤ 7) : OffR σ (setI σ 1 k z v) := fun t' k' z' a => by
  have : ¬ (t' = 1 ∧ k' = k ∧ z' = z) := fun q => a ⟨q.1, by omega, by omega⟩
  simp only [setI, this, if_false]
theorem OffT.R {σ σ' : MM} (h : OffT σ σ') : OffR σ σ' := fun t k z a => h t k z (fun q => a ⟨q.1, by omega, by omega⟩)
theorem OffR.rdf {σ σ' : MM} {T : Int → Int} {n : Int} (h : OffR σ σ') (hr : RDF σ T n) : RDF σ' T n := by
  refine ⟨(h 1 0 1 (by omega)).trans hr.1, hr.2.1, fun x hx => ?_⟩
  rw [h 2 0 x (by omega)]
  exact hr.2.2 x hx
theorem OffR.CB {σ σ' : MM} {b : Int} {B : BK} (h : OffR σ σ') (hB : CB σ b B) : CB σ' b B := hB.cong (fun t ht => by funext z; exact h t b z (by omega))
theorem OffT.rdf {σ σ' : MM} {T : Int → Int} {n : Int} (h : OffT σ σ') (hr : RDF σ T n) : RDF σ' T n := h.R.rdf hr
def BYA (T : Int → Int) (n x : Int) : Int := if 0 ≤ x ∧ x < n then T x % 256 else -1
def TOK (σ : MM) (T : Int → Int) (n i : Int) : Prop := σ 1 0 4 = TK T n i ∧ σ 1 0 5 = TS T n i ∧ σ 1 0 6 = TE T n i ∧ (TK T n i = 2 → σ 1 0 7 = min 1000 (TV T n i))
theorem bw_by : ∀ n : Nat, n < 256 → iN ((n : Int) - 128) &&& iN 255 = iN (((n : Int) - 128) % 256) := by decide +kernel
theorem bw_byi {x : Int} (h : -128 ≤ x ∧ x ≤ 127) : iN x &&& iN 255 = iN (x % 256) := by
  have := bw_by (x + 128).toNat (by omega)
  rw [show (((x + 128).toNat : Nat) : Int) - 128 = x by omega] at this
  exact this
/-! reading, as the document tells it: a state is (fault, the place of the token's start ahead or of the fault) -/
def NBF (T : Int → Int) (n : Int) (w : Nat) (lo hi : Int) (s : Int × Int) : (Int × Int) × Int :=
  if s.1 ≠ 0 then (s, 0)
  else if ¬ WRD T n s.2 w then ((1, TS T n s.2), 0)
  else if TK T n (TE T n s.2) ≠ 2 then ((1, TS T n (TE T n s.2)), 0)
  else if TV T n (TE T n s.2) < lo ∨ hi < TV T n (TE T n s.2) then ((2, TS T n (TE T n s.2)), 0)
  else ((0, TE T n (TE T n s.2)), TV T n (TE T n s.2))
def HDL (T : Int → Int) (n p : Int) (B : BK) : (Int × Int) × BK :=
  let r1 := NBF T n 4 1 20 (0, TE T n p)
  let r2 := NBF T n 5 0 3 r1.1
  let r3 := NBF T n 6 0 10 r2.1
  (r3.1, sB (sB (sB B 1 0 r1.2) 2 0 r2.2) 3 0 r3.2)
def INL (T : Int → Int) (n p : Int) (B : BK) : (Int × Int) × BK :=
  if 4 ≤ B 4 0 then ((3, TS T n p), B) else
  let r1 := NBF T n 7 1 20 (0, TE T n p)
  let r2 := NBF T n 8 1 60 r1.1
  let r3 := NBF T n 9 0 9 r2.1
  (r3.1, if r3.1.1 = 0 then iB B r1.2 r2.2 r3.2 else B)
def PGL (T : Int → Int) (n p : Int) (B : BK) : (Int × Int) × BK :=
  if 4 ≤ B 5 0 then ((3, TS T n p), B) else
  ((0, if WRD T n (TE T n p) 10 then TE T n (TE T n p) else TE T n p), pB B (bI (WRD T n (TE T n p) 10)))
def ENL (T : Int → Int) (n p : Int) (B : BK) : (Int × Int) × BK :=
  if 7 ≤ B 6 0 then ((3, TS T n p), B) else
  let r1 := NBF T n 11 0 (B 5 0 - 1) (0, TE T n p)
  let r2 := NBF T n 12 0 (B 4 0 - 1) r1.1
  let r3 := NBF T n 13 0 20 r2.1
  let r4 := NBF T n 14 0 20 r3.1
  (r4.1, if r4.1.1 = 0 then eB B r1.2 r2.2 r3.2 r4.2 else B)
def LIN (T : Int → Int) (n p : Int) (B : BK) : (Int × Int) × BK :=
  if (WRD T n p 0 ↔ 0 < B 0 0) then ((1, TS T n p), B)
  else if WRD T n p 0 then HDL T n p B
  else if WRD T n p 1 then INL T n p B
  else if WRD T n p 2 then PGL T n p B
  else if WRD T n p 3 then ENL T n p B
  else ((1, TS T n p), B)
/-- what follows a line -/
def STE (T : Int → Int) (n : Int) (r : (Int × Int) × BK) : (Int × Int) × BK :=
  if r.1.1 ≠ 0 then r
  else if TK T n r.1.2 ≠ 3 then ((1, TS T n r.1.2), r.2)
  else ((0, TE T n r.1.2), sB r.2 0 0 (r.2 0 0 + 1))
def RBI (T : Int → Int) (n : Int) : Nat → (Int × Int) × BK
  | 0 => ((0, 0), zB)
  | k + 1 => if (RBI T n k).1.1 ≠ 0 ∨ TK T n (RBI T n k).1.2 = 0 then RBI T n k else STE T n (LIN T n (RBI T n k).1.2 (RBI T n k).2)
/-- the book that a text tells, and its fault -/
def BOK (T : Int → Int) (n : Int) : (Int × Int) × BK := RBI T n 700
theorem NBF_in {T : Int → Int} {n lo hi : Int} {w : Nat} {s : Int × Int} (hs : 0 ≤ s.2 ∧ s.2 ≤ n) (hf : 0 ≤ s.1 ∧ s.1 ≤ 3) : ((0 ≤ (NBF T n w lo hi s).1.1 ∧ (NBF T n w lo hi s).1.1 ≤ 3) ∧ (0 ≤ (NBF T n w lo hi s).1.2 ∧ (NBF T n w lo hi s).1.2 ≤ n)) ∧ ((NBF T n w lo hi s).2 = 0 ∨ (lo ≤ (NBF T n w lo hi s).2 ∧ (NBF T n w lo hi s).2 ≤ hi)) ∧ ((NBF T n w lo hi s).1.1 = 0 → lo ≤ (NBF T n w lo hi s).2 ∧ (NBF T n w lo hi s).2 ≤ hi ∧ s.1 = 0 ∧ s.2 ≤ (NBF T n w lo hi s).1.2) := by
  have h1 := TS_in (T := T) hs
  have h2 := TE_in (T := T) hs
  have h3 : 0 ≤ TE T n s.2 ∧ TE T n s.2 ≤ n := by omega
  have h4 := TS_in (T := T) h3
  have h5 := TE_in (T := T) h3
  unfold NBF
  by_cases c1 : s.1 ≠ 0
  · rw [if_pos c1]; exact ⟨⟨hf, hs⟩, Or.inl rfl, fun q => absurd q c1⟩
  · rw [if_neg c1]
    by_cases c2 : ¬ WRD T n s.2 w
    · rw [if_pos c2]; exact ⟨⟨by show 0 ≤ (1 : Int) ∧ (1 : Int) ≤ 3; omega, by show 0 ≤ TS T n s.2 ∧ TS T n s.2 ≤ n; omega⟩, Or.inl rfl, fun q => absurd (show (1 : Int) = 0 from q) (by decide)⟩
    · rw [if_neg c2]
      by_cases c3 : TK T n (TE T n s.2) ≠ 2
      · rw [if_pos c3]; exact ⟨⟨by show 0 ≤ (1 : Int) ∧ (1 : Int) ≤ 3; omega, by show 0 ≤ TS T n (TE T n s.2) ∧ TS T n (TE T n s.2) ≤ n; omega⟩, Or.inl rfl, fun q => absurd (show (1 : Int) = 0 from q) (by decide)⟩
      · rw [if_neg c3]
        by_cases c4 : TV T n (TE T n s.2) < lo ∨ hi < TV T n (TE T n s.2)
        · rw [if_pos c4]; exact ⟨⟨by show 0 ≤ (2 : Int) ∧ (2 : Int) ≤ 3; omega, by show 0 ≤ TS T n (TE T n s.2) ∧ TS T n (TE T n s.2) ≤ n; omega⟩, Or.inl rfl, fun q => absurd (show (2 : Int) = 0 from q) (by decide)⟩
        · rw [if_neg c4]; exact ⟨⟨by show 0 ≤ (0 : Int) ∧ (0 : Int) ≤ 3; omega, by show 0 ≤ TE T n (TE T n s.2) ∧ TE T n (TE T n s.2) ≤ n; omega⟩, Or.inr (by show lo ≤ TV T n (TE T n s.2) ∧ TV T n (TE T n s.2) ≤ hi; omega), fun _ => ⟨by show lo ≤ TV T n (TE T n s.2); omega, by show TV T n (TE T n s.2) ≤ hi; omega, by omega, by show s.2 ≤ TE T n (TE T n s.2); omega⟩⟩
/-- a reader's state -/
def RST (σ : MM) (T : Int → Int) (n : Int) (s : Int × Int) : Prop := σ 1 0 2 = s.1 ∧ (0 ≤ s.1 ∧ s.1 ≤ 3) ∧ (0 ≤ s.2 ∧ s.2 ≤ n) ∧ (s.1 = 0 → TOK σ T n s.2 ∧ σ 1 0 3 = -1) ∧ (s.1 ≠ 0 → σ 1 0 3 = s.2) ∧ (0 ≤ σ 1 0 4 ∧ σ 1 0 4 ≤ 4)
