/-! THE CLASS'S STATE, as the document has it: book, slots, tape, fault, images -/
abbrev RW : Type := Nat → Int → Int → Int
abbrev CST : Type := BK × RW × (Int → Int) × (Int × Int × Int) × (Int → BK) × (Int → Int)
abbrev CST.B (X : CST) : BK := X.1
abbrev CST.Z (X : CST) : RW := X.2.1
abbrev CST.T (X : CST) : Int → Int := X.2.2.1
abbrev CST.n (X : CST) : Int := X.2.2.2.1.1
abbrev CST.fk (X : CST) : Int := X.2.2.2.1.2.1
abbrev CST.fp (X : CST) : Int := X.2.2.2.1.2.2
abbrev CST.I (X : CST) : Int → BK := X.2.2.2.2.1
abbrev CST.K (X : CST) : Int → Int := X.2.2.2.2.2
def IMS (σ : MM) (I : Int → BK) (K : Int → Int) : Prop := ∀ k : Int, 0 ≤ k ∧ k < 3 → σ 25 0 k = K k ∧ (K k = 0 ∨ (K k = 1 ∧ CB σ (3 + k) (I k) ∧ GB (I k)))
def CRl (σ : MM) (X : CST) : Prop := (CB σ 1 X.B ∧ GB X.B ∧ CK σ 0 X.B (bt 0)) ∧ ZR σ X.Z ∧ RDF σ X.T X.n ∧ (σ 0 0 13 = X.fk ∧ σ 0 0 14 = X.fp ∧ (0 ≤ X.fk ∧ X.fk ≤ 3) ∧ (-1 ≤ X.fp ∧ X.fp ≤ 700)) ∧ IMS σ X.I X.K
section CRF
variable {σ : MM} {X : CST}
theorem CRl.b (h : CRl σ X) : CB σ 1 X.B := h.1.1
theorem CRl.g (h : CRl σ X) : GB X.B := h.1.2.1
theorem CRl.w (h : CRl σ X) : WB X.B := h.1.2.1.w
theorem CRl.c (h : CRl σ X) : CK σ 0 X.B (bt 0) := h.1.2.2
theorem CRl.z (h : CRl σ X) : ZR σ X.Z := h.2.1
theorem CRl.r (h : CRl σ X) : RDF σ X.T X.n := h.2.2.1
theorem CRl.f (h : CRl σ X) : σ 0 0 13 = X.fk ∧ σ 0 0 14 = X.fp ∧ (0 ≤ X.fk ∧ X.fk ≤ 3) ∧ (-1 ≤ X.fp ∧ X.fp ≤ 700) := h.2.2.2.1
theorem CRl.i (h : CRl σ X) : IMS σ X.I X.K := h.2.2.2.2
end CRF
/-- a call of the class leaves the other's alone -/
def FC (σ σ' : MM) : Prop := ∀ t : Nat, 34 ≤ t → σ' t = σ t
theorem FC.rf {σ : MM} : FC σ σ := fun _ _ => rfl
theorem FC.tr {σ σ1 σ2 : MM} (h : FC σ σ1) (h2 : FC σ1 σ2) : FC σ σ2 := fun t q => (h2 t q).trans (h t q)
theorem FC.set {σ : MM} {t : Nat} {k z v : Int} (h : t < 34) : FC σ (setI σ t k z v) := fun t' q => setI_tag (by omega)
theorem Keep.fc {σ σ' : MM} (h : Keep σ σ') : FC σ σ' := fun t q => by funext k z; exact h t k z (by unfold SCR; omega)
theorem OffB.fc {b : Int} {σ σ' : MM} (h : OffB b σ σ') : FC σ σ' := fun t q => h.tag (by omega)
theorem OffC.fc {j : Int} {σ σ' : MM} (h : OffC j σ σ') : FC σ σ' := fun t q => h.tag (by omega)
theorem OffD.fc {σ σ' : MM} (h : OffD σ σ') : FC σ σ' := fun t q => by funext k z; exact h t k z (by omega) (by omega)
theorem OffA.fc {σ σ' : MM} (h : OffA σ σ') : FC σ σ' := fun t q => by funext k z; exact h t k z (by omega) (by omega)
theorem IMS.cong {σ σ' : MM} {I : Int → BK} {K : Int → Int} (h : IMS σ I K) (h25 : σ' 25 = σ 25) (hb : ∀ t : Nat, 3 ≤ t ∧ t ≤ 17 → ∀ b : Int, 3 ≤ b → σ' t b = σ t b) : IMS σ' I K := fun k hk => by
  have := h k hk
  rw [h25]
  refine ⟨this.1, ?_⟩
  rcases this.2 with q | q
  · exact Or.inl q
  · exact Or.inr ⟨q.1, q.2.1.cong (fun t ht => hb t ht (3 + k) (by omega)), q.2.2⟩
theorem ZR.cong {σ σ' : MM} {Z : RW} (h : ZR σ Z) (h27 : σ' 27 = σ 27) (h28 : σ' 28 = σ 28) : ZR σ' Z := by
  unfold ZR at h ⊢
  rw [h27, h28]
  exact h
theorem RDF.cong {σ σ' : MM} {T : Int → Int} {n : Int} (h : RDF σ T n) (h1 : σ' 1 0 1 = σ 1 0 1) (h2 : σ' 2 = σ 2) : RDF σ' T n := by
  unfold RDF at h ⊢
  rw [h1, h2]
  exact h
theorem Keep.crl {σ σ' : MM} {X : CST} (h : Keep σ σ') (hX : CRl σ X) : CRl σ' X := by
  have e : ∀ t : Nat, t ≤ 2 ∨ (24 ≤ t ∧ t ≤ 29) → σ' t = σ t := fun t q => by funext k z; exact h t k z (by unfold SCR; omega)
  refine ⟨⟨h.CB (Or.inl rfl) hX.b, hX.g, h.ck hX.w.s hX.c⟩, h.zr hX.z, hX.r.cong (by rw [e 1 (by omega)]) (e 2 (by omega)), ?_, hX.i.cong (e 25 (by omega)) (fun t ht b hb => by funext z; exact h t b z (by unfold SCR; omega))⟩
  rw [e 0 (by omega)]
  exact hX.f
/-- another book stands, and all else as it was -/
def NEWB (X : CST) (B : BK) : CST := (B, X.Z, X.T, (X.n, X.fk, X.fp), X.I, X.K)
theorem CRl.newb {σ σ1 σ' : MM} {X : CST} {B : BK} (hX : CRl σ X) (h : OffB 1 σ σ1) (h2 : OffC 0 σ1 σ') (hB : CB σ1 1 B) (hG : GB B) (hC : CK σ' 0 B (bt 0)) : CRl σ' (NEWB X B) ∧ FC σ σ' := by
  have e : ∀ t : Nat, t ≤ 2 ∨ (24 ≤ t ∧ t ≤ 33) → σ' t = σ t := fun t q => (h2.tag (by omega)).trans (h.tag (by omega))
  refine ⟨⟨⟨h2.CB hB, hG, hC⟩, hX.z.cong (e 27 (by omega)) (e 28 (by omega)), hX.r.cong (by rw [e 1 (by omega)]) (e 2 (by omega)), ?_, hX.i.cong (e 25 (by omega)) (fun t ht b hb => ?_)⟩, h.fc.tr h2.fc⟩
  · show σ' 0 0 13 = X.fk ∧ σ' 0 0 14 = X.fp ∧ _
    rw [e 0 (by omega)]
    exact hX.f
  · rw [h2.tag (t := t) (by omega)]
    funext z
    exact h t b z (by omega)
/-- the course does not ask what they say -/
theorem YS_says {B B' : BK} (h : ∀ t : Nat, t ≠ 14 → B' t = B t) (w : Int → Int) : ∀ n : Nat, YS B' w n = YS B w n := by
  have e2 := h 2 (by decide); have e6 := h 6 (by decide); have e7 := h 7 (by decide); have e8 := h 8 (by decide); have e9 := h 9 (by decide); have e10 := h 10 (by decide); have e11 := h 11 (by decide); have e12 := h 12 (by decide); have e13 := h 13 (by decide); have e17 := h 17 (by decide); have e18 := h 18 (by decide); have e19 := h 19 (by decide); have e20 := h 20 (by decide)
  have hF : ∀ e, FAC B' e = FAC B e := fun e => FAC_cong e11 (by rw [e6]) e
  have hN : ∀ S e i, NEW B' S e i = NEW B S e i := fun S e i => by unfold NEW; rw [e7, e8]
  have hL : ∀ i p y w, LOS B' i p y w = LOS B i p y w := fun i p y w => by unfold LOS; rw [e2, e9, e10]
  have hG : ∀ P e y w S, GON B' P e y w S = GON B P e y w S := fun P e y w S => by unfold GON; rw [e7, e8, e11]; simp only [hL]
  have hB : ∀ P y w, BAS B' P y w = BAS B P y w := fun P y w => by funext f e; unfold BAS; rw [e13, e12]; simp only [hN, hG]
  have hR : ∀ P y n S, RUB1 B' P y n S = RUB1 B P y n S := fun P y n S => by funext f e; unfold RUB1; simp only [RBC, hF, e13]
  have hR2 : ∀ P y S, RUB B' P y S = RUB B P y S := fun P y S => by unfold RUB; rw [e2, e6]; simp only [hR]
  have hP : ∀ S e i, PRF B' S e i = PRF B S e i := fun S e i => by unfold PRF; simp only [hN]
  have hA : ∀ y S n, ACT B' y S n = ACT B y S n := fun y S n => by
    induction n with
    | zero => rfl
    | succ n ih => rw [ACT, ACT, ih, e20, e18, e13, e19]; simp only [hP]
  have hPA : ∀ P y w, PAS B' P y w = PAS B P y w := fun P y w => by unfold PAS; rw [hB, hR2, e17, hA]
  intro n
  induction n with
  | zero => rw [YS, YS, hPA]
  | succ n ih => rw [YS, YS, ih, hPA]
theorem CK_says {σ : MM} {j : Int} {B B' : BK} {w : Int → Int} (h : ∀ t : Nat, t ≠ 14 → B' t = B t) (hC : CK σ j B w) : CK σ j B' w := by
  intro y hy
  rw [h 1 (by decide)] at hy
  have := hC y hy
  rw [YS_says h]
  unfold RK MT at this ⊢
  rw [h 6 (by decide), h 13 (by decide)]
  exact this
def F20 (T : Int → Int) (n a b c d e : Int) : Int → Int := F4 (F4 (F4 (F4 (F4 T n a) (n + 4) b) (n + 4 + 4) c) (n + 4 + 4 + 4) d) (n + 4 + 4 + 4 + 4) e
/-! what calls answer, and what stands behind them -/
def s_feed (X : CST) (a b c d e : Int) : CST := if 680 < X.n then X else (X.B, X.Z, F20 X.T X.n a b c d e, (X.n + 20, X.fk, X.fp), X.I, X.K)
def q_feed (X : CST) : Int := if 680 < X.n then -1 else X.n + 20
def s_end (X : CST) (n : Int) : CST := if n < 0 ∨ X.n < n then X else (X.B, X.Z, X.T, (n, X.fk, X.fp), X.I, X.K)
def q_end (X : CST) (n : Int) : Int := if n < 0 ∨ X.n < n then -1 else n
def s_book (X : CST) : CST := ((if (BOK X.T X.n).1.1 = 0 then (BOK X.T X.n).2 else X.B), X.Z, X.T, (0, (BOK X.T X.n).1.1, (if (BOK X.T X.n).1.1 = 0 then -1 else (BOK X.T X.n).1.2)), X.I, X.K)
def q_book (X : CST) : Int := if (BOK X.T X.n).1.1 = 0 then (BOK X.T X.n).2 0 0 else -4
def q_fault (X : CST) (w : Int) : Int := if w = 0 then X.fk else if w = 1 then X.fp else -1
/-- an act -/
def q_act (B : BK) (e i y : Int) : Int := if 30 ≤ B 17 0 then -5 else SHD (aB B e i y) (bt 0) (B 1 0) e
def s_act (B : BK) (e i y : Int) : BK := if 30 ≤ B 17 0 then B else aB B e i y
abbrev r_ret (B : BK) (e i y : Int) : Prop := (e < 0 ∨ B 6 0 ≤ e) ∨ (i < 0 ∨ B 4 0 ≤ i) ∨ (B 0 0 = 0 ∨ y < 0 ∨ B 1 0 < y)
def q_retraces (B : BK) (e i y : Int) : Int := if r_ret B e i y then -2 else q_act B e i y
def s_retraces (B : BK) (e i y : Int) : BK := if r_ret B e i y then B else s_act B e i y
abbrev r_ble (B : BK) (e y : Int) : Prop := (e < 0 ∨ B 6 0 ≤ e) ∨ (B 0 0 = 0 ∨ y < 0 ∨ B 1 0 < y)
def q_bleaches (B : BK) (e y : Int) : Int := if r_ble B e y then -2 else q_act B e (-1) y
def s_bleaches (B : BK) (e y : Int) : BK := if r_ble B e y then B else s_act B e (-1) y
def q_undo (B : BK) : Int := if B 0 0 = 0 then -2 else if B 17 0 = 0 then -5 else B 17 0 - 1
def s_undo (B : BK) : BK := if B 0 0 = 0 then B else if B 17 0 = 0 then B else sB B 17 0 (B 17 0 - 1)
def q_anew (B : BK) : Int := if B 0 0 = 0 then -2 else B 17 0
def s_anew (B : BK) : BK := if B 0 0 = 0 then B else sB B 17 0 0
abbrev r_rate (B : BK) (e n : Int) : Prop := (e < 0 ∨ B 6 0 ≤ e) ∨ (n < 0 ∨ 20 < n)
def q_rate (B : BK) (e n : Int) : Int := if r_rate B e n then -2 else if 0 < B 17 0 then -5 else B 14 e
def s_rate (B : BK) (e n : Int) : BK := if r_rate B e n then B else if 0 < B 17 0 then B else sB B 14 e n
def TLD (Z : RW) : Int := sumN (fun k => Z 0 k 0) 4
def q_count (X : CST) (w : Int) : Int := if w = 0 then X.B 1 0 else if w = 1 then X.B 2 0 else if w = 2 then X.B 3 0 else if w = 3 then X.B 4 0 else if w = 4 then X.B 5 0 else if w = 5 then X.B 6 0 else if w = 6 then X.B 17 0 else if w = 7 then X.B 0 0 else if w = 8 then X.n else if w = 9 then TLD X.Z else -1
def q_image (k : Int) : Int := if k < 0 ∨ 3 ≤ k then -2 else 0
def s_image (X : CST) (k : Int) : CST := if k < 0 ∨ 3 ≤ k then X else (X.B, X.Z, X.T, (X.n, X.fk, X.fp), (fun j => if j = k then X.B else X.I j), (fun j => if j = k then 1 else X.K j))
def q_back (X : CST) (k : Int) : Int := if k < 0 ∨ 3 ≤ k then -2 else if X.K k = 0 then -6 else 0
def s_back (X : CST) (k : Int) : BK := if k < 0 ∨ 3 ≤ k then X.B else if X.K k = 0 then X.B else X.I k
/-- slots -/
abbrev r_row (s w n : Int) : Prop := (s < 0 ∨ 4 ≤ s) ∨ (w < 0 ∨ 3 < w) ∨ 60 < n
def q_row (s w n : Int) : Int := if r_row s w n then -2 else if n < 0 then -3 else 0
def ZRW (Z : RW) (s w n : Int) : RW := fun f k i => if k = s then (if f = 0 then 1 else if f = 1 then w else if f = 2 then n else 0) else Z f k i
def s_row (Z : RW) (s w n : Int) : RW := if r_row s w n then Z else if n < 0 then Z else ZRW Z s w n
def ZWR (Z : RW) (s i v : Int) : RW := fun f k j => if f = 3 ∧ k = s ∧ j = i then CUT (Z 1 s 0) v else Z f k j
def q_write (Z : RW) (s i : Int) : Int := if s < 0 ∨ 4 ≤ s then -2 else if Z 0 s 0 = 0 then -6 else if i < 0 ∨ Z 2 s 0 ≤ i then -7 else 0
def s_write (Z : RW) (s i v : Int) : RW := if s < 0 ∨ 4 ≤ s then Z else if Z 0 s 0 = 0 then Z else if i < 0 ∨ Z 2 s 0 ≤ i then Z else ZWR Z s i v
def ZPS (Z : RW) (s i t k n : Int) : RW := fun f x j => if f = 3 ∧ x = t ∧ k ≤ j ∧ j < k + n then Z 3 s (i + (j - k)) else Z f x j
abbrev r_ps (Z : RW) (s i t k n : Int) : Prop := ¬ (0 ≤ i ∧ 0 ≤ n ∧ i + n ≤ Z 2 s 0) ∨ ¬ (0 ≤ k ∧ 0 ≤ n ∧ k + n ≤ Z 2 t 0)
def q_paste (Z : RW) (s i t k n : Int) : Int := if (s < 0 ∨ 4 ≤ s) ∨ (t < 0 ∨ 4 ≤ t) then -2 else if Z 0 s 0 = 0 ∨ Z 0 t 0 = 0 then -6 else if Z 1 s 0 ≠ Z 1 t 0 then -8 else if r_ps Z s i t k n then -7 else 0
def s_paste (Z : RW) (s i t k n : Int) : RW := if (s < 0 ∨ 4 ≤ s) ∨ (t < 0 ∨ 4 ≤ t) then Z else if Z 0 s 0 = 0 ∨ Z 0 t 0 = 0 then Z else if Z 1 s 0 ≠ Z 1 t 0 then Z else if r_ps Z s i t k n then Z else ZPS Z s i t k n
def NEWZ (X : CST) (Z : RW) : CST := (X.B, Z, X.T, (X.n, X.fk, X.fp), X.I, X.K)
theorem CRl.newz {σ σ' : MM} {X : CST} {Z : RW} (hX : CRl σ X) (h : ∀ t : Nat, t ≠ 27 → t ≠ 28 → σ' t = σ t) (hZ : ZR σ' Z) : CRl σ' (NEWZ X Z) ∧ FC σ σ' := by
  have hK : ∀ B : BK, ∀ b, CB σ b B → CB σ' b B := fun B b hb => hb.cong (fun t ht => by rw [h t (by omega) (by omega)])
  refine ⟨⟨⟨hK _ _ hX.b, hX.g, fun y hy => ?_⟩, hZ, hX.r.cong (by rw [h 1 (by decide) (by decide)]) (h 2 (by decide) (by decide)), ?_, hX.i.cong (h 25 (by decide) (by decide)) (fun t ht b hb => by rw [h t (by omega) (by omega)])⟩, fun t q => h t (by omega) (by omega)⟩
  · have := hX.c y hy
    have e : RS σ' 0 y = RS σ 0 y := by unfold RS; rw [h 21 (by decide) (by decide), h 22 (by decide) (by decide), h 23 (by decide) (by decide)]
    unfold RK at this ⊢
    rw [e, h 21 (by decide) (by decide)]
    exact this
  · show σ' 0 0 13 = X.fk ∧ σ' 0 0 14 = X.fp ∧ _
    rw [h 0 (by decide) (by decide)]
    exact hX.f
theorem CUT_in {w v : Int} (hv : LR v) : LR (CUT w v) := by
  have h1 := Int.le_bmod (x := v) (m := 256) (by decide)
  have h2 := Int.bmod_lt (x := v) (m := 256) (by decide)
  have h3 := Int.le_bmod (x := v) (m := 65536) (by decide)
  have h4 := Int.bmod_lt (x := v) (m := 65536) (by decide)
  have h5 := Int.le_bmod (x := v) (m := 4294967296) (by decide)
  have h6 := Int.bmod_lt (x := v) (m := 4294967296) (by decide)
  unfold CUT b8 b16
  split
  · omega
  · split
    · omega
    · split
      · omega
      · exact hv
