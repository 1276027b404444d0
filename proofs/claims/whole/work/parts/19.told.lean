/-! what a settled course tells -/
def SHD (B : BK) (w : Int → Int) (y e : Int) : Int := YS B w y.toNat 0 e
def RSD (B : BK) (w : Int → Int) (y e : Int) : Int := YS B w y.toNat 2 e
theorem CK.sh {σ : MM} {j : Int} {B : BK} {w : Int → Int} {y e : Int} (h : CK σ j B w) (hy : 0 ≤ y ∧ y ≤ B 1 0) (he : 0 ≤ e ∧ e < B 6 0) : σ 22 (21 * j + y) e = SHD B w y e := by
  obtain ⟨n, rfl⟩ := Int.eq_ofNat_of_zero_le hy.1
  have := ((h n hy.2).2.1 e he).1
  rw [RS_0] at this
  exact this
theorem CK.ri {σ : MM} {j : Int} {B : BK} {w : Int → Int} {y : Int} (h : CK σ j B w) (hs : WS B) (hy : 0 ≤ y ∧ y ≤ B 1 0) : σ 21 j y = bsN (fun e => RSD B w y e) (B 6 0).toNat := by
  obtain ⟨n, rfl⟩ := Int.eq_ofNat_of_zero_le hy.1
  obtain ⟨h1, h2, h3⟩ := h n hy.2
  have e7 : ∀ m : Nat, (m : Int) ≤ 7 → (∀ e : Int, (m : Int) ≤ e → e < 7 → bt (σ 21 j n) e = 0) → σ 21 j n = bsN (bt (σ 21 j n)) m := by
    intro m hm hz
    have key : ∀ k : Nat, m + k ≤ 7 → bsN (bt (σ 21 j n)) (m + k) = bsN (bt (σ 21 j n)) m := by
      intro k
      induction k with
      | zero => intro _; rfl
      | succ k ih =>
        intro hk
        show bsN (bt (σ 21 j n)) (m + k) + bt (σ 21 j n) ((m + k : Nat) : Int) * p2 ((m + k : Nat) : Int) = _
        rw [ih (by omega), hz _ (by omega) (by omega), Int.zero_mul, Int.add_zero]
    have := key (7 - m) (by omega)
    rw [show m + (7 - m) = 7 by omega] at this
    rw [← this]
    exact bs_of h1 (fun i _ => rfl)
  rw [e7 (B 6 0).toNat (by omega) (fun e q1 q2 => by
    have := h3 e (by omega) (by omega)
    rw [RS_2] at this
    exact this)]
  refine bsN_cong (fun e q1 q2 => ?_)
  have := (h2 e (by omega)).2.1
  rw [RS_2] at this
  exact this
theorem SHD_in {B : BK} {r y e : Int} (hW : WB B) (he : 0 ≤ e ∧ e < B 6 0) : 0 ≤ SHD B (bt r) y e ∧ SHD B (bt r) y e ≤ 60 := ((TB_YS hW (w := bt r) (fun k _ => bt_01 r k) y.toNat) e he).1
theorem RSD_01 {B : BK} {r y e : Int} (hW : WB B) (he : 0 ≤ e ∧ e < B 6 0) : RSD B (bt r) y e = 0 ∨ RSD B (bt r) y e = 1 := ((TB_YS hW (w := bt r) (fun k _ => bt_01 r k) y.toNat) e he).2.1
theorem bt_0 (k : Int) : bt 0 k = 0 := by unfold bt; simp
theorem bsN_S (f : Int → Int) (n : Nat) : bsN f (n + 1) = bsN f n + f n * p2 n := rfl
theorem sumN_S (f : Int → Int) (n : Nat) : sumN f (n + 1) = sumN f n + f n := rfl
theorem bsI_in (p : Int → Prop) [DecidablePred p] (n : Nat) : 0 ≤ bsN (fun e => bI (p e)) n ∧ bsN (fun e => bI (p e)) n < p2 n := bsN_in (fun k _ _ => (bI_01 (p k)).symm.elim Or.inr Or.inl)
theorem suI_in (p : Int → Prop) [DecidablePred p] (n : Nat) : 0 ≤ sumN (fun e => bI (p e)) n ∧ sumN (fun e => bI (p e)) n ≤ n := by
  induction n with
  | zero => exact ⟨Int.le_refl 0, Int.le_refl 0⟩
  | succ n ih =>
    rw [sumN_S]
    show 0 ≤ _ + bI (p n) ∧ _ + bI (p n) ≤ _
    rcases bI_01 (p n) with h | h <;> omega
theorem bt_I {p : Int → Prop} [DecidablePred p] {n : Nat} {i : Int} (hi : 0 ≤ i ∧ i < n) : (bt (bsN (fun e => bI (p e)) n) i = 1 ↔ p i) := by
  rw [bt_bs (fun k _ _ => (bI_01 (p k)).symm.elim Or.inr Or.inl) hi]
  unfold bI
  split <;> rename_i h <;> simp [h]
theorem p2_31 {n : Nat} (h : n ≤ 30) : p2 n ≤ 1073741824 := p2_lt31 (by omega)
/-- of a first -/
theorem fst_S {p : Int → Prop} [DecidablePred p] {k : Nat} {i : Int} (hk : 0 < k) : fst p k i = if p i then i else fst p (k - 1) (i + 1) := by
  cases k with
  | zero => omega
  | succ k => rfl
theorem bst_S (p : Int → Prop) [DecidablePred p] (g : Int → Int) (n : Nat) : bst p g (n + 1) = if p n ∧ (bst p g n = -1 ∨ g (bst p g n) < g n) then (n : Int) else bst p g n := rfl
theorem fst0_y {p : Int → Prop} [DecidablePred p] {n i : Nat} (hi : i < n) (hI : fst p n 0 = fst p (n - i) i) (h : p i) : fst p n 0 = i := by
  rw [hI, fst_S (by omega), if_pos h]
theorem fst0_n {p : Int → Prop} [DecidablePred p] {n i : Nat} (hi : i < n) (hI : fst p n 0 = fst p (n - i) i) (h : ¬ p i) : fst p n 0 = fst p (n - (i + 1)) ((i + 1 : Nat) : Int) := by
  rw [hI, fst_S (by omega), if_neg h]
  exact congrArg (fun z => fst p z ((i : Int) + 1)) (by omega)
theorem fst0_e {p : Int → Prop} [DecidablePred p] {n : Nat} (hI : fst p n 0 = fst p (n - n) n) : fst p n 0 = -1 := by rw [hI, Nat.sub_self]; rfl
theorem fstl_y {p : Int → Prop} [DecidablePred p] {n i : Nat} {lo : Int} (hi : i < n) (hI : fst p n lo = fst p (n - i) (lo + i)) (h : p (lo + i)) : fst p n lo = lo + i := by
  rw [hI, fst_S (by omega), if_pos h]
theorem fstl_n {p : Int → Prop} [DecidablePred p] {n i : Nat} {lo : Int} (hi : i < n) (hI : fst p n lo = fst p (n - i) (lo + i)) (h : ¬ p (lo + i)) : fst p n lo = fst p (n - (i + 1)) (lo + ((i + 1 : Nat) : Int)) := by
  rw [hI, fst_S (by omega), if_neg h, show lo + ((i + 1 : Nat) : Int) = lo + i + 1 by omega]
  exact congrArg (fun z => fst p z (lo + i + 1)) (by omega)
theorem fstl_e {p : Int → Prop} [DecidablePred p] {n : Nat} {lo : Int} (hI : fst p n lo = fst p (n - n) (lo + n)) : fst p n lo = -1 := by rw [hI, Nat.sub_self]; rfl
theorem bst_cong {p q : Int → Prop} [DecidablePred p] [DecidablePred q] {g g' : Int → Int} : ∀ {n : Nat}, (∀ x : Int, 0 ≤ x ∧ x < n → (p x ↔ q x) ∧ g x = g' x) → bst p g n = bst q g' n
  | 0, _ => rfl
  | n + 1, h => by
    have ih := bst_cong (n := n) (p := p) (q := q) (g := g) (g' := g') (fun x hx => h x (by omega))
    have hn := h n (by omega)
    rw [bst_S, bst_S, ← ih, ← hn.2]
    rcases bst_in (p := p) (g := g) n with hb | hb
    · rw [hb]; simp [hn.1]
    · rw [← (h (bst p g n) (by omega)).2]; simp [hn.1]
/-- the first of the most, of 0 to n -/
def mxN (g : Int → Int) : Nat → Int
  | 0 => 0
  | n + 1 => if g (mxN g n) < g ((n : Int) + 1) then (n : Int) + 1 else mxN g n
theorem mxN_in (g : Int → Int) : ∀ n : Nat, 0 ≤ mxN g n ∧ mxN g n ≤ n
  | 0 => ⟨Int.le_refl 0, Int.le_refl 0⟩
  | n + 1 => by
    have := mxN_in g n
    rw [mxN]
    split <;> omega
theorem mxN_S (g : Int → Int) (n : Nat) : mxN g (n + 1) = if g (mxN g n) < g ((n : Int) + 1) then (n : Int) + 1 else mxN g n := rfl
theorem mxN_cong {g h : Int → Int} : ∀ {n : Nat}, (∀ k : Int, 0 ≤ k ∧ k ≤ n → g k = h k) → mxN g n = mxN h n
  | 0, _ => rfl
  | n + 1, hh => by
    have ih := mxN_cong (n := n) (g := g) (h := h) (fun k hk => hh k (by omega))
    have := mxN_in g n
    rw [mxN_S, mxN_S, ← ih, hh _ ⟨this.1, by omega⟩, hh ((n : Int) + 1) (by omega)]
def cmpI (a b : Int) : Int := if a < b then -1 else if a = b then 0 else 1
/-- is there one behind it on its page that was written ahead of it? -/
abbrev EBH (B : BK) (e : Int) : Prop := fst (fun k => e < k ∧ B 11 k = B 11 e ∧ B 13 k < B 13 e) (B 6 0).toNat 0 ≠ -1
theorem PLC_iff {B : BK} {e k : Int} (he : 0 ≤ e) (hk : 0 ≤ k) (h : B 11 k = B 11 e) : PLC B e < PLC B k ↔ e < k := by
  constructor
  · intro q
    rcases Int.lt_trichotomy e k with r | r | r
    · exact r
    · subst r; omega
    · have := PLC_lt hk r h; omega
  · intro q; exact PLC_lt he q h.symm
/-- which inks an entry passes by -/
def PSI (B : BK) (e y : Int) : Int := bsN (fun i => bI (SHD B (bt 0) y e = LNE B i (B 11 e) (B 14 e) y)) (B 4 0).toNat
theorem LNE_in {B : BK} (hW : WB B) {i p wr y : Int} (hi : 0 ≤ i ∧ i < B 4 0) : 0 ≤ LNE B i p wr y ∧ LNE B i p wr y ≤ 60 := by
  unfold LNE
  split
  · omega
  · exact (LNA_in hW hi _).1
