/-! THE REFERENCE'S YEARS -/
theorem LD.s6 {σ : MM} {B E : BK} {wv : Int} (h : LD σ B E wv) : E 6 0 = B 6 0 := congrFun (h.e (by omega)) 0
theorem LD.s4 {σ : MM} {B E : BK} {wv : Int} (h : LD σ B E wv) : E 4 0 = B 4 0 := congrFun (h.e (by omega)) 0
theorem LD.s5 {σ : MM} {B E : BK} {wv : Int} (h : LD σ B E wv) : E 5 0 = B 5 0 := congrFun (h.e (by omega)) 0
theorem LD.s1 {σ : MM} {B E : BK} {wv : Int} (h : LD σ B E wv) : E 1 0 = B 1 0 := congrFun (h.e (by omega)) 0
theorem LD.fac {σ : MM} {B E : BK} {wv : Int} (h : LD σ B E wv) (e : Int) : FAC E e = FAC B e := FAC_cong (h.e (by omega)) h.s6 e
theorem FAC_lt {B : BK} (hs : WS B) {e : Int} (h : FAC B e ≠ -1) : 0 ≤ FAC B e ∧ FAC B e < B 6 0 := by
  have := FAC_in hs e
  omega
/-- other rows stay -/
def MOF (y : Int) (σ σ' : MM) : Prop := KR σ σ' ∧ ∀ x : Int, ¬ (7 * y ≤ x ∧ x < 7 * y + 7) → σ' 50 0 x = σ 50 0 x ∧ σ' 51 0 x = σ 51 0 x
theorem MOF.rf {y : Int} {σ : MM} : MOF y σ σ := ⟨KR.rf, fun _ _ => ⟨rfl, rfl⟩⟩
theorem MOF.tr {y : Int} {σ σ1 σ2 : MM} (h : MOF y σ σ1) (h2 : MOF y σ1 σ2) : MOF y σ σ2 := ⟨h.1.tr h2.1, fun x hx => ⟨(h2.2 x hx).1.trans (h.2 x hx).1, (h2.2 x hx).2.trans (h.2 x hx).2⟩⟩
theorem MUP.of {σ σ' : MM} {y e a b c : Int} (h : MUP σ σ' y e a b c) (he : 0 ≤ e ∧ e < 7) : MOF y σ σ' := ⟨h.2.2.2, fun x hx => h.2.1 x (by omega)⟩
theorem MUP.tr {σ σ1 σ2 : MM} {y e a b c a2 b2 c2 : Int} (h : MUP σ σ1 y e a b c) (h2 : MUP σ1 σ2 y e a2 b2 c2) : MUP σ σ2 y e a2 b2 c2 := ⟨h2.1, fun x hx => ⟨(h2.2.1 x hx).1.trans (h.2.1 x hx).1, (h2.2.1 x hx).2.trans (h.2.1 x hx).2⟩, fun x hx => (h2.2.2.1 x hx).trans (h.2.2.1 x hx), h.2.2.2.tr h2.2.2.2⟩
theorem ACT_skip {E S : BK} {y : Int} {n : Nat} : ∀ m : Nat, (∀ k : Int, (n : Int) ≤ k ∧ k < n + m → ¬ (E 20 k = y ∧ E 13 (E 18 k) ≤ y)) → ACT E y S (n + m) = ACT E y S n
  | 0, _ => rfl
  | m + 1, h => by
    rw [← Nat.add_assoc, ACT, if_neg (by have := h (n + m : Nat) (by omega); exact this), ACT_skip m (fun k hk => h k (by omega))]
theorem ACT_S (E S : BK) (y : Int) (n : Nat) : ACT E y S (n + 1) = if E 20 n = y ∧ E 13 (E 18 n) ≤ y then PRF E (ACT E y S n) (E 18 n) (E 19 n) else ACT E y S n := rfl
/-- where steps go -/
def STP1 (E P : BK) (y e : Int) (G : BK) : Int := if E 2 0 = 2 ∧ RBC E P y e then min 60 (G 0 e + 1) else G 0 e
theorem GON_in {E P : BK} (hW : WB E) {y e w : Int} (hw : w = 0 ∨ w = 1) (he : 0 ≤ e ∧ e < E 6 0) (h0 : 0 ≤ P 0 e ∧ P 0 e ≤ 60) (h1 : 0 ≤ P 1 e ∧ P 1 e < E 4 0) : (0 ≤ GON E P e y w (fun _ _ => 0) 0 e ∧ GON E P e y w (fun _ _ => 0) 0 e ≤ 60) ∧ GON E P e y w (fun _ _ => 0) 1 e = P 1 e ∧ (P 2 e = 1 → GON E P e y w (fun _ _ => 0) 0 e = min (P 0 e + E 7 (P 1 e)) (E 8 (P 1 e)) ∧ GON E P e y w (fun _ _ => 0) 2 e = bI (P 0 e + E 7 (P 1 e) < E 8 (P 1 e))) ∧ (P 2 e ≠ 1 → GON E P e y w (fun _ _ => 0) 0 e = max 0 (P 0 e - LOS E (P 1 e) (E 11 e) y w) ∧ GON E P e y w (fun _ _ => 0) 2 e = 0) := by
  have hi := hW.i h1
  have hl := LOS_in hW (p := E 11 e) (y := y) (w := w) h1 (by omega)
  unfold GON
  by_cases c : P 2 e = 1
  · rw [if_pos c, (upA_at _ e _ _ _).1, (upA_at _ e _ _ _).2.1, (upA_at _ e _ _ _).2.2]
    exact ⟨by omega, rfl, fun _ => ⟨rfl, bI_cong (by omega)⟩, fun q => absurd c q⟩
  · rw [if_neg c, (upA_at _ e _ _ _).1, (upA_at _ e _ _ _).2.1, (upA_at _ e _ _ _).2.2]
    exact ⟨by omega, rfl, fun q => absurd q c, fun _ => ⟨rfl, rfl⟩⟩
/-- what a row is ahead of acts -/
theorem ROW_at {E P : BK} {y w e : Int} (he : 0 ≤ e ∧ e < E 6 0) : (E 13 e = y → RUB E P y (BAS E P y w) 0 e = min (E 7 (E 12 e)) (E 8 (E 12 e)) ∧ RUB E P y (BAS E P y w) 1 e = E 12 e ∧ RUB E P y (BAS E P y w) 2 e = bI (min (E 7 (E 12 e)) (E 8 (E 12 e)) < E 8 (E 12 e))) ∧ (E 13 e < y → 0 < y → RUB E P y (BAS E P y w) 0 e = STP1 E P y e (GON E P e y w (fun _ _ => 0)) ∧ RUB E P y (BAS E P y w) 1 e = GON E P e y w (fun _ _ => 0) 1 e ∧ RUB E P y (BAS E P y w) 2 e = GON E P e y w (fun _ _ => 0) 2 e) ∧ (y < E 13 e → ∀ f, f = 0 ∨ f = 2 → RUB E P y (BAS E P y w) f e = 0) := by
  have hR : ∀ f : Nat, RUB E P y (BAS E P y w) f e = if f = 0 ∧ (E 2 0 = 2 ∧ 0 < y) ∧ RBC E P y e then min 60 (BAS E P y w 0 e + 1) else BAS E P y w f e := by
    intro f
    unfold RUB
    by_cases c : E 2 0 = 2 ∧ 0 < y
    · rw [if_pos c]
      unfold RUB1
      by_cases q : f = 0 ∧ RBC E P y e
      · rw [if_pos ⟨q.1, he.2, q.2⟩, if_pos ⟨q.1, c, q.2⟩]
      · rw [if_neg (fun z => q ⟨z.1, z.2.2⟩), if_neg (fun z => q ⟨z.1, z.2.2⟩)]
    · rw [if_neg c, if_neg (fun z => c z.2.1)]
  refine ⟨fun h => ?_, fun h h0 => ?_, fun h f hf => ?_⟩
  · have hb : ∀ f, BAS E P y w f e = NEW E (fun _ _ => 0) e (E 12 e) f e := fun f => by unfold BAS; rw [if_pos h]
    have hn : ¬ RBC E P y e := fun q => by have := q.2.1; omega
    rw [hR 0, hR 1, hR 2, if_neg (fun z => hn z.2.2), if_neg (fun z => hn z.2.2), if_neg (fun z => hn z.2.2), hb 0, hb 1, hb 2]
    unfold NEW
    rw [(upA_at _ e _ _ _).1, (upA_at _ e _ _ _).2.1, (upA_at _ e _ _ _).2.2]
    exact ⟨rfl, rfl, rfl⟩
  · have hb : ∀ f, BAS E P y w f e = GON E P e y w (fun _ _ => 0) f e := fun f => by unfold BAS; rw [if_neg (by omega), if_pos ⟨h, h0⟩]
    refine ⟨?_, ?_, ?_⟩
    · rw [hR 0, hb 0]
      unfold STP1
      by_cases c : E 2 0 = 2 ∧ RBC E P y e
      · rw [if_pos c, if_pos ⟨rfl, ⟨c.1, h0⟩, c.2⟩]
      · rw [if_neg c, if_neg (fun z => c ⟨z.2.1.1, z.2.2⟩)]
    · rw [hR 1, if_neg (fun z => absurd z.1 (by decide)), hb 1]
    · rw [hR 2, if_neg (fun z => absurd z.1 (by decide)), hb 2]
  · have hb : ∀ f, BAS E P y w f e = 0 := fun f => by unfold BAS; rw [if_neg (by omega), if_neg (by omega)]
    have hn : ¬ RBC E P y e := fun q => by have := q.2.1; omega
    rw [hR f, if_neg (fun z => hn z.2.2), hb f]
theorem YS_P (E : BK) (w : Int → Int) (y : Nat) : YS E w y = ACT E y (RUB E (YP E w y) y (BAS E (YP E w y) y (YW w y))) (E 17 0).toNat := YS_eq E w y
theorem setI_same (σ : MM) (t : Nat) (k z v : Int) : setI σ t k z v t k z = v := by simp [setI]
theorem setI_ne {σ : MM} {t : Nat} {k z v : Int} {t' : Nat} (h : t' ≠ t) (k' z' : Int) : setI σ t k z v t' k' z' = σ t' k' z' := by simp [setI, h]
