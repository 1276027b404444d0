/-! rows of a course, and what they are told to be -/
def MT (B : BK) (y : Int) (S T : BK) : Prop := ∀ e : Int, 0 ≤ e ∧ e < B 6 0 → S 0 e = T 0 e ∧ S 2 e = T 2 e ∧ (B 13 e ≤ y → S 1 e = T 1 e)
def RK (σ : MM) (j y : Int) (B T : BK) : Prop := (0 ≤ σ 21 j y ∧ σ 21 j y < p2 7) ∧ MT B y (RS σ j y) T ∧ ∀ e : Int, B 6 0 ≤ e → 0 ≤ e → RS σ j y 2 e = 0
def TB (B : BK) (y : Int) (T : BK) : Prop := ∀ e : Int, 0 ≤ e ∧ e < B 6 0 → (0 ≤ T 0 e ∧ T 0 e ≤ 60) ∧ (T 2 e = 0 ∨ T 2 e = 1) ∧ (B 13 e ≤ y → 0 ≤ T 1 e ∧ T 1 e < B 4 0)
theorem upA_MT {B S T : BK} {y e a b c a' b' c' : Int} (h : MT B y S T) (ha : a = a') (hb : B 13 e ≤ y → b = b') (hc : c = c') : MT B y (upA S e a b c) (upA T e a' b' c') := by
  intro x hx
  by_cases hxe : x = e
  · subst hxe
    rw [(upA_at S x a b c).1, (upA_at S x a b c).2.1, (upA_at S x a b c).2.2, (upA_at T x a' b' c').1, (upA_at T x a' b' c').2.1, (upA_at T x a' b' c').2.2]
    exact ⟨ha, hc, hb⟩
  · rw [upA_ne S a b c 0 hxe, upA_ne S a b c 1 hxe, upA_ne S a b c 2 hxe, upA_ne T a' b' c' 0 hxe, upA_ne T a' b' c' 1 hxe, upA_ne T a' b' c' 2 hxe]
    exact h x hx
theorem PRF_MT {B S T : BK} {y e i : Int} (h : MT B y S T) (he : 0 ≤ e ∧ e < B 6 0) : MT B y (PRF B S e i) (PRF B T e i) := by
  unfold PRF
  split
  · exact upA_MT h (by rw [(h e he).1]) (h e he).2.2 rfl
  · exact upA_MT h rfl (fun _ => rfl) rfl
theorem RUB1_MT {B P S T : BK} {y y2 n : Int} (h : MT B y S T) : MT B y (RUB1 B P y2 n S) (RUB1 B P y2 n T) := by
  intro x hx
  unfold RUB1
  refine ⟨by rw [(h x hx).1], ?_, fun hq => ?_⟩
  · simpa using (h x hx).2.1
  · simpa using (h x hx).2.2 hq
theorem TB_up {B T : BK} {y e a b c : Int} (h : TB B y T) (ha : 0 ≤ a ∧ a ≤ 60) (hb : B 13 e ≤ y → 0 ≤ b ∧ b < B 4 0) (hc : c = 0 ∨ c = 1) : TB B y (upA T e a b c) := by
  intro x hx
  by_cases hxe : x = e
  · subst hxe
    rw [(upA_at T x a b c).1, (upA_at T x a b c).2.1, (upA_at T x a b c).2.2]
    exact ⟨ha, hc, hb⟩
  · rw [upA_ne T a b c 0 hxe, upA_ne T a b c 1 hxe, upA_ne T a b c 2 hxe]
    exact h x hx
theorem TB_NEW {B T : BK} (hW : WB B) {y e i : Int} (h : TB B y T) (hi : 0 ≤ i ∧ i < B 4 0) : TB B y (NEW B T e i) := by
  have h1 := hW.i hi
  exact TB_up h (by omega) (fun _ => hi) (bI_01 _)
theorem TB_PRF {B T : BK} (hW : WB B) {y e i : Int} (h : TB B y T) (he : 0 ≤ e ∧ e < B 6 0) (hi : -1 ≤ i ∧ i < B 4 0) : TB B y (PRF B T e i) := by
  have h1 := h e he
  unfold PRF
  split
  · exact TB_up h (by omega) h1.2.2 (Or.inl rfl)
  · exact TB_NEW hW h (by omega)
theorem TB_RUB {B P T : BK} {y y2 : Int} (h : TB B y T) : TB B y (RUB B P y2 T) := by
  unfold RUB
  split
  · intro x hx
    have h1 := h x hx
    unfold RUB1
    refine ⟨?_, by simpa using h1.2.1, fun q => by simpa using h1.2.2 q⟩
    split <;> omega
  · exact h
theorem TB_BAS {B P : BK} (hW : WB B) {y w : Int} (hP : 1 ≤ y → TB B (y - 1) P) (hw : w = 0 ∨ w = 1) : TB B y (BAS B P y w) := by
  intro e he
  have he2 := hW.e he
  by_cases h1 : B 13 e = y
  · have hf : ∀ f, BAS B P y w f e = NEW B (fun _ _ => 0) e (B 12 e) f e := fun f => by unfold BAS; rw [if_pos h1]
    rw [hf 0, hf 1, hf 2]
    have hi := hW.i he2.2.1
    unfold NEW
    rw [(upA_at _ e _ _ _).1, (upA_at _ e _ _ _).2.1, (upA_at _ e _ _ _).2.2]
    exact ⟨by omega, bI_01 _, fun _ => he2.2.1⟩
  · by_cases h2 : B 13 e < y ∧ 0 < y
    · have hf : ∀ f, BAS B P y w f e = GON B P e y w (fun _ _ => 0) f e := fun f => by unfold BAS; rw [if_neg h1, if_pos h2]
      rw [hf 0, hf 1, hf 2]
      have hp := hP (by omega) e he
      have hp1 := hp.2.2 (by omega)
      have hi := hW.i hp1
      have hl := LOS_in hW (p := B 11 e) (y := y) (w := w) hp1 (by omega)
      unfold GON
      split
      · rw [(upA_at _ e _ _ _).1, (upA_at _ e _ _ _).2.1, (upA_at _ e _ _ _).2.2]
        exact ⟨by omega, bI_01 _, fun _ => hp1⟩
      · rw [(upA_at _ e _ _ _).1, (upA_at _ e _ _ _).2.1, (upA_at _ e _ _ _).2.2]
        exact ⟨by omega, Or.inl rfl, fun _ => hp1⟩
    · have hf : ∀ f, BAS B P y w f e = 0 := fun f => by unfold BAS; rw [if_neg h1, if_neg h2]
      rw [hf 0, hf 1, hf 2]
      exact ⟨by omega, Or.inl rfl, fun q => by omega⟩
theorem TB_ACT {B T : BK} (hW : WB B) {y : Int} (h : TB B y T) : ∀ n : Nat, (n : Int) ≤ B 17 0 → TB B y (ACT B y T n)
  | 0, _ => h
  | n + 1, hn => by
    have ih := TB_ACT hW h n (by omega)
    have ha := hW.a (i := (n : Int)) (by omega)
    rw [ACT]
    split
    · exact TB_PRF hW ih ha.1 ha.2.1
    · exact ih
theorem TB_PAS {B P : BK} (hW : WB B) {y w : Int} (hP : 1 ≤ y → TB B (y - 1) P) (hw : w = 0 ∨ w = 1) : TB B y (PAS B P y w) := by
  have hs := hW.s
  exact TB_ACT hW (TB_RUB (TB_BAS hW hP hw)) _ (by omega)
theorem TB_YS {B : BK} (hW : WB B) {w : Int → Int} (hw : ∀ k : Int, 0 ≤ k → w k = 0 ∨ w k = 1) : ∀ n : Nat, TB B n (YS B w n)
  | 0 => TB_PAS hW (fun q => by omega) (Or.inl rfl)
  | n + 1 => TB_PAS hW (fun _ => by
      rw [show ((n + 1 : Nat) : Int) - 1 = n by omega]
      exact TB_YS hW hw n) (hw n (by omega))
/-- the first n entries are laid -/
def LAY (σ σ' : MM) (j y : Int) (B T : BK) (n : Int) : Prop := Off j y σ σ' ∧ (0 ≤ σ' 21 j y ∧ σ' 21 j y < p2 7) ∧ (∀ e : Int, 0 ≤ e ∧ e < n → RS σ' j y 0 e = T 0 e ∧ RS σ' j y 2 e = T 2 e ∧ (B 13 e ≤ y → RS σ' j y 1 e = T 1 e)) ∧ (∀ e : Int, n ≤ e → 0 ≤ e → RS σ' j y 2 e = 0)
theorem LAY_step {σ σi σ' : MM} {j y i a b c : Int} {B T : BK} (h : LAY σ σi j y B T i) (hi : 0 ≤ i) (hU : RowUp σi σ' j y (upA (RS σi j y) i a b c)) (ha : a = T 0 i) (hb : B 13 i ≤ y → b = T 1 i) (hc : c = T 2 i) : LAY σ σ' j y B T (i + 1) := by
  refine ⟨h.1.tr hU.2.2, hU.1, fun e he => ?_, fun e he h0 => ?_⟩
  · rw [hU.2.1 0 e he.1, hU.2.1 1 e he.1, hU.2.1 2 e he.1]
    by_cases hei : e = i
    · subst hei
      rw [(upA_at _ e a b c).1, (upA_at _ e a b c).2.1, (upA_at _ e a b c).2.2]
      exact ⟨ha, hc, hb⟩
    · rw [upA_ne _ a b c 0 hei, upA_ne _ a b c 1 hei, upA_ne _ a b c 2 hei]
      exact h.2.2.1 e ⟨he.1, by omega⟩
  · rw [hU.2.1 2 e h0, upA_ne _ a b c 2 (by omega)]
    exact h.2.2.2 e (by omega) h0
theorem RK_of {σ σ' : MM} {j y : Int} {B T : BK} (h : LAY σ σ' j y B T (B 6 0)) : RK σ' j y B T := ⟨h.2.1, h.2.2.1, h.2.2.2⟩
theorem RK_rub {σi σ' : MM} {j y y2 : Int} {B P T : BK} (h : RK σi j y B T) (hU : RowUp σi σ' j y (RUB1 B P y2 (B 6 0) (RS σi j y))) : RK σ' j y B (RUB1 B P y2 (B 6 0) T) := by
  refine ⟨hU.1, fun e he => ?_, fun e he h0 => ?_⟩
  · rw [hU.2.1 0 e he.1, hU.2.1 1 e he.1, hU.2.1 2 e he.1]
    exact RUB1_MT h.2.1 e he
  · rw [hU.2.1 2 e h0]
    have := h.2.2 e he h0
    unfold RUB1
    simpa using this
theorem RK_prf {σi σ' : MM} {j y e0 i : Int} {B T : BK} (h : RK σi j y B T) (he0 : 0 ≤ e0 ∧ e0 < B 6 0) (hU : RowUp σi σ' j y (PRF B (RS σi j y) e0 i)) : RK σ' j y B (PRF B T e0 i) := by
  refine ⟨hU.1, fun e he => ?_, fun e he h0 => ?_⟩
  · rw [hU.2.1 0 e he.1, hU.2.1 1 e he.1, hU.2.1 2 e he.1]
    exact PRF_MT h.2.1 he0 e he
  · rw [hU.2.1 2 e h0]
    have := h.2.2 e he h0
    unfold PRF NEW
    split <;> rw [upA_ne _ _ _ _ 2 (by omega)] <;> exact this
/-- a row that is off stays -/
theorem Off.rk {j y j2 y2 : Int} {σ σ' : MM} {B T : BK} (h : Off j y σ σ') (hne : ¬ (j2 = j ∧ y2 = y)) (hy : 0 ≤ y ∧ y < 21) (hy2 : 0 ≤ y2 ∧ y2 < 21) (hk : RK σ j2 y2 B T) : RK σ' j2 y2 B T := by
  obtain ⟨e1, e2⟩ := h.row hne hy hy2
  unfold RK at hk ⊢
  rw [e1, e2]
  exact hk
