/-! THE REFERENCE, laid otherwise -/
theorem S34 {σ : MM} {z v z' : Int} (h : z' ≠ z) : setI σ 34 0 z v 34 0 z' = σ 34 0 z' := by simp [setI, h]
theorem sBt {B : BK} {t t' : Nat} {k v : Int} (h : t' ≠ t) : sB B t k v t' = B t' := by
  funext z
  simp [sB, h]
theorem sBx {B : BK} {t : Nat} {k v x : Int} (h : x ≠ k) : sB B t k v t x = B t x := by simp [sB, h]
theorem sBs {B : BK} {t : Nat} {k v : Int} : sB B t k v t k = v := by simp [sB]
theorem setI_x {σ : MM} {t : Nat} {e v x : Int} (h : x ≠ e) : setI σ t 0 e v t 0 x = σ t 0 x := by simp [setI, h]
theorem LA.cong {σ σ' : MM} {B E E' : BK} (h : LA σ B E) (h34 : ∀ z : Int, 26 ≤ z ∧ z ≤ 30 → σ' 34 0 z = σ 34 0 z) (hE : ∀ t : Nat, 17 ≤ t → E' t = E t) : LA σ' B E' := by
  unfold LA at h ⊢
  rw [h34 26 (by omega), h34 27 (by omega), h34 28 (by omega), h34 29 (by omega), h34 30 (by omega), hE 17 (by omega), hE 18 (by omega), hE 19 (by omega), hE 20 (by omega)]
  exact h
section LDP
variable {σ : MM} {B E : BK} {wv : Int}
theorem LD.none (h : LD σ B B wv) : σ 34 0 29 = -1 ∧ (σ 34 0 26 = -1 ∨ σ 34 0 28 = 0) := by
  have h1 := h.la.2.2.2.2.1
  have h2 := h.la.2.1
  by_cases a : σ 34 0 26 = -1
  · rw [if_pos a] at h1
    by_cases b : σ 34 0 29 = -1
    · exact ⟨b, Or.inl a⟩
    · rw [if_neg b] at h1; omega
  · rw [if_neg a] at h1
    by_cases b : σ 34 0 29 = -1
    · rw [if_pos b] at h1; exact ⟨b, Or.inr (by omega)⟩
    · rw [if_neg b] at h1; omega
theorem LD.p_law (h : LD σ B E wv) {l : Int} (hl : 0 ≤ l ∧ l ≤ 3) : LD (setI σ 34 0 23 l) B (sB E 2 0 l) wv := by
  refine ⟨WB_law h.w hl, fun t ht => (sBt (by omega)).trans (h.e ht), ?_, ?_, ⟨?_, ?_⟩, ?_, ?_, ?_⟩
  · rw [setI_same, sBs]
  · rw [S34 (by decide)]; exact h.wet
  · rw [S34 (by decide)]; exact h.nev
  · intro e he; rw [S34 (by decide), setI_tag (by decide), sBt (by decide)]; exact h.wr he
  · intro e he; rw [setI_tag (by decide), sBt (by decide)]; exact h.ik he
  · intro e he; rw [setI_tag (by decide), sBt (by decide)]; exact h.dp he
  · exact h.la.cong (fun z hz => S34 (by omega)) (fun t ht => sBt (by omega))
theorem LD.p_wet (h : LD σ B E wv) {w : Int} (hw : 0 ≤ w ∧ w ≤ 2147483647) : LD (setI σ 34 0 24 w) B E w := by
  refine ⟨h.w, fun t ht => h.e ht, ?_, ?_, ⟨?_, ?_⟩, ?_, ?_, ?_⟩
  · rw [S34 (by decide)]; exact h.law
  · rw [setI_same]; exact ⟨rfl, hw⟩
  · rw [S34 (by decide)]; exact h.nev
  · intro e he; rw [S34 (by decide), setI_tag (by decide)]; exact h.wr he
  · intro e he; rw [setI_tag (by decide)]; exact h.ik he
  · intro e he; rw [setI_tag (by decide)]; exact h.dp he
  · exact h.la.cong (fun z hz => S34 (by omega)) (fun t ht => rfl)
theorem LD.p_wrote (h : LD σ B E wv) {e v : Int} (h99 : E 13 e < 99) (hv : 0 ≤ v ∧ v ≤ 99) : LD (setI σ 47 0 e v) B (sB E 13 e v) wv := by
  refine ⟨WB_wrote h.w hv, fun t ht => (sBt (by omega)).trans (h.e ht), ?_, ?_, ⟨?_, ?_⟩, ?_, ?_, ?_⟩
  · rw [setI_tag (by decide), sBt (by decide)]; exact h.law
  · rw [setI_tag (by decide)]; exact h.wet
  · rw [setI_tag (by decide)]; exact h.nev
  · intro x hx
    rw [setI_tag (t := 47) (t' := 34) (by decide)]
    have hw := h.wr hx
    by_cases q : x = e
    · subst q
      rw [setI_same, sBs]
      exact Or.inr ⟨by omega, rfl⟩
    · rw [setI_x q, sBx q]; exact hw
  · intro e he; rw [setI_tag (by decide), sBt (by decide)]; exact h.ik he
  · intro e he; rw [setI_tag (by decide), sBt (by decide)]; exact h.dp he
  · exact h.la.cong (fun z hz => by rw [setI_tag (by decide)]) (fun t ht => sBt (by omega))
theorem LD.p_ink (h : LD σ B E wv) {e v : Int} (hv : 0 ≤ v ∧ v < B 4 0) : LD (setI σ 48 0 e v) B (sB E 12 e v) wv := by
  refine ⟨WB_ik h.w (by have := h.s4; omega), fun t ht => (sBt (by omega)).trans (h.e ht), ?_, ?_, ⟨?_, ?_⟩, ?_, ?_, ?_⟩
  · rw [setI_tag (by decide), sBt (by decide)]; exact h.law
  · rw [setI_tag (by decide)]; exact h.wet
  · rw [setI_tag (by decide)]; exact h.nev
  · intro x hx; rw [setI_tag (by decide), setI_tag (by decide), sBt (by decide)]; exact h.wr hx
  · intro x hx
    by_cases q : x = e
    · subst q; rw [setI_same, sBs]
    · rw [setI_x q, sBx q]; exact h.ik hx
  · intro e he; rw [setI_tag (by decide), sBt (by decide)]; exact h.dp he
  · exact h.la.cong (fun z hz => by rw [setI_tag (by decide)]) (fun t ht => sBt (by omega))
theorem LD.p_damp (h : LD σ B E wv) {p v : Int} (hv : 0 ≤ v ∧ v ≤ 1) : LD (setI σ 49 0 p v) B (sB E 10 p v) wv := by
  refine ⟨WB_damp h.w hv, fun t ht => (sBt (by omega)).trans (h.e ht), ?_, ?_, ⟨?_, ?_⟩, ?_, ?_, ?_⟩
  · rw [setI_tag (by decide), sBt (by decide)]; exact h.law
  · rw [setI_tag (by decide)]; exact h.wet
  · rw [setI_tag (by decide)]; exact h.nev
  · intro x hx; rw [setI_tag (by decide), setI_tag (by decide), sBt (by decide)]; exact h.wr hx
  · intro e he; rw [setI_tag (by decide), sBt (by decide)]; exact h.ik he
  · intro x hx
    by_cases q : x = p
    · subst q; rw [setI_same, sBs]
    · rw [setI_x q, sBx q]; exact h.dp hx
  · exact h.la.cong (fun z hz => by rw [setI_tag (by decide)]) (fun t ht => sBt (by omega))
theorem bt_p2e {e x : Int} (he : 0 ≤ e) (hx : 0 ≤ x) : bt (p2 e) x = if x = e then 1 else 0 := by
  have h := bt_setB (r := 0) (e := e) (i := x) (by omega) he hx
  have h0 : setB 0 e = p2 e := by
    unfold setB
    rw [show (0 : Int).toNat = 0 from rfl, Nat.zero_or, ← p2_nat, show ((e.toNat : Nat) : Int) = e by omega]
  rw [h0] at h
  rw [h, bt_0]
theorem LD.p_never (h : LD σ B B wv) {e : Int} (he : 0 ≤ e ∧ e < B 6 0) (h99 : ∀ k : Int, 0 ≤ k ∧ k < B 6 0 → B 13 k < 99) : LD (setI σ 34 0 25 (p2 e)) B (sB B 13 e 99) wv := by
  have hs := h.w.s
  have hp := p2_le (a := e) (b := 6) (by omega)
  have hp6 : p2 6 = 64 := rfl
  have hp0 := p2_pos e
  refine ⟨WB_wrote h.w (by omega), fun t ht => sBt (by omega), ?_, ?_, ⟨?_, ?_⟩, ?_, ?_, ?_⟩
  · rw [S34 (by decide), sBt (by decide)]; exact h.law
  · rw [S34 (by decide)]; exact h.wet
  · rw [setI_same]; omega
  · intro x hx
    rw [setI_same, setI_tag (by decide), bt_p2e he.1 hx.1]
    by_cases q : x = e
    · subst q; rw [if_pos rfl, sBs]; exact Or.inl ⟨rfl, rfl⟩
    · rw [if_neg q, sBx q]; exact Or.inr ⟨rfl, h.w47 h99 x hx⟩
  · intro e he; rw [setI_tag (by decide), sBt (by decide)]; exact h.ik he
  · intro e he; rw [setI_tag (by decide), sBt (by decide)]; exact h.dp he
  · exact h.la.cong (fun z hz => S34 (by omega)) (fun t ht => sBt (by omega))
theorem ITB_lo {e y : Int} : ∀ (n : Nat) (k : Int), k < B 17 0 → ITB B e y n 18 k = B 18 k ∧ ITB B e y n 19 k = B 19 k ∧ ITB B e y n 20 k = B 20 k
  | 0, _, _ => ⟨rfl, rfl, rfl⟩
  | n + 1, k, h => by
    have ih := ITB_lo (e := e) (y := y) n k h
    have h17 := ITB_17 (B := B) (e := e) (y := y) n
    have q : ¬ k = B 17 0 + n := by omega
    rw [ITB]
    unfold aB
    simp [sB, h17, q, ih]
theorem ITB_hi {e y : Int} : ∀ (n : Nat) (k : Int), B 17 0 ≤ k ∧ k < B 17 0 + n → ITB B e y n 18 k = e ∧ ITB B e y n 19 k = -1 ∧ ITB B e y n 20 k = y
  | 0, _, h => by omega
  | n + 1, k, h => by
    have h17 := ITB_17 (B := B) (e := e) (y := y) n
    by_cases q : k = B 17 0 + n
    · rw [ITB]
      unfold aB
      simp [sB, h17, q]
    · have ih := ITB_hi (e := e) (y := y) n k (by omega)
      rw [ITB]
      unfold aB
      simp [sB, h17, q, ih]
theorem S343 {σ : MM} {e y n z' : Int} (h : z' ≠ 26) (h2 : z' ≠ 27) (h3 : z' ≠ 28) : setI (setI (setI σ 34 0 26 e) 34 0 27 y) 34 0 28 n 34 0 z' = σ 34 0 z' := by rw [S34 h3, S34 h2, S34 h]
theorem S34t {σ : MM} {e y n : Int} {t : Nat} (h : t ≠ 34) : setI (setI (setI σ 34 0 26 e) 34 0 27 y) 34 0 28 n t = σ t := by rw [setI_tag h, setI_tag h, setI_tag h]
theorem LD.p_hide (h : LD σ B B wv) (h30 : B 17 0 ≤ 30) {e y : Int} {n : Nat} (he : 0 ≤ e ∧ e < B 6 0) (hy : 0 ≤ y ∧ y ≤ B 1 0) (hn : n ≤ 9) : LD (setI (setI (setI σ 34 0 26 e) 34 0 27 y) 34 0 28 n) B (ITB B e y n) wv := by
  have hs := h.w.s
  have hno := h.none
  have hla := h.la
  have e26 : setI (setI (setI σ 34 0 26 e) 34 0 27 y) 34 0 28 n 34 0 26 = e := by rw [S34 (by decide), S34 (by decide), setI_same]
  have e27 : setI (setI (setI σ 34 0 26 e) 34 0 27 y) 34 0 28 n 34 0 27 = y := by rw [S34 (by decide), setI_same]
  have e28 : setI (setI (setI σ 34 0 26 e) 34 0 27 y) 34 0 28 n 34 0 28 = n := by rw [setI_same]
  have e29 : setI (setI (setI σ 34 0 26 e) 34 0 27 y) 34 0 28 n 34 0 29 = -1 := by rw [S343 (by decide) (by decide) (by decide)]; exact hno.1
  have at_ : ∀ {t : Nat}, t < 17 → ITB B e y n t = B t := fun ht => ITB_at ht n
  refine ⟨WB_ITB h.w h30 he hy n (by omega), fun t ht => at_ (by omega), ?_, ?_, ⟨?_, ?_⟩, ?_, ?_, ?_⟩
  · rw [S343 (by decide) (by decide) (by decide), at_ (by decide)]; exact h.law
  · rw [S343 (by decide) (by decide) (by decide)]; exact h.wet
  · rw [S343 (by decide) (by decide) (by decide)]; exact h.nev
  · intro x hx; rw [S343 (by decide) (by decide) (by decide), S34t (by decide), at_ (by decide)]; exact h.wr hx
  · intro x hx; rw [S34t (by decide), at_ (by decide)]; exact h.ik hx
  · intro x hx; rw [S34t (by decide), at_ (by decide)]; exact h.dp hx
  · unfold LA
    rw [e26, e27, e28, e29]
    refine ⟨by omega, by omega, by omega, fun k hk => ITB_lo n k hk.2, ?_, fun _ => ⟨by omega, fun k hk => ITB_hi n k hk⟩, fun q => absurd rfl q⟩
    rw [ITB_17, if_neg (by omega), if_pos rfl]
    omega
theorem LD.p_save (h : LD σ B B wv) (h30 : B 17 0 ≤ 30) {e y : Int} (he : 0 ≤ e ∧ e < B 6 0) (hy : 0 ≤ y ∧ y ≤ B 1 0) : LD (setI (setI σ 34 0 29 e) 34 0 30 y) B (aB B e (B 12 e) y) wv := by
  have hs := h.w.s
  have he1 := h.w.e he
  have hno := h.none
  have hla := h.la
  have o_ : ∀ {z : Int}, z ≠ 29 → z ≠ 30 → setI (setI σ 34 0 29 e) 34 0 30 y 34 0 z = σ 34 0 z := fun a b => by rw [S34 b, S34 a]
  have t_ : ∀ {t : Nat}, t ≠ 34 → setI (setI σ 34 0 29 e) 34 0 30 y t = σ t := fun a => by rw [setI_tag a, setI_tag a]
  have e29 : setI (setI σ 34 0 29 e) 34 0 30 y 34 0 29 = e := by rw [S34 (by decide), setI_same]
  have e30 : setI (setI σ 34 0 29 e) 34 0 30 y 34 0 30 = y := setI_same _ _ _ _ _
  have at_ : ∀ {t : Nat}, t < 17 → aB B e (B 12 e) y t = B t := fun ht => aB_at ht
  refine ⟨WB_act h.w (by omega) he (by omega) hy, fun t ht => at_ (by omega), ?_, ?_, ⟨?_, ?_⟩, ?_, ?_, ?_⟩
  · rw [o_ (by decide) (by decide), at_ (by decide)]; exact h.law
  · rw [o_ (by decide) (by decide)]; exact h.wet
  · rw [o_ (by decide) (by decide)]; exact h.nev
  · intro x hx; rw [o_ (by decide) (by decide), t_ (by decide), at_ (by decide)]; exact h.wr hx
  · intro x hx; rw [t_ (by decide), at_ (by decide)]; exact h.ik hx
  · intro x hx; rw [t_ (by decide), at_ (by decide)]; exact h.dp hx
  · unfold LA
    rw [o_ (z := 26) (by decide) (by decide), o_ (z := 27) (by decide) (by decide), o_ (z := 28) (by decide) (by decide), e29, e30]
    have hz : (if σ 34 0 26 = -1 then (0 : Int) else σ 34 0 28) = 0 := by
      by_cases q : σ 34 0 26 = -1
      · rw [if_pos q]
      · rw [if_neg q]; omega
    rw [hz, Int.add_zero]
    refine ⟨hla.1, hla.2.1, by omega, fun k hk => ?_, ?_, fun q => ⟨(hla.2.2.2.2.2.1 q).1, fun k hk => by omega⟩, fun _ => ⟨by omega, ?_⟩⟩
    · have q : ¬ k = B 17 0 := by omega
      unfold aB
      simp [sB, q]
    · rw [if_neg (by omega)]
      unfold aB
      simp [sB]
    · unfold aB
      simp [sB]
end LDP
