/-! THE REFERENCE'S STATE, whole -/
def MRl (σ : MM) (X : CST) : Prop := MB σ 0 X.B ∧ MZ σ X.Z ∧ (σ 34 0 6 = X.n ∧ ∀ x : Int, 0 ≤ x ∧ x < X.n → σ 39 0 x = X.T x) ∧ (σ 34 0 14 = X.fk ∧ σ 34 0 15 = X.fp) ∧ ∀ k : Int, 0 ≤ k ∧ k < 3 → σ 46 0 k = X.K k ∧ (X.K k = 1 → MB σ (1 + k) (X.I k))
/-- what holds of what is kept -/
def XOK (X : CST) : Prop := GB X.B ∧ ((0 ≤ X.n ∧ X.n ≤ 700) ∧ ∀ x : Int, 0 ≤ x ∧ x < X.n → -128 ≤ X.T x ∧ X.T x ≤ 127) ∧ ((0 ≤ X.fk ∧ X.fk ≤ 3) ∧ (-1 ≤ X.fp ∧ X.fp ≤ 700)) ∧ ∀ k : Int, 0 ≤ k ∧ k < 3 → X.K k = 0 ∨ (X.K k = 1 ∧ GB (X.I k))
theorem CRl.ok {σ : MM} {X : CST} (h : CRl σ X) : XOK X := ⟨h.g, ⟨h.r.2.1, fun x hx => (h.r.2.2 x hx).2⟩, h.f.2.2, fun k hk => by
  rcases (h.i k hk).2 with q | q
  · exact Or.inl q
  · exact Or.inr ⟨q.1, q.2.2⟩⟩
def FM (σ σ' : MM) : Prop := ∀ t : Nat, t < 34 → σ' t = σ t
theorem FM.rf {σ : MM} : FM σ σ := fun _ _ => rfl
theorem FM.tr {σ σ1 σ2 : MM} (h : FM σ σ1) (h2 : FM σ1 σ2) : FM σ σ2 := fun t q => (h2 t q).trans (h t q)
theorem FM.set {σ : MM} {t : Nat} {k z v : Int} (h : 34 ≤ t) : FM σ (setI σ t k z v) := fun t' q => setI_tag (by omega)
theorem KM.fm {σ σ' : MM} (h : KM σ σ') : FM σ σ' := fun t q => h.tag (by omega)
theorem MRl.cong {σ σ' : MM} {X : CST} (h : MRl σ X) (ht : ∀ t : Nat, 35 ≤ t ∧ t ≤ 37 ∨ 39 ≤ t ∧ t ≤ 46 → σ' t = σ t) (h6 : σ' 34 0 6 = σ 34 0 6) (h14 : σ' 34 0 14 = σ 34 0 14) (h15 : σ' 34 0 15 = σ 34 0 15) : MRl σ' X := by
  obtain ⟨hM, hZ, hT, hF, hI⟩ := h
  refine ⟨hM.cong (fun t q => ht t (by omega)), hZ.cong (ht 35 (by omega)) (ht 36 (by omega)) (ht 37 (by omega)), ?_, ?_, fun k hk => ?_⟩
  · rw [h6, ht 39 (by omega)]; exact hT
  · rw [h14, h15]; exact hF
  · rw [ht 46 (by omega)]
    exact ⟨(hI k hk).1, fun q => ((hI k hk).2 q).cong (fun t q => ht t (by omega))⟩
theorem KM.mrl {σ σ' : MM} {X : CST} (h : KM σ σ') (hX : MRl σ X) : MRl σ' X := hX.cong (fun t q => h.tag (by omega)) (h 34 0 6 (by unfold SCM; omega)) (h 34 0 14 (by unfold SCM; omega)) (h 34 0 15 (by unfold SCM; omega))
theorem FC.mrl {σ σ' : MM} {X : CST} (h : FC σ σ') (hX : MRl σ X) : MRl σ' X := hX.cong (fun t q => h t (by omega)) (by rw [h 34 (by omega)]) (by rw [h 34 (by omega)]) (by rw [h 34 (by omega)])
/-- within the place of book s -/
abbrev ISL (s : Int) (t : Nat) (z : Int) : Prop := (t = 40 ∧ z = s) ∨ (t = 41 ∧ 7 * s ≤ z ∧ z < 7 * s + 7) ∨ (t = 42 ∧ 12 * s ≤ z ∧ z < 12 * s + 12) ∨ (t = 43 ∧ 4 * s ≤ z ∧ z < 4 * s + 4) ∨ (t = 44 ∧ 28 * s ≤ z ∧ z < 28 * s + 28) ∨ (t = 45 ∧ 120 * s ≤ z ∧ z < 120 * s + 120)
/-- only book s, and what is used as it goes -/
def OffM (s : Int) (σ σ' : MM) : Prop := ∀ (t : Nat) (k z : Int), ¬ SCM t z → ¬ ISL s t z → σ' t k z = σ t k z
theorem KM.offm {s : Int} {σ σ' : MM} (h : KM σ σ') : OffM s σ σ' := fun t k z a _ => h t k z a
theorem OffM.tr {s : Int} {σ σ1 σ2 : MM} (h : OffM s σ σ1) (h2 : OffM s σ1 σ2) : OffM s σ σ2 := fun t k z a b => (h2 t k z a b).trans (h t k z a b)
theorem OffM.set {s : Int} {σ : MM} {t : Nat} {z v : Int} (h : ISL s t z) : OffM s σ (setI σ t 0 z v) := fun t' k' z' a b => by
  have : ¬ (t' = t ∧ k' = 0 ∧ z' = z) := fun q => b (by rw [q.1, q.2.2]; exact h)
  simp only [setI, this, if_false]
theorem OffM.mb {s u : Int} {σ σ' : MM} {B : BK} (h : OffM s σ σ') (hM : MB σ u B) (hG : GB B) (hu : s ≠ u) : MB σ' u B := by
  have hs := hG.w.s
  have h30 := hG.2.2.1
  have e : ∀ (t : Nat) (z : Int), 40 ≤ t ∧ t ≤ 45 → ¬ ISL s t z → σ' t 0 z = σ t 0 z := fun t z ht hz => h t 0 z (by unfold SCM; omega) hz
  obtain ⟨h0, h1, h2, h3, h4⟩ := hM
  refine ⟨?_, fun i hi => ?_, fun i hi => ?_, fun i hi => ?_, fun i hi => ?_⟩
  · rw [e 40 _ (by omega) (by unfold ISL; omega), e 41 _ (by omega) (by unfold ISL; omega), e 41 _ (by omega) (by unfold ISL; omega), e 41 _ (by omega) (by unfold ISL; omega), e 41 _ (by omega) (by unfold ISL; omega), e 41 _ (by omega) (by unfold ISL; omega), e 41 _ (by omega) (by unfold ISL; omega), e 41 _ (by omega) (by unfold ISL; omega)]
    exact h0
  · rw [e 42 _ (by omega) (by unfold ISL; omega), e 42 _ (by omega) (by unfold ISL; omega), e 42 _ (by omega) (by unfold ISL; omega)]
    exact h1 i hi
  · rw [e 43 _ (by omega) (by unfold ISL; omega)]
    exact h2 i hi
  · rw [e 44 _ (by omega) (by unfold ISL; omega), e 44 _ (by omega) (by unfold ISL; omega), e 44 _ (by omega) (by unfold ISL; omega), e 44 _ (by omega) (by unfold ISL; omega)]
    exact h3 i hi
  · rw [e 45 _ (by omega) (by unfold ISL; omega), e 45 _ (by omega) (by unfold ISL; omega), e 45 _ (by omega) (by unfold ISL; omega), e 45 _ (by omega) (by unfold ISL; omega)]
    exact h4 i hi
theorem OffM.fm {s : Int} {σ σ' : MM} (h : OffM s σ σ') : FM σ σ' := fun t q => by funext k z; exact h t k z (by unfold SCM; omega) (by unfold ISL; omega)
theorem OffM.tag {s : Int} {σ σ' : MM} (h : OffM s σ σ') {t : Nat} (q : 35 ≤ t ∧ t ≤ 39 ∨ t = 46) : σ' t = σ t := by funext k z; exact h t k z (by unfold SCM; omega) (by unfold ISL; omega)
/-- another book now -/
theorem MRl.newb {σ σ' : MM} {X : CST} {B : BK} (hX : MRl σ X) (hO : XOK X) (h : OffM 0 σ σ') (hB : MB σ' 0 B) : MRl σ' (NEWB X B) := by
  obtain ⟨hM, hZ, hT, hF, hI⟩ := hX
  have e : ∀ z : Int, z = 6 ∨ z = 14 ∨ z = 15 → σ' 34 0 z = σ 34 0 z := fun z q => h 34 0 z (by unfold SCM; omega) (by unfold ISL; omega)
  refine ⟨hB, hZ.cong (h.tag (by omega)) (h.tag (by omega)) (h.tag (by omega)), ?_, ?_, fun k hk => ?_⟩
  · rw [e 6 (by omega), h.tag (t := 39) (by omega)]; exact hT
  · rw [e 14 (by omega), e 15 (by omega)]; exact hF
  · rw [h.tag (t := 46) (by omega)]
    refine ⟨(hI k hk).1, fun q => ?_⟩
    rcases hO.2.2.2 k hk with a | a
    · have q : X.K k = 1 := q
      omega
    · exact h.mb ((hI k hk).2 q) a.2 (by omega)
/-- marks in the book now -/
theorem MB.done {σ : MM} {B : BK} (hM : MB σ 0 B) {v : Int} (hv : v ≤ B 17 0) : MB (setI σ 41 0 6 v) 0 (sB B 17 0 v) := by
  obtain ⟨h0, h1, h2, h3, h4⟩ := hM
  refine ⟨?_, fun i hi => ?_, fun i hi => ?_, fun i hi => ?_, fun i hi => ?_⟩
  · rw [setI_ne (by decide), setI_x (by decide), setI_x (by decide), setI_x (by decide), setI_x (by decide), setI_x (by decide), setI_x (by decide)]
    rw [sBt (by decide), sBt (by decide), sBt (by decide), sBt (by decide), sBt (by decide), sBt (by decide), sBt (by decide), sBs]
    exact ⟨h0.1, h0.2.1, h0.2.2.1, h0.2.2.2.1, h0.2.2.2.2.1, h0.2.2.2.2.2.1, h0.2.2.2.2.2.2.1, setI_same _ _ _ _ _⟩
  · rw [setI_tag (by decide), sBt (by decide), sBt (by decide), sBt (by decide)]; rw [sBt (by decide)] at hi; exact h1 i hi
  · rw [setI_tag (by decide), sBt (by decide)]; rw [sBt (by decide)] at hi; exact h2 i hi
  · rw [setI_tag (by decide), sBt (by decide), sBt (by decide), sBt (by decide), sBt (by decide)]; rw [sBt (by decide)] at hi; exact h3 i hi
  · rw [setI_tag (by decide), sBt (by decide), sBt (by decide), sBt (by decide)]; rw [sBs] at hi; exact h4 i (by omega)
theorem MB.says {σ : MM} {B : BK} (hM : MB σ 0 B) {e v : Int} (he : 0 ≤ e ∧ e < B 6 0) : MB (setI σ 44 0 (4 * e + 3) v) 0 (sB B 14 e v) := by
  obtain ⟨h0, h1, h2, h3, h4⟩ := hM
  refine ⟨?_, fun i hi => ?_, fun i hi => ?_, fun i hi => ?_, fun i hi => ?_⟩
  · rw [setI_tag (by decide), setI_tag (by decide)]
    rw [sBt (by decide), sBt (by decide), sBt (by decide), sBt (by decide), sBt (by decide), sBt (by decide), sBt (by decide), sBt (by decide)]
    exact h0
  · rw [setI_tag (by decide), sBt (by decide), sBt (by decide), sBt (by decide)]; rw [sBt (by decide)] at hi; exact h1 i hi
  · rw [setI_tag (by decide), sBt (by decide)]; rw [sBt (by decide)] at hi; exact h2 i hi
  · rw [sBt (by decide), sBt (by decide), sBt (by decide)]; rw [sBt (by decide)] at hi
    have := h3 i hi
    rw [setI_x (by omega), setI_x (by omega), setI_x (by omega)]
    by_cases q : i = e
    · subst q
      rw [show 28 * 0 + 4 * i + 3 = 4 * i + 3 by omega, setI_same, sBs]
      exact ⟨this.1, this.2.1, this.2.2.1, rfl⟩
    · rw [setI_x (by omega), sBx q]; exact this
  · rw [setI_tag (by decide), sBt (by decide), sBt (by decide), sBt (by decide)]; rw [sBt (by decide)] at hi; exact h4 i hi
/-- an act done -/
theorem MB.act {σ σ' : MM} {B : BK} (hM : MB σ 0 B) {e i c y : Int} (hc : i ≠ -1 → c = i) (hO : ∀ (t : Nat) (x : Int), ¬ (t = 41 ∧ x = 6) → ¬ (t = 45 ∧ 4 * B 17 0 ≤ x ∧ x < 4 * B 17 0 + 4) → σ' t 0 x = σ t 0 x) (h6 : σ' 41 0 6 = B 17 0 + 1) (a0 : σ' 45 0 (4 * B 17 0) = if i = -1 then 1 else 0) (a1 : σ' 45 0 (4 * B 17 0 + 1) = e) (a2 : σ' 45 0 (4 * B 17 0 + 2) = c) (a3 : σ' 45 0 (4 * B 17 0 + 3) = y) : MB σ' 0 (aB B e i y) := by
  obtain ⟨h0, h1, h2, h3, h4⟩ := hM
  have at_ : ∀ {t : Nat}, t < 17 → aB B e i y t = B t := fun ht => aB_at ht
  have e17 : aB B e i y 17 0 = B 17 0 + 1 := by unfold aB; rw [sBs]
  refine ⟨?_, fun i hi => ?_, fun i hi => ?_, fun i hi => ?_, fun k hk => ?_⟩
  · rw [at_ (by decide), at_ (by decide), at_ (by decide), at_ (by decide), at_ (by decide), at_ (by decide), at_ (by decide), e17]
    rw [hO 40 _ (by omega) (by omega), hO 41 (7 * 0) (by omega) (by omega), hO 41 (7 * 0 + 1) (by omega) (by omega), hO 41 (7 * 0 + 2) (by omega) (by omega), hO 41 (7 * 0 + 3) (by omega) (by omega), hO 41 (7 * 0 + 4) (by omega) (by omega), hO 41 (7 * 0 + 5) (by omega) (by omega)]
    exact ⟨h0.1, h0.2.1, h0.2.2.1, h0.2.2.2.1, h0.2.2.2.2.1, h0.2.2.2.2.2.1, h0.2.2.2.2.2.2.1, h6⟩
  · rw [at_ (by decide)] at hi
    rw [at_ (by decide), at_ (by decide), at_ (by decide), hO 42 _ (by omega) (by omega), hO 42 _ (by omega) (by omega), hO 42 _ (by omega) (by omega)]; exact h1 i hi
  · rw [at_ (by decide)] at hi
    rw [at_ (by decide), hO 43 _ (by omega) (by omega)]; exact h2 i hi
  · rw [at_ (by decide)] at hi
    rw [at_ (by decide), at_ (by decide), at_ (by decide), at_ (by decide), hO 44 _ (by omega) (by omega), hO 44 _ (by omega) (by omega), hO 44 _ (by omega) (by omega), hO 44 _ (by omega) (by omega)]; exact h3 i hi
  · rw [e17] at hk
    by_cases q : k = B 17 0
    · subst q
      have b18 : aB B e i y 18 (B 17 0) = e := by simp [aB, sB]
      have b19 : aB B e i y 19 (B 17 0) = i := by simp [aB, sB]
      have b20 : aB B e i y 20 (B 17 0) = y := by simp [aB, sB]
      rw [b18, b19, b20, show 120 * 0 + 4 * B 17 0 = 4 * B 17 0 by omega]
      exact ⟨a0, a1, fun z => a2.trans (hc z), a3⟩
    · have b18 : aB B e i y 18 k = B 18 k := by simp [aB, sB, q]
      have b19 : aB B e i y 19 k = B 19 k := by simp [aB, sB, q]
      have b20 : aB B e i y 20 k = B 20 k := by simp [aB, sB, q]
      rw [b18, b19, b20, hO 45 _ (by omega) (by omega), hO 45 _ (by omega) (by omega), hO 45 _ (by omega) (by omega), hO 45 _ (by omega) (by omega)]
      exact h4 k (by omega)

set_option maxRecDepth 20000 in
set_option maxHeartbeats 1000000 in
theorem c_X6_undo {d : Nat} (hd : 1 ≤ d) {σ : MM} {X : CST} (hX : MRl σ X) (hO : XOK X) : V yX6_undo cX6_undo 1 (some .int) d (QI (fun v σ' => v = q_undo X.B ∧ MRl σ' (NEWB X (s_undo X.B)) ∧ FM σ σ')) 0 [some (vR 34 0)] [] σ := by
  have hM := hX.1
  have hG := hO.1
  have hW := hG.w
  have hs := hW.s
  have hF := hX.2.2.2.1
  have hT := hX.2.2.1
  have hI6 := hX.2.2.2.2
  have hZ := hX.2.1
  have h30 := hG.2.2.1
  refine V_aload_0 (pc := 0) dX6_undo_0 ?_
  refine V_iconst (pc := 1) dX6_undo_1 ?_
  refine V_puti (pc := 2) dX6_undo_2 gf_X6_74 (by omega) ?_
  have hM := (KM.set (σ := σ) (t := 34) (k := 0) (z := 0) (v := 0) (by unfold SCM; omega)).mb hM
  refine V_aload_0 (pc := 5) dX6_undo_5 ?_
  refine V_callV0p (pc := 6) dX6_undo_6 kv_X6_240 rc_34 (by omega) (d - 1) (by omega) rfl (c_X6_isBook (by omega) hM hW) ?_
  refine V_if_ne_b (pc := 9) 15 dX6_undo_9 (by decide) (fun c_9 => ?_) (fun c_9 => ?_)
  · refine V_aload_0 (pc := 15) dX6_undo_15 ?_
    refine V_getc (pc := 16) dX6_undo_16 gf_X6_34 (by omega) ?_
    refine V_bipush (pc := 19) dX6_undo_19 (by decide) ?_
    refine V_iald (pc := 21) dX6_undo_21 sh_41 (by omega) (by omega) hM.h6 ?_
    refine V_if_ne (pc := 22) 28 dX6_undo_22 (by decide) (by omega) (fun c_22 => ?_) (fun c_22 => ?_)
    · refine V_aload_0 (pc := 28) dX6_undo_28 ?_
      refine V_getc (pc := 29) dX6_undo_29 gf_X6_34 (by omega) ?_
      refine V_bipush (pc := 32) dX6_undo_32 (by decide) ?_
      refine V_dup2 (pc := 34) dX6_undo_34 rfl rfl ?_
      refine V_iald (pc := 35) dX6_undo_35 sh_41 (by omega) (by omega) hM.h6 ?_
      refine V_iconst (pc := 36) dX6_undo_36 ?_
      refine V_isub (pc := 37) dX6_undo_37 ?_
      refine V_iast (pc := 38) dX6_undo_38 sh_41 (by omega) (by omega) ?_
      refine V_aload_0 (pc := 39) dX6_undo_39 ?_
      refine V_getc (pc := 40) dX6_undo_40 gf_X6_34 (by omega) ?_
      refine V_bipush (pc := 43) dX6_undo_43 (by decide) ?_
      refine V_iald (pc := 45) dX6_undo_45 sh_41 (by omega) (by omega) (v := X.B 17 0 - 1) (setI_same _ _ _ _ _) ?_
      refine V_iretI (pc := 46) dX6_undo_46 rfl ?_
      exact ⟨_, rfl, by unfold q_undo; rw [if_neg (by omega), if_neg (by omega)], by unfold s_undo; rw [if_neg (by omega), if_neg (by omega)]; exact hX.newb hO ((KM.set (σ := σ) (t := 34) (k := 0) (z := 0) (v := 0) (by unfold SCM; omega)).offm.tr (OffM.set (by unfold ISL; omega))) (hM.done (by omega)), (KM.set (σ := σ) (t := 34) (k := 0) (z := 0) (v := 0) (by unfold SCM; omega)).fm.tr (FM.set (by decide))⟩
    · refine V_bipush (pc := 25) dX6_undo_25 (by decide) ?_
      refine V_iretI (pc := 27) dX6_undo_27 rfl ?_
      exact ⟨_, rfl, by unfold q_undo; rw [if_neg (by omega), if_pos (by omega)], by unfold s_undo; rw [if_neg (by omega), if_pos (by omega)]; exact (KM.set (σ := σ) (t := 34) (k := 0) (z := 0) (v := 0) (by unfold SCM; omega)).mrl hX, (KM.set (σ := σ) (t := 34) (k := 0) (z := 0) (v := 0) (by unfold SCM; omega)).fm⟩
  · refine V_bipush (pc := 12) dX6_undo_12 (by decide) ?_
    refine V_iretI (pc := 14) dX6_undo_14 rfl ?_
    exact ⟨_, rfl, by unfold q_undo; rw [if_pos (by omega)], by unfold s_undo; rw [if_pos (by omega)]; exact (KM.set (σ := σ) (t := 34) (k := 0) (z := 0) (v := 0) (by unfold SCM; omega)).mrl hX, (KM.set (σ := σ) (t := 34) (k := 0) (z := 0) (v := 0) (by unfold SCM; omega)).fm⟩

set_option maxRecDepth 20000 in
set_option maxHeartbeats 1000000 in
theorem c_X6_anew {d : Nat} (hd : 1 ≤ d) {σ : MM} {X : CST} (hX : MRl σ X) (hO : XOK X) : V yX6_anew cX6_anew 2 (some .int) d (QI (fun v σ' => v = q_anew X.B ∧ MRl σ' (NEWB X (s_anew X.B)) ∧ FM σ σ')) 0 [some (vR 34 0), none] [] σ := by
  have hM := hX.1
  have hG := hO.1
  have hW := hG.w
  have hs := hW.s
  have hF := hX.2.2.2.1
  have hT := hX.2.2.1
  have hI6 := hX.2.2.2.2
  have hZ := hX.2.1
  have h30 := hG.2.2.1
  refine V_aload_0 (pc := 0) dX6_anew_0 ?_
  refine V_iconst (pc := 1) dX6_anew_1 ?_
  refine V_puti (pc := 2) dX6_anew_2 gf_X6_74 (by omega) ?_
  have hM := (KM.set (σ := σ) (t := 34) (k := 0) (z := 0) (v := 0) (by unfold SCM; omega)).mb hM
  refine V_aload_0 (pc := 5) dX6_anew_5 ?_
  refine V_callV0p (pc := 6) dX6_anew_6 kv_X6_240 rc_34 (by omega) (d - 1) (by omega) rfl (c_X6_isBook (by omega) hM hW) ?_
  refine V_if_ne_b (pc := 9) 15 dX6_anew_9 (by decide) (fun c_9 => ?_) (fun c_9 => ?_)
  · refine V_aload_0 (pc := 15) dX6_anew_15 ?_
    refine V_getc (pc := 16) dX6_anew_16 gf_X6_34 (by omega) ?_
    refine V_bipush (pc := 19) dX6_anew_19 (by decide) ?_
    refine V_iald (pc := 21) dX6_anew_21 sh_41 (by omega) (by omega) hM.h6 ?_
    refine V_istore_1 (pc := 22) dX6_anew_22 ?_
    refine V_aload_0 (pc := 23) dX6_anew_23 ?_
    refine V_getc (pc := 24) dX6_anew_24 gf_X6_34 (by omega) ?_
    refine V_bipush (pc := 27) dX6_anew_27 (by decide) ?_
    refine V_iconst (pc := 29) dX6_anew_29 ?_
    refine V_iast (pc := 30) dX6_anew_30 sh_41 (by omega) (by omega) ?_
    refine V_iload_1 (pc := 31) dX6_anew_31 ?_
    refine V_iretI (pc := 32) dX6_anew_32 rfl ?_
    exact ⟨_, rfl, by unfold q_anew; rw [if_neg (by omega)], by unfold s_anew; rw [if_neg (by omega)]; exact hX.newb hO ((KM.set (σ := σ) (t := 34) (k := 0) (z := 0) (v := 0) (by unfold SCM; omega)).offm.tr (OffM.set (by unfold ISL; omega))) (hM.done (by omega)), (KM.set (σ := σ) (t := 34) (k := 0) (z := 0) (v := 0) (by unfold SCM; omega)).fm.tr (FM.set (by decide))⟩
  · refine V_bipush (pc := 12) dX6_anew_12 (by decide) ?_
    refine V_iretI (pc := 14) dX6_anew_14 rfl ?_
    exact ⟨_, rfl, by unfold q_anew; rw [if_pos (by omega)], by unfold s_anew; rw [if_pos (by omega)]; exact (KM.set (σ := σ) (t := 34) (k := 0) (z := 0) (v := 0) (by unfold SCM; omega)).mrl hX, (KM.set (σ := σ) (t := 34) (k := 0) (z := 0) (v := 0) (by unfold SCM; omega)).fm⟩

set_option maxRecDepth 20000 in
set_option maxHeartbeats 1000000 in
theorem c_X6_rate {d : Nat} (hd : 2 ≤ d) {σ : MM} {X : CST} {e n : Int} (hX : MRl σ X) (hO : XOK X) (he : IR e) (hn : IR n) : V yX6_rate cX6_rate 4 (some .int) d (QI (fun v σ' => v = q_rate X.B e n ∧ MRl σ' (NEWB X (s_rate X.B e n)) ∧ FM σ σ')) 0 [some (vR 34 0), some (vI e), some (vI n), none] [] σ := by
  have hM := hX.1
  have hG := hO.1
  have hW := hG.w
  have hs := hW.s
  have hF := hX.2.2.2.1
  have hT := hX.2.2.1
  have hI6 := hX.2.2.2.2
  have hZ := hX.2.1
  have h30 := hG.2.2.1
  refine V_aload_0 (pc := 0) dX6_rate_0 ?_
  refine V_iconst (pc := 1) dX6_rate_1 ?_
  refine V_puti (pc := 2) dX6_rate_2 gf_X6_74 (by omega) ?_
  have hM := (KM.set (σ := σ) (t := 34) (k := 0) (z := 0) (v := 0) (by unfold SCM; omega)).mb hM
  refine V_aload_0 (pc := 5) dX6_rate_5 ?_
  refine V_iload_1 (pc := 6) dX6_rate_6 ?_
  refine V_i2l (pc := 7) dX6_rate_7 (by omega) ?_
  refine V_callV1p (pc := 8) dX6_rate_8 kv_X6_246 rc_34 (by omega) (d - 1) (by omega) rfl (c_X6_isEntry (by omega) hM hW (by omega)) ?_
  refine V_if_eq_b (pc := 11) 26 dX6_rate_11 (by decide) (fun c_11 => ?_) (fun c_11 => ?_)
  · refine V_bipush (pc := 26) dX6_rate_26 (by decide) ?_
    refine V_iretI (pc := 28) dX6_rate_28 rfl ?_
    exact ⟨_, rfl, by unfold q_rate; rw [if_pos (by omega)], by unfold s_rate; rw [if_pos (by omega)]; exact (KM.set (σ := σ) (t := 34) (k := 0) (z := 0) (v := 0) (by unfold SCM; omega)).mrl hX, (KM.set (σ := σ) (t := 34) (k := 0) (z := 0) (v := 0) (by unfold SCM; omega)).fm⟩
  · refine V_iload_2 (pc := 14) dX6_rate_14 ?_
    refine V_i2l (pc := 15) dX6_rate_15 (by omega) ?_
    refine V_lconst (pc := 16) dX6_rate_16 (z := 0) rfl ?_
    refine V_ldc2 (pc := 17) dX6_rate_17 (z := 20) ldc_X6_396 ?_
    refine V_callS3p (pc := 20) dX6_rate_20 kv_X6_79 (d - 1) (by omega) rfl (c_X6_in (by omega) (by omega) (by omega) (by omega)) ?_
    refine V_if_ne_b (pc := 23) 29 dX6_rate_23 (by decide) (fun c_23 => ?_) (fun c_23 => ?_)
    · refine V_aload_0 (pc := 29) dX6_rate_29 ?_
      refine V_getc (pc := 30) dX6_rate_30 gf_X6_34 (by omega) ?_
      refine V_bipush (pc := 33) dX6_rate_33 (by decide) ?_
      refine V_iald (pc := 35) dX6_rate_35 sh_41 (by omega) (by omega) hM.h6 ?_
      refine V_if_le (pc := 36) 42 dX6_rate_36 (by decide) (by omega) (fun c_36 => ?_) (fun c_36 => ?_)
      · refine V_aload_0 (pc := 42) dX6_rate_42 ?_
        refine V_getc (pc := 43) dX6_rate_43 gf_X6_43 (by omega) ?_
        refine V_iconst (pc := 46) dX6_rate_46 ?_
        refine V_iload_1 (pc := 47) dX6_rate_47 ?_
        refine V_imul (pc := 48) dX6_rate_48 ?_
        refine V_iconst (pc := 49) dX6_rate_49 ?_
        refine V_iadd (pc := 50) dX6_rate_50 ?_
        refine V_iald (pc := 51) dX6_rate_51 sh_44 (by omega) (by omega) (hM.t3 (by omega)) ?_
        refine V_istore_3 (pc := 52) dX6_rate_52 ?_
        refine V_aload_0 (pc := 53) dX6_rate_53 ?_
        refine V_getc (pc := 54) dX6_rate_54 gf_X6_43 (by omega) ?_
        refine V_iconst (pc := 57) dX6_rate_57 ?_
        refine V_iload_1 (pc := 58) dX6_rate_58 ?_
        refine V_imul (pc := 59) dX6_rate_59 ?_
        refine V_iconst (pc := 60) dX6_rate_60 ?_
        refine V_iadd (pc := 61) dX6_rate_61 ?_
        refine V_iload_2 (pc := 62) dX6_rate_62 ?_
        refine V_iast (pc := 63) dX6_rate_63 sh_44 (by omega) (by omega) ?_
        refine V_iload_3 (pc := 64) dX6_rate_64 ?_
        refine V_iretI (pc := 65) dX6_rate_65 rfl ?_
        exact ⟨_, rfl, by unfold q_rate; rw [if_neg (by omega), if_neg (by omega)], by unfold s_rate; rw [if_neg (by omega), if_neg (by omega)]; exact hX.newb hO ((KM.set (σ := σ) (t := 34) (k := 0) (z := 0) (v := 0) (by unfold SCM; omega)).offm.tr (OffM.set (by unfold ISL; omega))) (hM.says (by omega)), (KM.set (σ := σ) (t := 34) (k := 0) (z := 0) (v := 0) (by unfold SCM; omega)).fm.tr (FM.set (by decide))⟩
      · refine V_bipush (pc := 39) dX6_rate_39 (by decide) ?_
        refine V_iretI (pc := 41) dX6_rate_41 rfl ?_
        exact ⟨_, rfl, by unfold q_rate; rw [if_neg (by omega), if_pos (by omega)], by unfold s_rate; rw [if_neg (by omega), if_pos (by omega)]; exact (KM.set (σ := σ) (t := 34) (k := 0) (z := 0) (v := 0) (by unfold SCM; omega)).mrl hX, (KM.set (σ := σ) (t := 34) (k := 0) (z := 0) (v := 0) (by unfold SCM; omega)).fm⟩
    · refine V_bipush (pc := 26) dX6_rate_26 (by decide) ?_
      refine V_iretI (pc := 28) dX6_rate_28 rfl ?_
      exact ⟨_, rfl, by unfold q_rate; rw [if_pos (by omega)], by unfold s_rate; rw [if_pos (by omega)]; exact (KM.set (σ := σ) (t := 34) (k := 0) (z := 0) (v := 0) (by unfold SCM; omega)).mrl hX, (KM.set (σ := σ) (t := 34) (k := 0) (z := 0) (v := 0) (by unfold SCM; omega)).fm⟩

theorem OffM.act {σ : MM} {m a b c d v : Int} (hm : 0 ≤ m ∧ m < 30) : OffM 0 σ (setI (setI (setI (setI (setI σ 45 0 (4 * m) a) 45 0 (4 * m + 1) b) 45 0 (4 * m + 2) c) 45 0 (4 * m + 3) d) 41 0 6 v) :=
  (((OffM.set (by unfold ISL; omega)).tr (OffM.set (by unfold ISL; omega))).tr ((OffM.set (by unfold ISL; omega)).tr (OffM.set (by unfold ISL; omega)))).tr (OffM.set (by unfold ISL; omega))
theorem MB.act5 {σ : MM} {B : BK} (hM : MB σ 0 B) {m k e i c y : Int} (hm : m = B 17 0) (hk : k = if i = -1 then 1 else 0) (hc : i ≠ -1 → c = i) : MB (setI (setI (setI (setI (setI σ 45 0 (4 * m) k) 45 0 (4 * m + 1) e) 45 0 (4 * m + 2) c) 45 0 (4 * m + 3) y) 41 0 6 (B 17 0 + 1)) 0 (aB B e i y) := by
  subst hm
  refine MB.act hM hc (fun t x h1 h2 => ?_) (setI_same _ _ _ _ _) ?_ ?_ ?_ ?_
  · simp only [setI]
    rw [if_neg (by omega), if_neg (by omega), if_neg (by omega), if_neg (by omega), if_neg (by omega)]
  · rw [setI_tag (by decide), setI_x (by omega), setI_x (by omega), setI_x (by omega), setI_same]; exact hk
  · rw [setI_tag (by decide), setI_x (by omega), setI_x (by omega), setI_same]
  · rw [setI_tag (by decide), setI_x (by omega), setI_same]
  · rw [setI_tag (by decide), setI_same]

set_option maxRecDepth 20000 in
set_option maxHeartbeats 1000000 in
theorem c_X6_does {d : Nat} (hd : 0 ≤ d) {σ : MM} {B : BK} {k e i c y : Int} (hM : MB σ 0 B) (hW : WB B) (hm : 0 ≤ B 17 0 ∧ B 17 0 < 30) (hk : k = if i = -1 then 1 else 0) (hc : i ≠ -1 → c = i) : V yX6_does cX6_does 6 none d (QZ (fun σ' => MB σ' 0 (aB B e i y) ∧ OffM 0 σ σ')) 0 [some (vR 34 0), some (vI k), some (vI e), some (vI c), some (vI y), none] [] σ := by
  refine V_iconst (pc := 0) dX6_does_0 ?_
  refine V_aload_0 (pc := 1) dX6_does_1 ?_
  refine V_getc (pc := 2) dX6_does_2 gf_X6_34 (by omega) ?_
  refine V_bipush (pc := 5) dX6_does_5 (by decide) ?_
  refine V_iald (pc := 7) dX6_does_7 sh_41 (by omega) (by omega) hM.h6 ?_
  refine V_imul (pc := 8) dX6_does_8 ?_
  refine V_istore_5 (pc := 9) dX6_does_9 ?_
  refine V_aload_0 (pc := 11) dX6_does_11 ?_
  refine V_getc (pc := 12) dX6_does_12 gf_X6_46 (by omega) ?_
  refine V_iload_5 (pc := 15) dX6_does_15 ?_
  refine V_iload_1 (pc := 17) dX6_does_17 ?_
  refine V_iast (pc := 18) dX6_does_18 sh_45 (by omega) (by omega) ?_
  refine V_aload_0 (pc := 19) dX6_does_19 ?_
  refine V_getc (pc := 20) dX6_does_20 gf_X6_46 (by omega) ?_
  refine V_iload_5 (pc := 23) dX6_does_23 ?_
  refine V_iconst (pc := 25) dX6_does_25 ?_
  refine V_iadd (pc := 26) dX6_does_26 ?_
  refine V_iload_2 (pc := 27) dX6_does_27 ?_
  refine V_iast (pc := 28) dX6_does_28 sh_45 (by omega) (by omega) ?_
  refine V_aload_0 (pc := 29) dX6_does_29 ?_
  refine V_getc (pc := 30) dX6_does_30 gf_X6_46 (by omega) ?_
  refine V_iload_5 (pc := 33) dX6_does_33 ?_
  refine V_iconst (pc := 35) dX6_does_35 ?_
  refine V_iadd (pc := 36) dX6_does_36 ?_
  refine V_iload_3 (pc := 37) dX6_does_37 ?_
  refine V_iast (pc := 38) dX6_does_38 sh_45 (by omega) (by omega) ?_
  refine V_aload_0 (pc := 39) dX6_does_39 ?_
  refine V_getc (pc := 40) dX6_does_40 gf_X6_46 (by omega) ?_
  refine V_iload_5 (pc := 43) dX6_does_43 ?_
  refine V_iconst (pc := 45) dX6_does_45 ?_
  refine V_iadd (pc := 46) dX6_does_46 ?_
  refine V_iload_4 (pc := 47) dX6_does_47 ?_
  refine V_iast (pc := 49) dX6_does_49 sh_45 (by omega) (by omega) ?_
  refine V_aload_0 (pc := 50) dX6_does_50 ?_
  refine V_getc (pc := 51) dX6_does_51 gf_X6_34 (by omega) ?_
  refine V_bipush (pc := 54) dX6_does_54 (by decide) ?_
  refine V_dup2 (pc := 56) dX6_does_56 rfl rfl ?_
  refine V_iald (pc := 57) dX6_does_57 sh_41 (by omega) (by omega) (v := B 17 0) (by rw [setI_ne (by decide), setI_ne (by decide), setI_ne (by decide), setI_ne (by decide)]; exact hM.h6) ?_
  refine V_iconst (pc := 58) dX6_does_58 ?_
  refine V_iadd (pc := 59) dX6_does_59 ?_
  refine V_iast (pc := 60) dX6_does_60 sh_41 (by omega) (by omega) ?_
  refine V_vret (pc := 61) dX6_does_61 rfl ?_
  exact ⟨rfl, hM.act5 rfl hk hc, OffM.act hm⟩

set_option maxRecDepth 20000 in
set_option maxHeartbeats 1000000 in
theorem c_X6_retraces {d : Nat} (hd : 5 ≤ d) {σ : MM} {X : CST} {e i y : Int} (hX : MRl σ X) (hO : XOK X) (he : IR e) (hi : IR i) (hy : IR y) : V yX6_retraces cX6_retraces 4 (some .int) d (QI (fun v σ' => v = q_retraces X.B e i y ∧ MRl σ' (NEWB X (s_retraces X.B e i y)) ∧ FM σ σ')) 0 [some (vR 34 0), some (vI e), some (vI i), some (vI y)] [] σ := by
  have hM := hX.1
  have hG := hO.1
  have hW := hG.w
  have hs := hW.s
  have hF := hX.2.2.2.1
  have hT := hX.2.2.1
  have hI6 := hX.2.2.2.2
  have hZ := hX.2.1
  have h30 := hG.2.2.1
  refine V_aload_0 (pc := 0) dX6_retraces_0 ?_
  refine V_iconst (pc := 1) dX6_retraces_1 ?_
  refine V_puti (pc := 2) dX6_retraces_2 gf_X6_74 (by omega) ?_
  have hM := (KM.set (σ := σ) (t := 34) (k := 0) (z := 0) (v := 0) (by unfold SCM; omega)).mb hM
  refine V_aload_0 (pc := 5) dX6_retraces_5 ?_
  refine V_iload_1 (pc := 6) dX6_retraces_6 ?_
  refine V_iload_3 (pc := 7) dX6_retraces_7 ?_
  refine V_callV2p (pc := 8) dX6_retraces_8 kv_X6_334 rc_34 (by omega) (d - 1) (by omega) rfl (c_X6_isThen (by omega) hM hW (by omega) (by omega)) ?_
  refine V_if_eq_b (pc := 11) 22 dX6_retraces_11 (by decide) (fun c_11 => ?_) (fun c_11 => ?_)
  · refine V_bipush (pc := 22) dX6_retraces_22 (by decide) ?_
    refine V_iretI (pc := 24) dX6_retraces_24 rfl ?_
    exact ⟨_, rfl, by unfold q_retraces; rw [if_pos (by omega)], by unfold s_retraces; rw [if_pos (by omega)]; exact (KM.set (σ := σ) (t := 34) (k := 0) (z := 0) (v := 0) (by unfold SCM; omega)).mrl hX, (KM.set (σ := σ) (t := 34) (k := 0) (z := 0) (v := 0) (by unfold SCM; omega)).fm⟩
  · refine V_aload_0 (pc := 14) dX6_retraces_14 ?_
    refine V_iload_2 (pc := 15) dX6_retraces_15 ?_
    refine V_callV1p (pc := 16) dX6_retraces_16 kv_X6_321 rc_34 (by omega) (d - 1) (by omega) rfl (c_X6_isInk (by omega) hM hW (by omega)) ?_
    refine V_if_ne_b (pc := 19) 25 dX6_retraces_19 (by decide) (fun c_19 => ?_) (fun c_19 => ?_)
    · refine V_aload_0 (pc := 25) dX6_retraces_25 ?_
      refine V_getc (pc := 26) dX6_retraces_26 gf_X6_34 (by omega) ?_
      refine V_bipush (pc := 29) dX6_retraces_29 (by decide) ?_
      refine V_iald (pc := 31) dX6_retraces_31 sh_41 (by omega) (by omega) hM.h6 ?_
      refine V_bipush (pc := 32) dX6_retraces_32 (by decide) ?_
      refine V_icmp_ne (pc := 34) 40 dX6_retraces_34 (by decide) (by omega) (by omega) (fun c_34 => ?_) (fun c_34 => ?_)
      · refine V_aload_0 (pc := 40) dX6_retraces_40 ?_
        refine V_iconst (pc := 41) dX6_retraces_41 ?_
        refine V_iload_1 (pc := 42) dX6_retraces_42 ?_
        refine V_iload_2 (pc := 43) dX6_retraces_43 ?_
        refine V_iload_3 (pc := 44) dX6_retraces_44 ?_
        refine V_callV4z (pc := 45) dX6_retraces_45 kv_X6_451 rc_34 (by omega) (d - 1) (by omega) rfl (c_X6_does (by omega) (i := i) hM hW (by omega) (by rw [if_neg (by omega)]) (fun _ => rfl)) (fun σ_45 h_45 => ?_)
        obtain ⟨hMa, hOa⟩ := h_45
        have hWa := WB_act (e := e) (i := i) (y := y) hW (by omega) (by omega) (by omega) (by omega)
        have e6 : aB X.B e (i) y 6 = X.B 6 := aB_at (by decide)
        have e1 : aB X.B e (i) y 1 = X.B 1 := aB_at (by decide)
        refine V_aload_0 (pc := 48) dX6_retraces_48 ?_
        refine V_callV0z (pc := 49) dX6_retraces_49 kv_X6_337 rc_34 (by omega) (d - 1) (by omega) rfl (c_X6_laysNow (by omega) hMa hWa) (fun σ_49 h_49 => ?_)
        obtain ⟨hLa, hSa, hKa⟩ := h_49
        refine V_aload_0 (pc := 52) dX6_retraces_52 ?_
        refine V_iload_1 (pc := 53) dX6_retraces_53 ?_
        refine V_callV1p (pc := 54) dX6_retraces_54 kv_X6_398 rc_34 (by omega) (d - 1) (by omega) rfl (c_X6_lastOf (by omega) (hKa.mb hMa) hWa hLa hSa (by rw [e6]; omega)) ?_
        refine V_iretI (pc := 57) dX6_retraces_57 rfl ?_
        exact ⟨_, rfl, by unfold q_retraces q_act; rw [if_neg (by omega), if_neg (by omega), e1], by unfold s_retraces s_act; rw [if_neg (by omega), if_neg (by omega)]; exact hX.newb hO (((KM.set (σ := σ) (t := 34) (k := 0) (z := 0) (v := 0) (by unfold SCM; omega)).offm.tr hOa).tr hKa.offm) (hKa.mb hMa), (KM.set (σ := σ) (t := 34) (k := 0) (z := 0) (v := 0) (by unfold SCM; omega)).fm.tr (hOa.fm.tr hKa.fm)⟩
      · refine V_bipush (pc := 37) dX6_retraces_37 (by decide) ?_
        refine V_iretI (pc := 39) dX6_retraces_39 rfl ?_
        exact ⟨_, rfl, by unfold q_retraces q_act; rw [if_neg (by omega), if_pos (by omega)], by unfold s_retraces s_act; rw [if_neg (by omega), if_pos (by omega)]; exact (KM.set (σ := σ) (t := 34) (k := 0) (z := 0) (v := 0) (by unfold SCM; omega)).mrl hX, (KM.set (σ := σ) (t := 34) (k := 0) (z := 0) (v := 0) (by unfold SCM; omega)).fm⟩
    · refine V_bipush (pc := 22) dX6_retraces_22 (by decide) ?_
      refine V_iretI (pc := 24) dX6_retraces_24 rfl ?_
      exact ⟨_, rfl, by unfold q_retraces; rw [if_pos (by omega)], by unfold s_retraces; rw [if_pos (by omega)]; exact (KM.set (σ := σ) (t := 34) (k := 0) (z := 0) (v := 0) (by unfold SCM; omega)).mrl hX, (KM.set (σ := σ) (t := 34) (k := 0) (z := 0) (v := 0) (by unfold SCM; omega)).fm⟩

set_option maxRecDepth 20000 in
set_option maxHeartbeats 1000000 in
theorem c_X6_bleaches {d : Nat} (hd : 5 ≤ d) {σ : MM} {X : CST} {e y : Int} (hX : MRl σ X) (hO : XOK X) (he : IR e) (hy : IR y) : V yX6_bleaches cX6_bleaches 3 (some .int) d (QI (fun v σ' => v = q_bleaches X.B e y ∧ MRl σ' (NEWB X (s_bleaches X.B e y)) ∧ FM σ σ')) 0 [some (vR 34 0), some (vI e), some (vI y)] [] σ := by
  have hM := hX.1
  have hG := hO.1
  have hW := hG.w
  have hs := hW.s
  have hF := hX.2.2.2.1
  have hT := hX.2.2.1
  have hI6 := hX.2.2.2.2
  have hZ := hX.2.1
  have h30 := hG.2.2.1
  refine V_aload_0 (pc := 0) dX6_bleaches_0 ?_
  refine V_iconst (pc := 1) dX6_bleaches_1 ?_
  refine V_puti (pc := 2) dX6_bleaches_2 gf_X6_74 (by omega) ?_
  have hM := (KM.set (σ := σ) (t := 34) (k := 0) (z := 0) (v := 0) (by unfold SCM; omega)).mb hM
  refine V_aload_0 (pc := 5) dX6_bleaches_5 ?_
  refine V_iload_1 (pc := 6) dX6_bleaches_6 ?_
  refine V_iload_2 (pc := 7) dX6_bleaches_7 ?_
  refine V_callV2p (pc := 8) dX6_bleaches_8 kv_X6_334 rc_34 (by omega) (d - 1) (by omega) rfl (c_X6_isThen (by omega) hM hW (by omega) (by omega)) ?_
  refine V_if_ne_b (pc := 11) 17 dX6_bleaches_11 (by decide) (fun c_11 => ?_) (fun c_11 => ?_)
  · refine V_aload_0 (pc := 17) dX6_bleaches_17 ?_
    refine V_getc (pc := 18) dX6_bleaches_18 gf_X6_34 (by omega) ?_
    refine V_bipush (pc := 21) dX6_bleaches_21 (by decide) ?_
    refine V_iald (pc := 23) dX6_bleaches_23 sh_41 (by omega) (by omega) hM.h6 ?_
    refine V_bipush (pc := 24) dX6_bleaches_24 (by decide) ?_
    refine V_icmp_ne (pc := 26) 32 dX6_bleaches_26 (by decide) (by omega) (by omega) (fun c_26 => ?_) (fun c_26 => ?_)
    · refine V_aload_0 (pc := 32) dX6_bleaches_32 ?_
      refine V_iconst (pc := 33) dX6_bleaches_33 ?_
      refine V_iload_1 (pc := 34) dX6_bleaches_34 ?_
      refine V_iconst (pc := 35) dX6_bleaches_35 ?_
      refine V_iload_2 (pc := 36) dX6_bleaches_36 ?_
      refine V_callV4z (pc := 37) dX6_bleaches_37 kv_X6_451 rc_34 (by omega) (d - 1) (by omega) rfl (c_X6_does (by omega) (i := -1) hM hW (by omega) (by rw [if_pos rfl]) (fun q => absurd rfl q)) (fun σ_37 h_37 => ?_)
      obtain ⟨hMa, hOa⟩ := h_37
      have hWa := WB_act (e := e) (i := -1) (y := y) hW (by omega) (by omega) (by omega) (by omega)
      have e6 : aB X.B e (-1) y 6 = X.B 6 := aB_at (by decide)
      have e1 : aB X.B e (-1) y 1 = X.B 1 := aB_at (by decide)
      refine V_aload_0 (pc := 40) dX6_bleaches_40 ?_
      refine V_callV0z (pc := 41) dX6_bleaches_41 kv_X6_337 rc_34 (by omega) (d - 1) (by omega) rfl (c_X6_laysNow (by omega) hMa hWa) (fun σ_41 h_41 => ?_)
      obtain ⟨hLa, hSa, hKa⟩ := h_41
      refine V_aload_0 (pc := 44) dX6_bleaches_44 ?_
      refine V_iload_1 (pc := 45) dX6_bleaches_45 ?_
      refine V_callV1p (pc := 46) dX6_bleaches_46 kv_X6_398 rc_34 (by omega) (d - 1) (by omega) rfl (c_X6_lastOf (by omega) (hKa.mb hMa) hWa hLa hSa (by rw [e6]; omega)) ?_
      refine V_iretI (pc := 49) dX6_bleaches_49 rfl ?_
      exact ⟨_, rfl, by unfold q_bleaches q_act; rw [if_neg (by omega), if_neg (by omega), e1], by unfold s_bleaches s_act; rw [if_neg (by omega), if_neg (by omega)]; exact hX.newb hO (((KM.set (σ := σ) (t := 34) (k := 0) (z := 0) (v := 0) (by unfold SCM; omega)).offm.tr hOa).tr hKa.offm) (hKa.mb hMa), (KM.set (σ := σ) (t := 34) (k := 0) (z := 0) (v := 0) (by unfold SCM; omega)).fm.tr (hOa.fm.tr hKa.fm)⟩
    · refine V_bipush (pc := 29) dX6_bleaches_29 (by decide) ?_
      refine V_iretI (pc := 31) dX6_bleaches_31 rfl ?_
      exact ⟨_, rfl, by unfold q_bleaches q_act; rw [if_neg (by omega), if_pos (by omega)], by unfold s_bleaches s_act; rw [if_neg (by omega), if_pos (by omega)]; exact (KM.set (σ := σ) (t := 34) (k := 0) (z := 0) (v := 0) (by unfold SCM; omega)).mrl hX, (KM.set (σ := σ) (t := 34) (k := 0) (z := 0) (v := 0) (by unfold SCM; omega)).fm⟩
  · refine V_bipush (pc := 14) dX6_bleaches_14 (by decide) ?_
    refine V_iretI (pc := 16) dX6_bleaches_16 rfl ?_
    exact ⟨_, rfl, by unfold q_bleaches; rw [if_pos (by omega)], by unfold s_bleaches; rw [if_pos (by omega)]; exact (KM.set (σ := σ) (t := 34) (k := 0) (z := 0) (v := 0) (by unfold SCM; omega)).mrl hX, (KM.set (σ := σ) (t := 34) (k := 0) (z := 0) (v := 0) (by unfold SCM; omega)).fm⟩
