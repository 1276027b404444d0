/-! words as numbers -/
def WCF (f : Int → Int) : Nat → Int
  | 0 => 0
  | k + 1 => 27 * WCF f k + f k - 96
def COD (w : Nat) : Int := WCF (SCH w) (SLN w).toNat
abbrev LTT (f : Int → Int) (k : Nat) : Prop := ∀ x : Int, 0 ≤ x ∧ x < k → 97 ≤ f x ∧ f x ≤ 122
theorem WCF_pos {f : Int → Int} : ∀ {k : Nat}, LTT f k → 0 ≤ WCF f k ∧ (0 < k → 1 ≤ WCF f k)
  | 0, _ => ⟨Int.le_refl 0, fun h => absurd h (Nat.lt_irrefl 0)⟩
  | k + 1, h => by
    have ih := WCF_pos (f := f) (k := k) (fun x hx => h x (by omega))
    have := h k (by omega)
    rw [WCF]
    omega
theorem WCF_inj {f g : Int → Int} : ∀ {k m : Nat}, LTT f k → LTT g m → WCF f k = WCF g m → k = m ∧ ∀ x : Int, 0 ≤ x ∧ x < k → f x = g x
  | 0, 0, _, _, _ => ⟨rfl, fun x hx => by omega⟩
  | 0, m + 1, _, hg, h => by
    have := (WCF_pos hg).2 (by omega)
    have h0 : WCF f 0 = 0 := rfl
    omega
  | k + 1, 0, hf, _, h => by
    have := (WCF_pos hf).2 (by omega)
    have h0 : WCF g 0 = 0 := rfl
    omega
  | k + 1, m + 1, hf, hg, h => by
    have a := hf k (by omega)
    have b := hg m (by omega)
    rw [WCF, WCF] at h
    have e : WCF f k = WCF g m := by omega
    have ih := WCF_inj (f := f) (g := g) (k := k) (m := m) (fun x hx => hf x (by omega)) (fun x hx => hg x (by omega)) e
    obtain ⟨rfl, h2⟩ := ih
    refine ⟨rfl, fun x hx => ?_⟩
    by_cases q : x = k
    · subst q; omega
    · exact h2 x (by omega)
def P27 : Nat → Int
  | 0 => 1
  | n + 1 => 27 * P27 n
theorem P27_12 : ∀ k : Nat, k < 13 → P27 k ≤ 150094635296999121 := by decide +kernel
theorem WCF_lt {f : Int → Int} : ∀ {k : Nat}, LTT f k → WCF f k < P27 k
  | 0, _ => (by decide : (0 : Int) < 1)
  | k + 1, h => by
    have ih := WCF_lt (f := f) (k := k) (fun x hx => h x (by omega))
    have := h k (by omega)
    rw [WCF, P27]
    omega
theorem WC_eq {T : Int → Int} {s : Int} : ∀ {k : Nat}, k ≤ 12 → WC T s k = WCF (fun x => T (s + x)) k
  | 0, _ => rfl
  | k + 1, h => by rw [WC, if_neg (by omega), WCF, WC_eq (k := k) (by omega)]
theorem WC_big {T : Int → Int} {s : Int} : ∀ {k : Nat}, 12 < k → WC T s k = -1
  | 0, h => absurd h (by decide)
  | k + 1, h => by rw [WC, if_pos (by omega)]
theorem WC_LR {T : Int → Int} {s : Int} {k : Nat} (h : ∀ x : Int, s ≤ x ∧ x < s + k → LET T x) : LR (WC T s k) := by
  by_cases q : k ≤ 12
  · rw [WC_eq q]
    have hl : LTT (fun x => T (s + x)) k := fun x hx => h (s + x) (by omega)
    have h1 := WCF_pos hl
    have h2 := WCF_lt hl
    have h3 := P27_12 k (by omega)
    omega
  · rw [WC_big (by omega)]; omega
theorem WC_wrd {T : Int → Int} {n i : Int} {w : Nat} (hi : 0 ≤ i ∧ i ≤ n) (hw : w < 15) (hk : TK T n i = 1) : WC T (TS T n i) (TE T n i - TS T n i).toNat = COD w ↔ WRD T n i w := by
  have hl := TE_let hi hk
  have hE := TE_in (T := T) hi
  have hS := SLN_in w hw
  have hg : LTT (SCH w) (SLN w).toNat := fun x hx => SCH_in hw (by omega)
  rw [WRD_iff]
  by_cases q : (TE T n i - TS T n i).toNat ≤ 12
  · rw [WC_eq q]
    have hf : LTT (fun x => T (TS T n i + x)) (TE T n i - TS T n i).toNat := fun x hx => hl (TS T n i + x) (by omega)
    constructor
    · intro h
      have := WCF_inj hf hg h
      exact ⟨hk, by omega, fun x hx => this.2 x (by omega)⟩
    · intro h
      unfold COD
      rw [show (TE T n i - TS T n i).toNat = (SLN w).toNat by omega]
      have : ∀ k : Nat, k ≤ (SLN w).toNat → WCF (fun x => T (TS T n i + x)) k = WCF (SCH w) k := by
        intro k
        induction k with
        | zero => intro _; rfl
        | succ k ih => intro hk2; rw [WCF, WCF, ih (by omega), h.2.2 k (by omega)]
      exact this _ (Nat.le_refl _)
  · rw [WC_big (by omega)]
    have hc := (WCF_pos hg).1
    constructor
    · intro h; unfold COD at h; omega
    · intro h; omega
theorem COD_v : COD 0 = 50717 ∧ COD 1 = 6950 ∧ COD 2 = 315851 ∧ COD 3 = 2947858 ∧ COD 4 = 13385674 ∧ COD 5 = 8798 ∧ COD 6 = 298288 ∧ COD 7 = 361373 ∧ COD 8 = 15001 ∧ COD 9 = 118940 ∧ COD 10 = 79828 ∧ COD 11 = 419 ∧ COD 12 = 257 ∧ COD 13 = 12588917 ∧ COD 14 = 375400 := by decide +kernel
theorem VC_NM {T : Int → Int} {s : Int} : ∀ {k : Nat}, (∀ x : Int, s ≤ x ∧ x < s + k → DIG T x) → VC T s k = NM T s k ∨ (100000 < VC T s k ∧ 100000 < NM T s k)
  | 0, _ => Or.inl rfl
  | k + 1, h => by
    have ih := VC_NM (T := T) (s := s) (k := k) (fun x hx => h x (by omega))
    have h0 := NM_in (T := T) (s := s) (k := k) (fun x hx => h x (by omega))
    have := h (s + k) (by omega)
    rw [VC, NM_S]
    split <;> omega
/-- the reader's state -/
def RSM (σ : MM) (T : Int → Int) (n : Int) (s : Int × Int) : Prop := σ 34 0 12 = s.1 ∧ (0 ≤ s.1 ∧ s.1 ≤ 3) ∧ (0 ≤ s.2 ∧ s.2 ≤ n) ∧ (s.1 = 0 → TKM σ T n s.2 ∧ σ 34 0 13 = -1) ∧ (s.1 ≠ 0 → σ 34 0 13 = s.2) ∧ (0 ≤ σ 34 0 8 ∧ σ 34 0 8 ≤ 4)
def OffG (σ σ' : MM) : Prop := ∀ (t : Nat) (k z : Int), ¬ (t = 34 ∧ 7 ≤ z ∧ z ≤ 13) → σ' t k z = σ t k z
theorem OffG.rf {σ : MM} : OffG σ σ := fun _ _ _ _ => rfl
theorem OffG.tr {σ σ1 σ2 : MM} (h : OffG σ σ1) (h2 : OffG σ1 σ2) : OffG σ σ2 := fun t k z a => (h2 t k z a).trans (h t k z a)
theorem OffG.set {σ : MM} {z v : Int} (h : 7 ≤ z ∧ z ≤ 13) : OffG σ (setI σ 34 0 z v) := fun t' k' z' a => by
  have : ¬ (t' = 34 ∧ k' = 0 ∧ z' = z) := fun q => a ⟨q.1, by omega, by omega⟩
  simp only [setI, this, if_false]
theorem OffN.g {σ σ' : MM} (h : OffN σ σ') : OffG σ σ' := fun t k z a => h t k z (fun q => a ⟨q.1, by omega, by omega⟩)
theorem OffG.tpe {σ σ' : MM} {T : Int → Int} {n : Int} (h : OffG σ σ') (hT : TPE σ T n) : TPE σ' T n := ⟨(h 34 0 6 (by omega)).trans hT.1, fun x hx => (h 39 0 x (by omega)).trans (hT.2 x hx)⟩
theorem RSM.cong {σ σ' : MM} {T : Int → Int} {n : Int} {s : Int × Int} (h : RSM σ T n s) (e : ∀ z : Int, 7 ≤ z ∧ z ≤ 13 → σ' 34 0 z = σ 34 0 z) : RSM σ' T n s := by
  unfold RSM TKM at h ⊢
  rw [e 7 (by omega), e 8 (by omega), e 9 (by omega), e 10 (by omega), e 11 (by omega), e 12 (by omega), e 13 (by omega)]
  exact h
/-- the token behind, taken -/
theorem RSM.nx {σ σ' : MM} {T : Int → Int} {n i : Int} (hi : 0 ≤ i ∧ i ≤ n) (h12 : σ 34 0 12 = 0) (h13 : σ 34 0 13 = -1) (h : TKM σ' T n i ∧ OffN σ σ') : RSM σ' T n (0, i) := by
  have hk := TK_in T n i
  refine ⟨(h.2 34 0 12 (by omega)).trans h12, ⟨Int.le_refl 0, (by decide : (0 : Int) ≤ 3)⟩, hi, fun _ => ⟨h.1, (h.2 34 0 13 (by omega)).trans h13⟩, fun q => absurd rfl q, ?_⟩
  rw [h.1.2.1]; exact hk
def FLS (T : Int → Int) (n f : Int) (s : Int × Int) : Int × Int := if s.1 = 0 then (f, TS T n s.2) else s
def TKW (T : Int → Int) (n : Int) (w : Nat) (s : Int × Int) : Int × Int := if s.1 = 0 ∧ WRD T n s.2 w then (0, TE T n s.2) else s
def ASS (T : Int → Int) (n : Int) (w : Nat) (s : Int × Int) : Int × Int := if s.1 ≠ 0 then s else if WRD T n s.2 w then (0, TE T n s.2) else (1, TS T n s.2)
def NUM (T : Int → Int) (n lo hi : Int) (s : Int × Int) : (Int × Int) × Int := if s.1 ≠ 0 then (s, 0) else if TK T n s.2 ≠ 2 then ((1, TS T n s.2), 0) else if TV T n s.2 < lo ∨ hi < TV T n s.2 then ((2, TS T n s.2), 0) else ((0, TE T n s.2), TV T n s.2)
def ENS (T : Int → Int) (n : Int) (s : Int × Int) : Int × Int := if s.1 ≠ 0 then s else if TK T n s.2 ≠ 3 then (1, TS T n s.2) else (0, TE T n s.2)
theorem NBF_n {T : Int → Int} {n lo hi : Int} {w : Nat} {s : Int × Int} : NBF T n w lo hi s = NUM T n lo hi (ASS T n w s) := by
  unfold NBF NUM ASS
  by_cases h : s.1 ≠ 0
  · rw [if_pos h, if_pos h, if_pos h]
  · rw [if_neg h, if_neg h]
    by_cases h2 : WRD T n s.2 w
    · rw [if_neg (fun q => q h2), if_pos h2]
      exact (if_neg (fun q => q rfl)).symm
    · rw [if_pos h2, if_neg h2]
      exact (if_pos (show (1 : Int) ≠ 0 by decide)).symm

set_option maxRecDepth 20000 in
set_option maxHeartbeats 1000000 in
theorem c_X6_isGood {d : Nat} (hd : 0 ≤ d) {σ : MM} {T : Int → Int} {n : Int} {s : Int × Int} (hR : RSM σ T n s) : V yX6_isGood cX6_isGood 1 (some .boolean) d (QI (fun v σ' => v = bI (s.1 = 0) ∧ σ' = σ)) 0 [some (vR 34 0)] [] σ := by
  have hR1 := hR.2.1
  have hR2 := hR.2.2.1
  have hS := TS_in (T := T) hR2
  have hE := TE_in (T := T) hR2
  refine V_aload_0 (pc := 0) dX6_isGood_0 ?_
  refine V_geti (pc := 1) dX6_isGood_1 gf_X6_126 (by omega) hR.1 ?_
  refine V_if_ne (pc := 4) 11 dX6_isGood_4 (by decide) (by omega) (fun c_4 => ?_) (fun c_4 => ?_)
  · refine V_iconst (pc := 11) dX6_isGood_11 ?_
    refine V_iretZ (pc := 12) dX6_isGood_12 rfl (by first | omega | exact bI_01 _) ?_
    exact ⟨_, rfl, by first | exact bI_cong (by omega) | exact (bI_t (by omega)).symm | exact (bI_f (by omega)).symm | rfl, rfl⟩
  · refine V_iconst (pc := 7) dX6_isGood_7 ?_
    refine V_goto (pc := 8) 12 dX6_isGood_8 (by decide) ?_
    refine V_iretZ (pc := 12) dX6_isGood_12 rfl (by first | omega | exact bI_01 _) ?_
    exact ⟨_, rfl, by first | exact bI_cong (by omega) | exact (bI_t (by omega)).symm | exact (bI_f (by omega)).symm | rfl, rfl⟩

set_option maxRecDepth 20000 in
set_option maxHeartbeats 1000000 in
theorem c_X6_fails {d : Nat} (hd : 0 ≤ d) {σ : MM} {T : Int → Int} {n : Int} {s : Int × Int} {f : Int} (hR : RSM σ T n s) (hf : 1 ≤ f ∧ f ≤ 3) : V yX6_fails cX6_fails 2 none d (QZ (fun σ' => RSM σ' T n (FLS T n f s) ∧ OffG σ σ')) 0 [some (vR 34 0), some (vI f)] [] σ := by
  have hR1 := hR.2.1
  have hR2 := hR.2.2.1
  have hS := TS_in (T := T) hR2
  have hE := TE_in (T := T) hR2
  refine V_aload_0 (pc := 0) dX6_fails_0 ?_
  refine V_geti (pc := 1) dX6_fails_1 gf_X6_126 (by omega) hR.1 ?_
  refine V_if_eq (pc := 4) 8 dX6_fails_4 (by decide) (by omega) (fun c_4 => ?_) (fun c_4 => ?_)
  · refine V_aload_0 (pc := 8) dX6_fails_8 ?_
    refine V_iload_1 (pc := 9) dX6_fails_9 ?_
    refine V_puti (pc := 10) dX6_fails_10 gf_X6_126 (by omega) ?_
    refine V_aload_0 (pc := 13) dX6_fails_13 ?_
    refine V_aload_0 (pc := 14) dX6_fails_14 ?_
    refine V_geti (pc := 15) dX6_fails_15 gf_X6_105 (by omega) (v := TS T n s.2) (by rw [S34 (by decide)]; exact (hR.2.2.2.1 (by omega)).1.2.2.1) ?_
    refine V_puti (pc := 18) dX6_fails_18 gf_X6_129 (by omega) ?_
    refine V_vret (pc := 21) dX6_fails_21 rfl ?_
    refine ⟨rfl, ?_, (OffG.set (by omega)).tr (OffG.set (by omega))⟩
    unfold FLS
    rw [if_pos (by omega)]
    refine ⟨by rw [S34 (by decide), setI_same], ⟨by show 0 ≤ f; omega, by show f ≤ 3; omega⟩, ⟨by show 0 ≤ TS T n s.2; omega, by show TS T n s.2 ≤ n; omega⟩, fun q => absurd (show f = 0 from q) (by omega), fun _ => setI_same _ _ _ _ _, ?_⟩
    rw [S34 (by decide), S34 (by decide)]
    exact hR.2.2.2.2.2
  · refine V_vret (pc := 7) dX6_fails_7 rfl ?_
    exact ⟨rfl, by unfold FLS; rw [if_neg (by omega)]; exact hR, OffG.rf⟩

set_option maxRecDepth 20000 in
set_option maxHeartbeats 1000000 in
theorem c_X6_is {d : Nat} (hd : 0 ≤ d) {σ : MM} {T : Int → Int} {n : Int} {s : Int × Int} {x : Int} {w : Nat} (hR : RSM σ T n s) (hw : w < 15) (hx : x = COD w) (hxl : LR x) : V yX6_is cX6_is 3 (some .boolean) d (QI (fun v σ' => v = bI (s.1 = 0 ∧ WRD T n s.2 w) ∧ σ' = σ)) 0 [some (vR 34 0), some (vL x), none] [] σ := by
  have hR1 := hR.2.1
  have hR2 := hR.2.2.1
  have hS := TS_in (T := T) hR2
  have hE := TE_in (T := T) hR2
  have hk9 := hR.2.2.2.2.2
  refine V_aload_0 (pc := 0) dX6_is_0 ?_
  refine V_geti (pc := 1) dX6_is_1 gf_X6_126 (by omega) hR.1 ?_
  refine V_if_ne (pc := 4) 28 dX6_is_4 (by decide) (by omega) (fun c_4 => ?_) (fun c_4 => ?_)
  · refine V_iconst (pc := 28) dX6_is_28 ?_
    refine V_iretZ (pc := 29) dX6_is_29 rfl (by first | omega | exact bI_01 _) ?_
    exact ⟨_, rfl, by first | exact (bI_t ⟨by omega, hww.mp (by omega)⟩).symm | exact (bI_f (fun q => absurd (hww.mpr q.2) (by omega))).symm | exact (bI_f (fun q => absurd q.2.1 (by omega))).symm | exact (bI_f (fun q => absurd q.1 (by omega))).symm, rfl⟩
  · have hki := TK_in T n s.2
    refine V_aload_0 (pc := 7) dX6_is_7 ?_
    refine V_geti (pc := 8) dX6_is_8 gf_X6_115 (by omega) (v := TK T n s.2) (hR.2.2.2.1 (by omega)).1.2.1 ?_
    refine V_iconst (pc := 11) dX6_is_11 ?_
    refine V_icmp_ne (pc := 12) 28 dX6_is_12 (by decide) (by omega) (by omega) (fun c_12 => ?_) (fun c_12 => ?_)
    · refine V_iconst (pc := 28) dX6_is_28 ?_
      refine V_iretZ (pc := 29) dX6_is_29 rfl (by first | omega | exact bI_01 _) ?_
      exact ⟨_, rfl, by first | exact (bI_t ⟨by omega, hww.mp (by omega)⟩).symm | exact (bI_f (fun q => absurd (hww.mpr q.2) (by omega))).symm | exact (bI_f (fun q => absurd q.2.1 (by omega))).symm | exact (bI_f (fun q => absurd q.1 (by omega))).symm, rfl⟩
    · have hk1 : TK T n s.2 = 1 := by omega
      have hwl : LR (WC T (TS T n s.2) (TE T n s.2 - TS T n s.2).toNat) := WC_LR (fun x hx => TE_let hR2 hk1 x (by omega))
      have hcz := cmpZ_in (WC T (TS T n s.2) (TE T n s.2 - TS T n s.2).toNat) x
      have hww := WC_wrd hR2 hw hk1
      rw [← hx] at hww
      refine V_aload_0 (pc := 15) dX6_is_15 ?_
      refine V_getj (pc := 16) dX6_is_16 gf_X6_111 (by omega) (v := WC T (TS T n s.2) (TE T n s.2 - TS T n s.2).toNat) ((hR.2.2.2.1 (by omega)).1.2.2.2.1 (by omega)) ?_
      refine V_lload_1 (pc := 19) dX6_is_19 ?_
      refine V_lcmp (pc := 20) dX6_is_20 hwl hxl ?_
      refine V_if_ne (pc := 21) 28 dX6_is_21 (by decide) (by omega) (fun c_21 => ?_) (fun c_21 => ?_)
      · refine V_iconst (pc := 28) dX6_is_28 ?_
        refine V_iretZ (pc := 29) dX6_is_29 rfl (by first | omega | exact bI_01 _) ?_
        exact ⟨_, rfl, by first | exact (bI_t ⟨by omega, hww.mp (by omega)⟩).symm | exact (bI_f (fun q => absurd (hww.mpr q.2) (by omega))).symm | exact (bI_f (fun q => absurd q.2.1 (by omega))).symm | exact (bI_f (fun q => absurd q.1 (by omega))).symm, rfl⟩
      · refine V_iconst (pc := 24) dX6_is_24 ?_
        refine V_goto (pc := 25) 29 dX6_is_25 (by decide) ?_
        refine V_iretZ (pc := 29) dX6_is_29 rfl (by first | omega | exact bI_01 _) ?_
        exact ⟨_, rfl, by first | exact (bI_t ⟨by omega, hww.mp (by omega)⟩).symm | exact (bI_f (fun q => absurd (hww.mpr q.2) (by omega))).symm | exact (bI_f (fun q => absurd q.2.1 (by omega))).symm | exact (bI_f (fun q => absurd q.1 (by omega))).symm, rfl⟩

set_option maxRecDepth 20000 in
set_option maxHeartbeats 1000000 in
theorem c_X6_takesWord {d : Nat} (hd : 2 ≤ d) {σ : MM} {T : Int → Int} {n : Int} {s : Int × Int} {x : Int} {w : Nat} (hT : TPE σ T n) (hn : 0 ≤ n ∧ n ≤ 700) (hTr : ∀ x : Int, 0 ≤ x ∧ x < n → -128 ≤ T x ∧ T x ≤ 127) (hR : RSM σ T n s) (hw : w < 15) (hx : x = COD w) (hxl : LR x) : V yX6_takesWord cX6_takesWord 3 (some .boolean) d (QI (fun v σ' => v = bI (s.1 = 0 ∧ WRD T n s.2 w) ∧ RSM σ' T n (TKW T n w s) ∧ OffG σ σ')) 0 [some (vR 34 0), some (vL x), none] [] σ := by
  have hR1 := hR.2.1
  have hR2 := hR.2.2.1
  have hS := TS_in (T := T) hR2
  have hE := TE_in (T := T) hR2
  refine V_aload_0 (pc := 0) dX6_takesWord_0 ?_
  refine V_lload_1 (pc := 1) dX6_takesWord_1 ?_
  refine V_callV1p (pc := 2) dX6_takesWord_2 kv_X6_132 rc_34 (by omega) (d - 1) (by omega) rfl (c_X6_is (by omega) hR hw hx hxl) ?_
  refine V_if_ne_b (pc := 5) 10 dX6_takesWord_5 (by decide) (fun c_5 => ?_) (fun c_5 => ?_)
  · refine V_aload_0 (pc := 10) dX6_takesWord_10 ?_
    refine V_callV0z (pc := 11) dX6_takesWord_11 kv_X6_136 rc_34 (by omega) (d - 1) (by omega) rfl (c_X6_next (by omega) hT hn hTr (i := TE T n s.2) (by omega) (hR.2.2.2.1 c_5.1).1.1) (fun σ_11 h_11 => ?_)
    refine V_iconst (pc := 14) dX6_takesWord_14 ?_
    refine V_iretZ (pc := 15) dX6_takesWord_15 rfl (by first | omega | exact bI_01 _) ?_
    exact ⟨_, rfl, (bI_t (by assumption)).symm, by unfold TKW; rw [if_pos (by assumption)]; exact RSM.nx (by omega) (by rw [hR.1]; exact c_5.1) (hR.2.2.2.1 c_5.1).2 h_11, h_11.2.g⟩
  · refine V_iconst (pc := 8) dX6_takesWord_8 ?_
    refine V_iretZ (pc := 9) dX6_takesWord_9 rfl (by first | omega | exact bI_01 _) ?_
    exact ⟨_, rfl, (bI_f (by assumption)).symm, by unfold TKW; rw [if_neg (by assumption)]; exact hR, OffG.rf⟩
