/-! THE REFERENCE's slots -/
def MZ (σ : MM) (Z : Nat → Int → Int → Int) : Prop := ∀ k : Int, 0 ≤ k ∧ k < 4 → (Z 0 k 0 = 0 ∧ σ 35 0 k = -1) ∨ (Z 0 k 0 = 1 ∧ (σ 35 0 k = Z 1 k 0 ∧ 0 ≤ Z 1 k 0 ∧ Z 1 k 0 ≤ 3) ∧ (σ 36 0 k = Z 2 k 0 ∧ 0 ≤ Z 2 k 0 ∧ Z 2 k 0 ≤ 60) ∧ ∀ i : Int, 0 ≤ i ∧ i < Z 2 k 0 → σ 37 0 (60 * k + i) = Z 3 k i ∧ LR (Z 3 k i))
theorem MZ.cong {σ σ' : MM} {Z : Nat → Int → Int → Int} (h : MZ σ Z) (h35 : σ' 35 = σ 35) (h36 : σ' 36 = σ 36) (h37 : σ' 37 = σ 37) : MZ σ' Z := by
  unfold MZ at h ⊢
  rw [h35, h36, h37]
  exact h
theorem KM.mz {σ σ' : MM} {Z : Nat → Int → Int → Int} (h : KM σ σ') (hZ : MZ σ Z) : MZ σ' Z := hZ.cong (h.tag (by omega)) (h.tag (by omega)) (h.tag (by omega))
def MW (Z : Nat → Int → Int → Int) (k : Int) : Int := if Z 0 k 0 = 0 then -1 else Z 1 k 0
theorem MZ.w {σ : MM} {Z : Nat → Int → Int → Int} (h : MZ σ Z) {k : Int} (hk : 0 ≤ k ∧ k < 4) : σ 35 0 k = MW Z k ∧ ((Z 0 k 0 = 0 ∧ MW Z k = -1) ∨ (Z 0 k 0 = 1 ∧ 0 ≤ MW Z k ∧ MW Z k ≤ 3)) := by
  unfold MW
  rcases h k hk with a | a
  · rw [if_pos a.1]; exact ⟨a.2, Or.inl ⟨a.1, rfl⟩⟩
  · rw [if_neg (by omega)]; exact ⟨a.2.1.1, Or.inr ⟨a.1, a.2.1.2⟩⟩
theorem MZ.c {σ : MM} {Z : Nat → Int → Int → Int} (h : MZ σ Z) {k : Int} (hk : 0 ≤ k ∧ k < 4) (h1 : Z 0 k 0 = 1) : (σ 36 0 k = Z 2 k 0 ∧ 0 ≤ Z 2 k 0 ∧ Z 2 k 0 ≤ 60) ∧ ∀ i : Int, 0 ≤ i ∧ i < Z 2 k 0 → σ 37 0 (60 * k + i) = Z 3 k i ∧ LR (Z 3 k i) := by
  rcases h k hk with a | a
  · omega
  · exact a.2.2
/-- the telling anew, framed closer -/
abbrev SCL (t : Nat) (z : Int) : Prop := (t = 34 ∧ 23 ≤ z ∧ z ≤ 30) ∨ (47 ≤ t ∧ t ≤ 49)
def KL (σ σ' : MM) : Prop := ∀ (t : Nat) (k z : Int), ¬ SCL t z → σ' t k z = σ t k z
theorem KL.rf {σ : MM} : KL σ σ := fun _ _ _ _ => rfl
theorem KL.tr {σ σ1 σ2 : MM} (h : KL σ σ1) (h2 : KL σ1 σ2) : KL σ σ2 := fun t k z a => (h2 t k z a).trans (h t k z a)
theorem KL.set {σ : MM} {t : Nat} {k z v : Int} (h : SCL t z) : KL σ (setI σ t k z v) := fun t' k' z' a => by
  have : ¬ (t' = t ∧ k' = k ∧ z' = z) := fun q => a (by rw [q.1, q.2.2]; exact h)
  simp only [setI, this, if_false]
theorem KL.km {σ σ' : MM} (h : KL σ σ') : KM σ σ' := fun t k z a => h t k z (fun q => a (by unfold SCM; omega))
theorem KL.mb {σ σ' : MM} {s : Int} {B : BK} (h : KL σ σ') (hM : MB σ s B) : MB σ' s B := h.km.mb hM

set_option maxRecDepth 20000 in
set_option maxHeartbeats 1000000 in
theorem c_lays2 {d : Nat} (hd : 1 ≤ d) {σ : MM} {B : BK} (hM : MB σ 0 B) (hW : WB B) : V yX6_lays cX6_lays 2 none d (QZ (fun σ' => LD σ' B B 0 ∧ KL σ σ')) 0 [some (vR 34 0), none] [] σ := by
  have hs := hW.s
  have loop2 : ∀ i : Nat, i ≤ (B 5 0).toNat → ∀ σi, (((σi 34 0 23 = B 2 0 ∧ σi 34 0 24 = 0 ∧ σi 34 0 25 = 0 ∧ σi 34 0 26 = -1 ∧ σi 34 0 28 = 0 ∧ σi 34 0 29 = -1) ∧ KL σ σi) ∧ (∀ e : Int, 0 ≤ e ∧ e < B 6 0 → σi 47 0 e = B 13 e ∧ σi 48 0 e = B 12 e) ∧ (∀ p : Int, 0 ≤ p ∧ p < (i : Int) → σi 49 0 p = B 10 p)) → V yX6_lays cX6_lays 2 none d (QZ (fun σ' => LD σ' B B 0 ∧ KL σ σ')) 85 [some (vR 34 0), some (vI (i : Int))] [] σi := by
    refine up_ind (P := fun i : Nat => ∀ σi, (((σi 34 0 23 = B 2 0 ∧ σi 34 0 24 = 0 ∧ σi 34 0 25 = 0 ∧ σi 34 0 26 = -1 ∧ σi 34 0 28 = 0 ∧ σi 34 0 29 = -1) ∧ KL σ σi) ∧ (∀ e : Int, 0 ≤ e ∧ e < B 6 0 → σi 47 0 e = B 13 e ∧ σi 48 0 e = B 12 e) ∧ (∀ p : Int, 0 ≤ p ∧ p < (i : Int) → σi 49 0 p = B 10 p)) → V yX6_lays cX6_lays 2 none d (QZ (fun σ' => LD σ' B B 0 ∧ KL σ σ')) 85 [some (vR 34 0), some (vI (i : Int))] [] σi) ?_ ?_
    · intro σi hI
      have hMi := hI.1.2.mb hM
      refine V_iload_1 (pc := 85) dX6_lays_85 ?_
      refine V_aload_0 (pc := 86) dX6_lays_86 ?_
      refine V_getc (pc := 87) dX6_lays_87 gf_X6_34 (by omega) ?_
      refine V_iconst (pc := 90) dX6_lays_90 ?_
      refine V_iald (pc := 91) dX6_lays_91 sh_41 (by omega) (by omega) hMi.h4 ?_
      refine V_icmp_ge (pc := 92) 113 dX6_lays_92 (by decide) (by omega) (by omega) (fun c_92 => ?_) (fun c_92 => ?_)
      · refine V_vret (pc := 113) dX6_lays_113 rfl ?_
        obtain ⟨⟨⟨a1, a2, a3, a4, a5, a6⟩, k9⟩, b1, b2⟩ := hI
        exact ⟨rfl, LD_lay hW a1 a2 a3 a4 a5 a6 b1 (fun p hp => b2 p (by omega)), k9⟩
      · exact absurd c_92 (by omega)
    · intro i hi ih σi hI
      have hMi := hI.1.2.mb hM
      refine V_iload_1 (pc := 85) dX6_lays_85 ?_
      refine V_aload_0 (pc := 86) dX6_lays_86 ?_
      refine V_getc (pc := 87) dX6_lays_87 gf_X6_34 (by omega) ?_
      refine V_iconst (pc := 90) dX6_lays_90 ?_
      refine V_iald (pc := 91) dX6_lays_91 sh_41 (by omega) (by omega) hMi.h4 ?_
      refine V_icmp_ge (pc := 92) 113 dX6_lays_92 (by decide) (by omega) (by omega) (fun c_92 => ?_) (fun c_92 => ?_)
      · exact absurd c_92 (by omega)
      · refine V_aload_0 (pc := 95) dX6_lays_95 ?_
        refine V_getc (pc := 96) dX6_lays_96 gf_X6_59 (by omega) ?_
        refine V_iload_1 (pc := 99) dX6_lays_99 ?_
        refine V_aload_0 (pc := 100) dX6_lays_100 ?_
        refine V_getc (pc := 101) dX6_lays_101 gf_X6_40 (by omega) ?_
        refine V_iload_1 (pc := 104) dX6_lays_104 ?_
        refine V_iald (pc := 105) dX6_lays_105 sh_43 (by omega) (by omega) (hMi.p0 (by omega)) ?_
        refine V_iast (pc := 106) dX6_lays_106 sh_49 (by omega) (by omega) ?_
        refine V_iinc_1 (pc := 107) dX6_lays_107 ?_
        refine V_goto (pc := 110) 85 dX6_lays_110 (by decide) ?_
        refine V.sub (by simp only [subL, Option.some.injEq, Sum.inl.injEq, reduceCtorEq, true_or, or_true, false_or, true_and, and_true]; omega) (ih _ ⟨⟨by simp [setI_at]; exact hI.1.1, hI.1.2.tr (KL.set (by unfold SCL; omega))⟩, fun e he => by simp [setI_at]; exact hI.2.1 e he, fun p hp => ?_⟩)
        by_cases q : p = i
        · subst q; simp [setI_at]
        · have := hI.2.2 p (by omega)
          simp [setI_at, q]; exact this
  have loop1 : ∀ i : Nat, i ≤ (B 6 0).toNat → ∀ σi, (((σi 34 0 23 = B 2 0 ∧ σi 34 0 24 = 0 ∧ σi 34 0 25 = 0 ∧ σi 34 0 26 = -1 ∧ σi 34 0 28 = 0 ∧ σi 34 0 29 = -1) ∧ KL σ σi) ∧ (∀ e : Int, 0 ≤ e ∧ e < (i : Int) → σi 47 0 e = B 13 e ∧ σi 48 0 e = B 12 e)) → V yX6_lays cX6_lays 2 none d (QZ (fun σ' => LD σ' B B 0 ∧ KL σ σ')) 37 [some (vR 34 0), some (vI (i : Int))] [] σi := by
    refine up_ind (P := fun i : Nat => ∀ σi, (((σi 34 0 23 = B 2 0 ∧ σi 34 0 24 = 0 ∧ σi 34 0 25 = 0 ∧ σi 34 0 26 = -1 ∧ σi 34 0 28 = 0 ∧ σi 34 0 29 = -1) ∧ KL σ σi) ∧ (∀ e : Int, 0 ≤ e ∧ e < (i : Int) → σi 47 0 e = B 13 e ∧ σi 48 0 e = B 12 e)) → V yX6_lays cX6_lays 2 none d (QZ (fun σ' => LD σ' B B 0 ∧ KL σ σ')) 37 [some (vR 34 0), some (vI (i : Int))] [] σi) ?_ ?_
    · intro σi hI
      have hMi := hI.1.2.mb hM
      refine V_iload_1 (pc := 37) dX6_lays_37 ?_
      refine V_aload_0 (pc := 38) dX6_lays_38 ?_
      refine V_callV0p (pc := 39) dX6_lays_39 kv_X6_236 rc_34 (by omega) (d - 1) (by omega) rfl (c_X6_entries (by omega) hMi hW) ?_
      refine V_icmp_ge (pc := 42) 83 dX6_lays_42 (by decide) (by omega) (by omega) (fun c_42 => ?_) (fun c_42 => ?_)
      · refine V_iconst (pc := 83) dX6_lays_83 ?_
        refine V_istore_1 (pc := 84) dX6_lays_84 ?_
        exact loop2 0 (by omega) σi ⟨hI.1, fun e he => hI.2 e (by omega), fun p hp => by omega⟩
      · exact absurd c_42 (by omega)
    · intro i hi ih σi hI
      have hMi := hI.1.2.mb hM
      refine V_iload_1 (pc := 37) dX6_lays_37 ?_
      refine V_aload_0 (pc := 38) dX6_lays_38 ?_
      refine V_callV0p (pc := 39) dX6_lays_39 kv_X6_236 rc_34 (by omega) (d - 1) (by omega) rfl (c_X6_entries (by omega) hMi hW) ?_
      refine V_icmp_ge (pc := 42) 83 dX6_lays_42 (by decide) (by omega) (by omega) (fun c_42 => ?_) (fun c_42 => ?_)
      · exact absurd c_42 (by omega)
      · refine V_aload_0 (pc := 45) dX6_lays_45 ?_
        refine V_getc (pc := 46) dX6_lays_46 gf_X6_53 (by omega) ?_
        refine V_iload_1 (pc := 49) dX6_lays_49 ?_
        refine V_aload_0 (pc := 50) dX6_lays_50 ?_
        refine V_getc (pc := 51) dX6_lays_51 gf_X6_43 (by omega) ?_
        refine V_iconst (pc := 54) dX6_lays_54 ?_
        refine V_iload_1 (pc := 55) dX6_lays_55 ?_
        refine V_imul (pc := 56) dX6_lays_56 ?_
        refine V_iconst (pc := 57) dX6_lays_57 ?_
        refine V_iadd (pc := 58) dX6_lays_58 ?_
        refine V_iald (pc := 59) dX6_lays_59 sh_44 (by omega) (by omega) (hMi.t2 (by omega)) ?_
        refine V_iast (pc := 60) dX6_lays_60 sh_47 (by omega) (by omega) ?_
        refine V_aload_0 (pc := 61) dX6_lays_61 ?_
        refine V_getc (pc := 62) dX6_lays_62 gf_X6_56 (by omega) ?_
        refine V_iload_1 (pc := 65) dX6_lays_65 ?_
        refine V_aload_0 (pc := 66) dX6_lays_66 ?_
        refine V_getc (pc := 67) dX6_lays_67 gf_X6_43 (by omega) ?_
        refine V_iconst (pc := 70) dX6_lays_70 ?_
        refine V_iload_1 (pc := 71) dX6_lays_71 ?_
        refine V_imul (pc := 72) dX6_lays_72 ?_
        refine V_iconst (pc := 73) dX6_lays_73 ?_
        refine V_iadd (pc := 74) dX6_lays_74 ?_
        refine V_iald (pc := 75) dX6_lays_75 sh_44 (by omega) (by omega) (v := B 12 i) (by simp [setI_at]; exact hMi.t1 (by omega)) ?_
        refine V_iast (pc := 76) dX6_lays_76 sh_48 (by omega) (by omega) ?_
        refine V_iinc_1 (pc := 77) dX6_lays_77 ?_
        refine V_goto (pc := 80) 37 dX6_lays_80 (by decide) ?_
        refine V.sub (by simp only [subL, Option.some.injEq, Sum.inl.injEq, reduceCtorEq, true_or, or_true, false_or, true_and, and_true]; omega) (ih _ ⟨⟨by simp [setI_at]; exact hI.1.1, hI.1.2.tr ((KL.set (by unfold SCL; omega)).tr (KL.set (by unfold SCL; omega)))⟩, fun e he => ?_⟩)
        by_cases q : e = i
        · subst q; simp [setI_at]
        · have := hI.2 e (by omega)
          simp [setI_at, q]; exact this
  refine V_aload_0 (pc := 0) dX6_lays_0 ?_
  refine V_aload_0 (pc := 1) dX6_lays_1 ?_
  refine V_getc (pc := 2) dX6_lays_2 gf_X6_34 (by omega) ?_
  refine V_iconst (pc := 5) dX6_lays_5 ?_
  refine V_iald (pc := 6) dX6_lays_6 sh_41 (by omega) (by omega) hM.h1 ?_
  refine V_puti (pc := 7) dX6_lays_7 gf_X6_252 (by omega) ?_
  refine V_aload_0 (pc := 10) dX6_lays_10 ?_
  refine V_iconst (pc := 11) dX6_lays_11 ?_
  refine V_puti (pc := 12) dX6_lays_12 gf_X6_255 (by omega) ?_
  refine V_aload_0 (pc := 15) dX6_lays_15 ?_
  refine V_iconst (pc := 16) dX6_lays_16 ?_
  refine V_puti (pc := 17) dX6_lays_17 gf_X6_258 (by omega) ?_
  refine V_aload_0 (pc := 20) dX6_lays_20 ?_
  refine V_iconst (pc := 21) dX6_lays_21 ?_
  refine V_puti (pc := 22) dX6_lays_22 gf_X6_261 (by omega) ?_
  refine V_aload_0 (pc := 25) dX6_lays_25 ?_
  refine V_iconst (pc := 26) dX6_lays_26 ?_
  refine V_puti (pc := 27) dX6_lays_27 gf_X6_264 (by omega) ?_
  refine V_aload_0 (pc := 30) dX6_lays_30 ?_
  refine V_iconst (pc := 31) dX6_lays_31 ?_
  refine V_puti (pc := 32) dX6_lays_32 gf_X6_267 (by omega) ?_
  refine V_iconst (pc := 35) dX6_lays_35 ?_
  refine V_istore_1 (pc := 36) dX6_lays_36 ?_
  exact loop1 0 (by omega) _ ⟨⟨by simp [setI_at], (KL.set (by unfold SCL; omega)).tr ((KL.set (by unfold SCL; omega)).tr ((KL.set (by unfold SCL; omega)).tr ((KL.set (by unfold SCL; omega)).tr ((KL.set (by unfold SCL; omega)).tr (KL.set (by unfold SCL; omega))))))⟩, fun e he => by omega⟩

set_option maxRecDepth 20000 in
set_option maxHeartbeats 1000000 in
theorem c_X6_whyNot {d : Nat} (hd : 2 ≤ d) {σ : MM} {B : BK} {Z : Nat → Int → Int → Int} {k t : Int} (hM : MB σ 0 B) (hW : WB B) (hZ : MZ σ Z) (hk : IR k) (ht : t = 0 ∨ t = 1) : V yX6_whyNot cX6_whyNot 5 (some .int) d (QI (fun v σ' => v = (if t = 0 then -2 else RFS B Z k) ∧ σ' = σ)) 0 [some (vR 34 0), some (vI k), some (vI t), none, none] [] σ := by
  have hs := hW.s
  have loop : ((0 ≤ k ∧ k < 4) ∧ B 0 0 ≠ 0 ∧ t ≠ 0 ∧ Z 0 k 0 = 1 ∧ Z 2 k 0 % 3 = 0) → ∀ i : Nat, i ≤ (Z 2 k 0 / 3).toNat → (∀ x : Int, 0 ≤ x ∧ x < (i : Int) → ¬ BAD B (Z 3 k) x) → V yX6_whyNot cX6_whyNot 5 (some .int) d (QI (fun v σ' => v = (if t = 0 then -2 else RFS B Z k) ∧ σ' = σ)) 50 [some (vR 34 0), some (vI k), some (vI t), some (vI (3 * (i : Int))), none] [] σ := by
    intro hR
    obtain ⟨hk4, hb0, ht0, h1, h3⟩ := hR
    obtain ⟨⟨h36, hn⟩, h37⟩ := hZ.c hk4 h1
    refine up_ind (P := fun i : Nat => (∀ x : Int, 0 ≤ x ∧ x < (i : Int) → ¬ BAD B (Z 3 k) x) → V yX6_whyNot cX6_whyNot 5 (some .int) d (QI (fun v σ' => v = (if t = 0 then -2 else RFS B Z k) ∧ σ' = σ)) 50 [some (vR 34 0), some (vI k), some (vI t), some (vI (3 * (i : Int))), none] [] σ) ?_ ?_
    · intro hI
      refine V_iload_3 (pc := 50) dX6_whyNot_50 ?_
      refine V_aload_0 (pc := 51) dX6_whyNot_51 ?_
      refine V_getc (pc := 52) dX6_whyNot_52 gf_X6_13 (by omega) ?_
      refine V_iload_1 (pc := 55) dX6_whyNot_55 ?_
      refine V_iald (pc := 56) dX6_whyNot_56 sh_36 (by omega) (by omega) h36 ?_
      refine V_icmp_ge (pc := 57) 126 dX6_whyNot_57 (by decide) (by omega) (by omega) (fun c_57 => ?_) (fun c_57 => ?_)
      · refine V_iconst (pc := 126) dX6_whyNot_126 ?_
        refine V_iretI (pc := 127) dX6_whyNot_127 rfl ?_
        exact ⟨_, rfl, by unfold RFS; rw [if_neg ht0, if_neg (by omega), if_neg (by omega), if_pos ⟨h3, fst_no _ _ (fun x hx => hI x (by omega))⟩], rfl⟩
      · exact absurd c_57 (by omega)
    · intro i hi ih hI
      have l0 := (h37 (3 * (i : Int)) (by omega)).2
      have l1 := (h37 (3 * (i : Int) + 1) (by omega)).2
      have l2 := (h37 (3 * (i : Int) + 2) (by omega)).2
      refine V_iload_3 (pc := 50) dX6_whyNot_50 ?_
      refine V_aload_0 (pc := 51) dX6_whyNot_51 ?_
      refine V_getc (pc := 52) dX6_whyNot_52 gf_X6_13 (by omega) ?_
      refine V_iload_1 (pc := 55) dX6_whyNot_55 ?_
      refine V_iald (pc := 56) dX6_whyNot_56 sh_36 (by omega) (by omega) h36 ?_
      refine V_icmp_ge (pc := 57) 126 dX6_whyNot_57 (by decide) (by omega) (by omega) (fun c_57 => ?_) (fun c_57 => ?_)
      · exact absurd c_57 (by omega)
      · refine V_bipush (pc := 60) dX6_whyNot_60 (by decide) ?_
        refine V_iload_1 (pc := 62) dX6_whyNot_62 ?_
        refine V_imul (pc := 63) dX6_whyNot_63 ?_
        refine V_iload_3 (pc := 64) dX6_whyNot_64 ?_
        refine V_iadd (pc := 65) dX6_whyNot_65 ?_
        refine V_istore_4 (pc := 66) dX6_whyNot_66 ?_
        refine V_aload_0 (pc := 68) dX6_whyNot_68 ?_
        refine V_aload_0 (pc := 69) dX6_whyNot_69 ?_
        refine V_getc (pc := 70) dX6_whyNot_70 gf_X6_16 (by omega) ?_
        refine V_iload_4 (pc := 73) dX6_whyNot_73 ?_
        refine V_jald (pc := 75) dX6_whyNot_75 sh_37 (by omega) (by omega) (v := Z 3 k (3 * (i : Int))) (h37 (3 * (i : Int)) (by omega)).1 ?_
        refine V_callV1p (pc := 76) dX6_whyNot_76 kv_X6_246 rc_34 (by omega) (d - 1) (by omega) rfl (c_X6_isEntry (by omega) hM hW l0) ?_
        refine V_if_eq_b (pc := 79) 117 dX6_whyNot_79 (by decide) (fun c_79 => ?_) (fun c_79 => ?_)
        · refine V_bipush (pc := 117) dX6_whyNot_117 (by decide) ?_
          refine V_iretI (pc := 119) dX6_whyNot_119 rfl ?_
          exact ⟨_, rfl, by unfold RFS; rw [if_neg ht0, if_neg (by omega), if_neg (by omega), if_neg (fun q : SND B Z k => by have := SND_t q (t := (i : Int)) (by omega); omega)], rfl⟩
        · refine V_aload_0 (pc := 82) dX6_whyNot_82 ?_
          refine V_aload_0 (pc := 83) dX6_whyNot_83 ?_
          refine V_getc (pc := 84) dX6_whyNot_84 gf_X6_16 (by omega) ?_
          refine V_iload_4 (pc := 87) dX6_whyNot_87 ?_
          refine V_iconst (pc := 89) dX6_whyNot_89 ?_
          refine V_iadd (pc := 90) dX6_whyNot_90 ?_
          refine V_jald (pc := 91) dX6_whyNot_91 sh_37 (by omega) (by omega) (v := Z 3 k (3 * (i : Int) + 1)) (by rw [show 60 * k + 3 * (i : Int) + 1 = 60 * k + (3 * (i : Int) + 1) by omega]; exact (h37 _ (by omega)).1) ?_
          refine V_callV1p (pc := 92) dX6_whyNot_92 kv_X6_249 rc_34 (by omega) (d - 1) (by omega) rfl (c_X6_isYear (by omega) hM hW l1) ?_
          refine V_if_eq_b (pc := 95) 117 dX6_whyNot_95 (by decide) (fun c_95 => ?_) (fun c_95 => ?_)
          · refine V_bipush (pc := 117) dX6_whyNot_117 (by decide) ?_
            refine V_iretI (pc := 119) dX6_whyNot_119 rfl ?_
            exact ⟨_, rfl, by unfold RFS; rw [if_neg ht0, if_neg (by omega), if_neg (by omega), if_neg (fun q : SND B Z k => by have := SND_t q (t := (i : Int)) (by omega); omega)], rfl⟩
          · refine V_aload_0 (pc := 98) dX6_whyNot_98 ?_
            refine V_getc (pc := 99) dX6_whyNot_99 gf_X6_16 (by omega) ?_
            refine V_iload_4 (pc := 102) dX6_whyNot_102 ?_
            refine V_iconst (pc := 104) dX6_whyNot_104 ?_
            refine V_iadd (pc := 105) dX6_whyNot_105 ?_
            refine V_jald (pc := 106) dX6_whyNot_106 sh_37 (by omega) (by omega) (v := Z 3 k (3 * (i : Int) + 2)) (by rw [show 60 * k + 3 * (i : Int) + 2 = 60 * k + (3 * (i : Int) + 2) by omega]; exact (h37 _ (by omega)).1) ?_
            refine V_lconst (pc := 107) dX6_whyNot_107 (z := 0) rfl ?_
            refine V_ldc2 (pc := 108) dX6_whyNot_108 (z := 60) ldc_X6_366 ?_
            refine V_callS3p (pc := 111) dX6_whyNot_111 kv_X6_79 (d - 1) (by omega) rfl (c_X6_in (by omega) l2 (by omega) (by omega)) ?_
            refine V_if_ne_b (pc := 114) 120 dX6_whyNot_114 (by decide) (fun c_114 => ?_) (fun c_114 => ?_)
            · refine V_iinc_3 (pc := 120) dX6_whyNot_120 ?_
              refine V_goto (pc := 123) 50 dX6_whyNot_123 (by decide) ?_
              refine V.sub (by simp only [subL, Option.some.injEq, Sum.inl.injEq, reduceCtorEq, true_or, or_true, false_or, true_and, and_true]; omega) (ih (nx_step hI (fun q => q (by omega)) (by omega)))
            · refine V_bipush (pc := 117) dX6_whyNot_117 (by decide) ?_
              refine V_iretI (pc := 119) dX6_whyNot_119 rfl ?_
              exact ⟨_, rfl, by unfold RFS; rw [if_neg ht0, if_neg (by omega), if_neg (by omega), if_neg (fun q : SND B Z k => by have := SND_t q (t := (i : Int)) (by omega); omega)], rfl⟩
  refine V_iload_1 (pc := 0) dX6_whyNot_0 ?_
  refine V_callS1p (pc := 1) dX6_whyNot_1 kv_X6_83 (d - 1) (by omega) rfl (c_X6_isSlot (by omega) (by omega)) ?_
  refine V_if_eq_b (pc := 4) 18 dX6_whyNot_4 (by decide) (fun c_4 => ?_) (fun c_4 => ?_)
  · refine V_bipush (pc := 18) dX6_whyNot_18 (by decide) ?_
    refine V_iretI (pc := 20) dX6_whyNot_20 rfl ?_
    exact ⟨_, rfl, by unfold RFS; (repeat' split) <;> first | rfl | omega, rfl⟩
  · refine V_aload_0 (pc := 7) dX6_whyNot_7 ?_
    refine V_callV0p (pc := 8) dX6_whyNot_8 kv_X6_240 rc_34 (by omega) (d - 1) (by omega) rfl (c_X6_isBook (by omega) hM hW) ?_
    refine V_if_eq_b (pc := 11) 18 dX6_whyNot_11 (by decide) (fun c_11 => ?_) (fun c_11 => ?_)
    · refine V_bipush (pc := 18) dX6_whyNot_18 (by decide) ?_
      refine V_iretI (pc := 20) dX6_whyNot_20 rfl ?_
      exact ⟨_, rfl, by unfold RFS; (repeat' split) <;> first | rfl | omega, rfl⟩
    · refine V_iload_2 (pc := 14) dX6_whyNot_14 ?_
      refine V_if_ne (pc := 15) 21 dX6_whyNot_15 (by decide) (by omega) (fun c_15 => ?_) (fun c_15 => ?_)
      · have hZ9 := hZ.w (k := k) (by omega)
        refine V_aload_0 (pc := 21) dX6_whyNot_21 ?_
        refine V_getc (pc := 22) dX6_whyNot_22 gf_X6_7 (by omega) ?_
        refine V_iload_1 (pc := 25) dX6_whyNot_25 ?_
        refine V_iald (pc := 26) dX6_whyNot_26 sh_35 (by omega) (by omega) hZ9.1 ?_
        refine V_iconst (pc := 27) dX6_whyNot_27 ?_
        refine V_icmp_ne (pc := 28) 34 dX6_whyNot_28 (by decide) (by omega) (by omega) (fun c_28 => ?_) (fun c_28 => ?_)
        · have h19 : Z 0 k 0 = 1 := by omega
          obtain ⟨⟨h36, hn⟩, h37⟩ := hZ.c (k := k) (by omega) h19
          refine V_aload_0 (pc := 34) dX6_whyNot_34 ?_
          refine V_getc (pc := 35) dX6_whyNot_35 gf_X6_13 (by omega) ?_
          refine V_iload_1 (pc := 38) dX6_whyNot_38 ?_
          refine V_iald (pc := 39) dX6_whyNot_39 sh_36 (by omega) (by omega) h36 ?_
          refine V_iconst (pc := 40) dX6_whyNot_40 ?_
          refine V_irem_p (pc := 41) dX6_whyNot_41 (by omega) (by omega) ?_
          refine V_if_eq (pc := 42) 48 dX6_whyNot_42 (by decide) (by omega) (fun c_42 => ?_) (fun c_42 => ?_)
          · refine V_iconst (pc := 48) dX6_whyNot_48 ?_
            refine V_istore_3 (pc := 49) dX6_whyNot_49 ?_
            exact loop ⟨by omega, by omega, by omega, h19, by omega⟩ 0 (by omega) (fun x hx => by omega)
          · refine V_bipush (pc := 45) dX6_whyNot_45 (by decide) ?_
            refine V_iretI (pc := 47) dX6_whyNot_47 rfl ?_
            exact ⟨_, rfl, by unfold RFS; rw [if_neg (by omega), if_neg (by omega), if_neg (by omega), if_neg (fun q : SND B Z k => absurd q.1 (by omega))], rfl⟩
        · refine V_bipush (pc := 31) dX6_whyNot_31 (by decide) ?_
          refine V_iretI (pc := 33) dX6_whyNot_33 rfl ?_
          exact ⟨_, rfl, by unfold RFS; rw [if_neg (by omega), if_neg (by omega), if_pos (by omega)], rfl⟩
      · refine V_bipush (pc := 18) dX6_whyNot_18 (by decide) ?_
        refine V_iretI (pc := 20) dX6_whyNot_20 rfl ?_
        exact ⟨_, rfl, by unfold RFS; (repeat' split) <;> first | rfl | omega, rfl⟩

def RW9 (B : BK) (Z : Nat → Int → Int → Int) (s e : Int) : Int := if bI (0 ≤ e ∧ e < B 6 0) = 0 then -2 else RFS B Z s
theorem RW9_in (B : BK) (Z : Nat → Int → Int → Int) (s e : Int) : ((e < 0 ∨ B 6 0 ≤ e) ∧ RW9 B Z s e = -2) ∨ ((0 ≤ e ∧ e < B 6 0) ∧ RW9 B Z s e = RFS B Z s) := by
  unfold RW9
  by_cases h : 0 ≤ e ∧ e < B 6 0
  · rw [if_neg (by rw [bI_t h]; decide)]; exact Or.inr ⟨h, rfl⟩
  · rw [if_pos (bI_f h)]; exact Or.inl ⟨by omega, rfl⟩
theorem RQ_no {B : BK} {Z : Nat → Int → Int → Int} {s e x : Int} (h : ¬ RW9 B Z s e = 0) : RW9 B Z s e = RQ B Z s e x := by
  unfold RQ
  rcases RW9_in B Z s e with a | a
  · rw [if_pos a.1]; exact a.2
  · rw [if_neg (by omega), if_pos (by omega)]; exact a.2
theorem RQ_ok {B : BK} {Z : Nat → Int → Int → Int} {s e x : Int} (h : RW9 B Z s e = 0) : RQ B Z s e x = x := by
  unfold RQ
  rcases RW9_in B Z s e with a | a
  · omega
  · rw [if_neg (by omega), if_neg (by omega)]
theorem c_whyE {d : Nat} (hd : 2 ≤ d) {σ : MM} {B : BK} {Z : Nat → Int → Int → Int} {s e : Int} (hM : MB σ 0 B) (hW : WB B) (hZ : MZ σ Z) (hs : IR s) : V yX6_whyNot cX6_whyNot 5 (some .int) d (QI (fun v σ' => v = RW9 B Z s e ∧ σ' = σ)) 0 [some (vR 34 0), some (vI s), some (vI (bI (0 ≤ e ∧ e < B 6 0))), none, none] [] σ := c_X6_whyNot hd hM hW hZ hs (bI_01 _)
theorem c_whyL {d : Nat} (hd : 2 ≤ d) {σ : MM} {B : BK} {Z : Nat → Int → Int → Int} {s : Int} (hM : MB σ 0 B) (hW : WB B) (hZ : MZ σ Z) (hs : IR s) : V yX6_whyNot cX6_whyNot 5 (some .int) d (QI (fun v σ' => v = RFS B Z s ∧ σ' = σ)) 0 [some (vR 34 0), some (vI s), some (vI 1), none, none] [] σ := c_X6_whyNot hd hM hW hZ hs (Or.inr rfl)
theorem c_sizeOfI {d : Nat} (hd : 0 ≤ d) {σ : MM} {x : Int} (hx : 0 ≤ x ∧ x < 16777216) : V yX6_sizeOf cX6_sizeOf 3 (some .int) d (QI (fun v σ' => v = POP x ∧ σ' = σ)) 0 [some (vI x), none, none] [] σ := by
  obtain ⟨n, rfl⟩ := Int.eq_ofNat_of_zero_le hx.1
  rw [POP_PC]
  exact c_X6_sizeOf hd (by omega)

set_option maxRecDepth 20000 in
set_option maxHeartbeats 1000000 in
theorem c_X6_isSo {d : Nat} (hd : 1 ≤ d) {σ : MM} {B : BK} {E : BK} {wv : Int} {Z : Nat → Int → Int → Int} {k : Int} (hM : MB σ 0 B) (hW : WB B) (hL : LD σ B E wv) (hS : SHM σ B E wv) (hZ : MZ σ Z) (hk : 0 ≤ k ∧ k < 4) (h1 : Z 0 k 0 = 1) (hSN : SND B Z k) : V yX6_isSo cX6_isSo 4 (some .boolean) d (QI (fun v σ' => v = bI (FIT E (bt wv) Z k) ∧ σ' = σ)) 0 [some (vR 34 0), some (vI k), none, none] [] σ := by
  have hs := hW.s
  have hs6 := hL.s6
  have h3 := hSN.1
  obtain ⟨⟨h36, hn⟩, h37⟩ := hZ.c hk h1
  have loop : ∀ i : Nat, i ≤ (Z 2 k 0 / 3).toNat → (∀ x : Int, 0 ≤ x ∧ x < (i : Int) → ¬ (SHD E (bt wv) (Z 3 k (3 * x + 1)) (Z 3 k (3 * x)) ≠ Z 3 k (3 * x + 2))) → V yX6_isSo cX6_isSo 4 (some .boolean) d (QI (fun v σ' => v = bI (FIT E (bt wv) Z k) ∧ σ' = σ)) 2 [some (vR 34 0), some (vI k), some (vI (3 * (i : Int))), none] [] σ := by
    refine up_ind (P := fun i : Nat => (∀ x : Int, 0 ≤ x ∧ x < (i : Int) → ¬ (SHD E (bt wv) (Z 3 k (3 * x + 1)) (Z 3 k (3 * x)) ≠ Z 3 k (3 * x + 2))) → V yX6_isSo cX6_isSo 4 (some .boolean) d (QI (fun v σ' => v = bI (FIT E (bt wv) Z k) ∧ σ' = σ)) 2 [some (vR 34 0), some (vI k), some (vI (3 * (i : Int))), none] [] σ) ?_ ?_
    · intro hI
      refine V_iload_2 (pc := 2) dX6_isSo_2 ?_
      refine V_aload_0 (pc := 3) dX6_isSo_3 ?_
      refine V_getc (pc := 4) dX6_isSo_4 gf_X6_13 (by omega) ?_
      refine V_iload_1 (pc := 7) dX6_isSo_7 ?_
      refine V_iald (pc := 8) dX6_isSo_8 sh_36 (by omega) (by omega) h36 ?_
      refine V_icmp_ge (pc := 9) 60 dX6_isSo_9 (by decide) (by omega) (by omega) (fun c_9 => ?_) (fun c_9 => ?_)
      · refine V_iconst (pc := 60) dX6_isSo_60 ?_
        refine V_iretZ (pc := 61) dX6_isSo_61 rfl (by omega) ?_
        exact ⟨_, rfl, (bI_t (fst_no _ _ (fun x hx => hI x (by omega)))).symm, rfl⟩
      · exact absurd c_9 (by omega)
    · intro i hi ih hI
      have hst := SND_t hSN (t := (i : Int)) (by omega)
      have hsh := SHD_in (r := wv) (y := Z 3 k (3 * (i : Int) + 1)) hL.w (e := Z 3 k (3 * (i : Int))) (by omega)
      have hcz := cmpZ_in (SHD E (bt wv) (Z 3 k (3 * (i : Int) + 1)) (Z 3 k (3 * (i : Int)))) (Z 3 k (3 * (i : Int) + 2))
      refine V_iload_2 (pc := 2) dX6_isSo_2 ?_
      refine V_aload_0 (pc := 3) dX6_isSo_3 ?_
      refine V_getc (pc := 4) dX6_isSo_4 gf_X6_13 (by omega) ?_
      refine V_iload_1 (pc := 7) dX6_isSo_7 ?_
      refine V_iald (pc := 8) dX6_isSo_8 sh_36 (by omega) (by omega) h36 ?_
      refine V_icmp_ge (pc := 9) 60 dX6_isSo_9 (by decide) (by omega) (by omega) (fun c_9 => ?_) (fun c_9 => ?_)
      · exact absurd c_9 (by omega)
      · refine V_bipush (pc := 12) dX6_isSo_12 (by decide) ?_
        refine V_iload_1 (pc := 14) dX6_isSo_14 ?_
        refine V_imul (pc := 15) dX6_isSo_15 ?_
        refine V_iload_2 (pc := 16) dX6_isSo_16 ?_
        refine V_iadd (pc := 17) dX6_isSo_17 ?_
        refine V_istore_3 (pc := 18) dX6_isSo_18 ?_
        refine V_aload_0 (pc := 19) dX6_isSo_19 ?_
        refine V_aload_0 (pc := 20) dX6_isSo_20 ?_
        refine V_getc (pc := 21) dX6_isSo_21 gf_X6_16 (by omega) ?_
        refine V_iload_3 (pc := 24) dX6_isSo_24 ?_
        refine V_jald (pc := 25) dX6_isSo_25 sh_37 (by omega) (by omega) (v := Z 3 k (3 * (i : Int))) (h37 (3 * (i : Int)) (by omega)).1 ?_
        refine V_l2i (pc := 26) dX6_isSo_26 ?_
        refine V_aload_0 (pc := 27) dX6_isSo_27 ?_
        refine V_getc (pc := 28) dX6_isSo_28 gf_X6_16 (by omega) ?_
        refine V_iload_3 (pc := 31) dX6_isSo_31 ?_
        refine V_iconst (pc := 32) dX6_isSo_32 ?_
        refine V_iadd (pc := 33) dX6_isSo_33 ?_
        refine V_jald (pc := 34) dX6_isSo_34 sh_37 (by omega) (by omega) (v := Z 3 k (3 * (i : Int) + 1)) (by rw [show 60 * k + 3 * (i : Int) + 1 = 60 * k + (3 * (i : Int) + 1) by omega]; exact (h37 _ (by omega)).1) ?_
        refine V_l2i (pc := 35) dX6_isSo_35 ?_
        refine V_callV2p (pc := 36) dX6_isSo_36 kv_X6_283 rc_34 (by omega) (d - 1) (by omega) rfl (c_X6_shadeOf (by omega) (by omega) (by omega) (hS.s (by omega) (by omega))) ?_
        refine V_i2l (pc := 39) dX6_isSo_39 (by omega) ?_
        refine V_aload_0 (pc := 40) dX6_isSo_40 ?_
        refine V_getc (pc := 41) dX6_isSo_41 gf_X6_16 (by omega) ?_
        refine V_iload_3 (pc := 44) dX6_isSo_44 ?_
        refine V_iconst (pc := 45) dX6_isSo_45 ?_
        refine V_iadd (pc := 46) dX6_isSo_46 ?_
        refine V_jald (pc := 47) dX6_isSo_47 sh_37 (by omega) (by omega) (v := Z 3 k (3 * (i : Int) + 2)) (by rw [show 60 * k + 3 * (i : Int) + 2 = 60 * k + (3 * (i : Int) + 2) by omega]; exact (h37 _ (by omega)).1) ?_
        refine V_lcmp (pc := 48) dX6_isSo_48 (by omega) (by omega) ?_
        refine V_if_eq (pc := 49) 54 dX6_isSo_49 (by decide) (by omega) (fun c_49 => ?_) (fun c_49 => ?_)
        · refine V_iinc_2 (pc := 54) dX6_isSo_54 ?_
          refine V_goto (pc := 57) 2 dX6_isSo_57 (by decide) ?_
          refine V.sub (by simp only [subL, Option.some.injEq, Sum.inl.injEq, reduceCtorEq, true_or, or_true, false_or, true_and, and_true]; omega) (ih (nx_step hI (by omega) (by omega)))
        · refine V_iconst (pc := 52) dX6_isSo_52 ?_
          refine V_iretZ (pc := 53) dX6_isSo_53 rfl (by omega) ?_
          exact ⟨_, rfl, (bI_f (fun q => fst_m1.mp q (i : Int) (by omega) (show SHD E (bt wv) (Z 3 k (3 * (i : Int) + 1)) (Z 3 k (3 * (i : Int))) ≠ Z 3 k (3 * (i : Int) + 2) by omega))).symm, rfl⟩
  refine V_iconst (pc := 0) dX6_isSo_0 ?_
  refine V_istore_2 (pc := 1) dX6_isSo_1 ?_
  exact loop 0 (by omega) (fun x hx => by omega)

theorem rcases_k {B : BK} {Z : Nat → Int → Int → Int} {s e W x : Int} (h : ((e < 0 ∨ B 6 0 ≤ e) ∧ W = -2) ∨ ((0 ≤ e ∧ e < B 6 0) ∧ W = RFS B Z s)) (h0 : ¬ W = 0) : W = if e < 0 ∨ B 6 0 ≤ e then -2 else if RFS B Z s ≠ 0 then RFS B Z s else x := by
  rcases h with a | a
  · rw [if_pos a.1]; exact a.2
  · rw [if_neg (by omega), if_pos (by omega)]; exact a.2

set_option maxRecDepth 20000 in
set_option maxHeartbeats 1000000 in
theorem c_X6_kinds {d : Nat} (hd : 4 ≤ d) {σ : MM} {B : BK} {Z : Nat → Int → Int → Int} {s e : Int} (hM : MB σ 0 B) (hG : GB B) (hZ : MZ σ Z) (hs : IR s) (he : IR e) : V yX6_kinds cX6_kinds 6 (some .int) d (QI (fun v σ' => v = q_kinds B Z s e ∧ KM σ σ')) 0 [some (vR 34 0), some (vI s), some (vI e), none, none, none] [] σ := by
  have hW := hG.w
  have hs := hW.s
  have hM0 := hM
  have loop : ((0 ≤ e ∧ e < B 6 0) ∧ RFS B Z s = 0) → ∀ i : Nat, i ≤ (B 4 0).toNat → ∀ σi : MM, (KM σ σi) → V yX6_kinds cX6_kinds 6 (some .int) d (QI (fun v σ' => v = q_kinds B Z s e ∧ KM σ σ')) 29 [some (vR 34 0), some (vI s), some (vI e), none, some (vI (bsN (fun i => bI (FIT (sB B 12 e i) (bt 0) Z s)) i)), some (vI (i : Int))] [] σi := by
    intro hR
    refine up_ind (P := fun i : Nat => ∀ σi : MM, (KM σ σi) → V yX6_kinds cX6_kinds 6 (some .int) d (QI (fun v σ' => v = q_kinds B Z s e ∧ KM σ σ')) 29 [some (vR 34 0), some (vI s), some (vI e), none, some (vI (bsN (fun i => bI (FIT (sB B 12 e i) (bt 0) Z s)) i)), some (vI (i : Int))] [] σi) ?_ ?_
    · intro σi hI
      have hK := hI
      have hM := hK.mb hM0
      refine V_iload_5 (pc := 29) dX6_kinds_29 ?_
      refine V_aload_0 (pc := 31) dX6_kinds_31 ?_
      refine V_getc (pc := 32) dX6_kinds_32 gf_X6_34 (by omega) ?_
      refine V_iconst (pc := 35) dX6_kinds_35 ?_
      refine V_iald (pc := 36) dX6_kinds_36 sh_41 (by omega) (by omega) hM.h3 ?_
      refine V_icmp_ge (pc := 37) 83 dX6_kinds_37 (by decide) (by omega) (by omega) (fun c_37 => ?_) (fun c_37 => ?_)
      · refine V_iload_4 (pc := 83) dX6_kinds_83 ?_
        refine V_iretI (pc := 85) dX6_kinds_85 rfl ?_
        exact ⟨_, rfl, by unfold q_kinds; rw [if_neg (by omega), if_neg (by omega)], hK⟩
      · exact absurd c_37 (by omega)
    · intro i hi ih σi hI
      have hK := hI
      have hM := hK.mb hM0
      have hR0 := RFS_0 hR.2
      have hk4 := hR0.1
      have h1 : Z 0 s 0 = 1 := by have := hZ.w (k := s) hk4; omega
      have hSN := hR0.2.2.2
      have hb := bsI_in (fun i => FIT (sB B 12 e i) (bt 0) Z s) i
      have hS_ := bsN_S (fun i => bI (FIT (sB B 12 e i) (bt 0) Z s)) i
      refine V_iload_5 (pc := 29) dX6_kinds_29 ?_
      refine V_aload_0 (pc := 31) dX6_kinds_31 ?_
      refine V_getc (pc := 32) dX6_kinds_32 gf_X6_34 (by omega) ?_
      refine V_iconst (pc := 35) dX6_kinds_35 ?_
      refine V_iald (pc := 36) dX6_kinds_36 sh_41 (by omega) (by omega) hM.h3 ?_
      refine V_icmp_ge (pc := 37) 83 dX6_kinds_37 (by decide) (by omega) (by omega) (fun c_37 => ?_) (fun c_37 => ?_)
      · exact absurd c_37 (by omega)
      · refine V_aload_0 (pc := 40) dX6_kinds_40 ?_
        refine V_callV0z (pc := 41) dX6_kinds_41 kv_X6_315 rc_34 (by omega) (d - 1) (by omega) rfl (c_X6_lays (by omega) hM hW) (fun σ_41 h_41 => ?_)
        obtain ⟨hL, hKl⟩ := h_41
        have hK := hK.tr hKl
        have hM := hK.mb hM0
        refine V_aload_0 (pc := 44) dX6_kinds_44 ?_
        refine V_getc (pc := 45) dX6_kinds_45 gf_X6_56 (by omega) ?_
        refine V_iload_2 (pc := 48) dX6_kinds_48 ?_
        refine V_iload_5 (pc := 49) dX6_kinds_49 ?_
        refine V_iast (pc := 51) dX6_kinds_51 sh_48 (by omega) (by omega) ?_
        refine V_aload_0 (pc := 52) dX6_kinds_52 ?_
        have hL := hL.p_ink (e := e) (v := (i : Int)) (by omega)
        have hK := hK.tr (KM.set (t := 48) (k := 0) (z := e) (v := (i : Int)) (by unfold SCM; omega))
        have hM := hK.mb hM0
        refine V_callV0z (pc := 53) dX6_kinds_53 kv_X6_318 rc_34 (by omega) (d - 1) (by omega) rfl (c_X6_runs (by omega) hM hW hL) (fun σ_53 h_53 => ?_)
        obtain ⟨hS, hR_⟩ := h_53
        have hL := hR_.ld hL
        have hK := hK.tr hR_.km
        have hM := hK.mb hM0
        refine V_iload_4 (pc := 56) dX6_kinds_56 ?_
        refine V_aload_0 (pc := 58) dX6_kinds_58 ?_
        refine V_iload_1 (pc := 59) dX6_kinds_59 ?_
        refine V_callV1p (pc := 60) dX6_kinds_60 kv_X6_371 rc_34 (by omega) (d - 1) (by omega) rfl (c_X6_isSo (by omega) hM hW hL hS (hK.mz hZ) hk4 h1 hSN) ?_
        refine V_if_eq_b (pc := 63) 73 dX6_kinds_63 (by decide) (fun c_63 => ?_) (fun c_63 => ?_)
        · refine V_iconst (pc := 73) dX6_kinds_73 ?_
          first
            | refine V_ior_add (pc := 74) dX6_kinds_74 (by assumption) ?_
            | refine V_ior_0 (pc := 74) dX6_kinds_74 ?_
          refine V_istore_4 (pc := 75) dX6_kinds_75 ?_
          refine V_iinc_5 (pc := 77) dX6_kinds_77 ?_
          refine V_goto (pc := 80) 29 dX6_kinds_80 (by decide) ?_
          refine V.sub (by simp only [subL, Option.some.injEq, Sum.inl.injEq, Sum.inr.injEq, reduceCtorEq, true_or, or_true, false_or, true_and, and_true]; first | (rw [hS_, bI_t (by assumption)]; refine ⟨by omega, by omega⟩) | (rw [hS_, bI_f (by assumption)]; refine ⟨by omega, by omega⟩)) (ih _ hK)
        · refine V_iconst (pc := 66) dX6_kinds_66 ?_
          refine V_iload_5 (pc := 67) dX6_kinds_67 ?_
          refine V_ishl_1 (pc := 69) dX6_kinds_69 (by omega) ?_
          refine V_goto (pc := 70) 74 dX6_kinds_70 (by decide) ?_
          first
            | refine V_ior_add (pc := 74) dX6_kinds_74 (by assumption) ?_
            | refine V_ior_0 (pc := 74) dX6_kinds_74 ?_
          refine V_istore_4 (pc := 75) dX6_kinds_75 ?_
          refine V_iinc_5 (pc := 77) dX6_kinds_77 ?_
          refine V_goto (pc := 80) 29 dX6_kinds_80 (by decide) ?_
          refine V.sub (by simp only [subL, Option.some.injEq, Sum.inl.injEq, Sum.inr.injEq, reduceCtorEq, true_or, or_true, false_or, true_and, and_true]; first | (rw [hS_, bI_t (by assumption)]; refine ⟨by omega, by omega⟩) | (rw [hS_, bI_f (by assumption)]; refine ⟨by omega, by omega⟩)) (ih _ hK)
  refine V_aload_0 (pc := 0) dX6_kinds_0 ?_
  refine V_iconst (pc := 1) dX6_kinds_1 ?_
  refine V_puti (pc := 2) dX6_kinds_2 gf_X6_74 (by omega) ?_
  have hM := (KM.set (σ := σ) (t := 34) (k := 0) (z := 0) (v := 0) (by unfold SCM; omega)).mb hM
  refine V_aload_0 (pc := 5) dX6_kinds_5 ?_
  refine V_iload_1 (pc := 6) dX6_kinds_6 ?_
  refine V_aload_0 (pc := 7) dX6_kinds_7 ?_
  refine V_iload_2 (pc := 8) dX6_kinds_8 ?_
  refine V_i2l (pc := 9) dX6_kinds_9 (by omega) ?_
  refine V_callV1p (pc := 10) dX6_kinds_10 kv_X6_246 rc_34 (by omega) (d - 1) (by omega) rfl (c_X6_isEntry (by omega) hM hW (by omega)) ?_
  refine V_callV2p (pc := 13) dX6_kinds_13 kv_X6_383 rc_34 (by omega) (d - 1) (by omega) rfl (c_whyE (e := e) (by omega) hM hW (KM.mz (KM.set (σ := σ) (t := 34) (k := 0) (z := 0) (v := 0) (by unfold SCM; omega)) hZ) (by omega)) ?_
  obtain hW9 := RW9_in B Z s e
  have hW8 := RFS_in B Z s
  refine V_istore_3 (pc := 16) dX6_kinds_16 ?_
  refine V_iload_3 (pc := 17) dX6_kinds_17 ?_
  refine V_if_eq (pc := 18) 23 dX6_kinds_18 (by decide) (by omega) (fun c_18 => ?_) (fun c_18 => ?_)
  · refine V_iconst (pc := 23) dX6_kinds_23 ?_
    refine V_istore_4 (pc := 24) dX6_kinds_24 ?_
    refine V_iconst (pc := 26) dX6_kinds_26 ?_
    refine V_istore_5 (pc := 27) dX6_kinds_27 ?_
    refine V.sub (by simp only [subL, Option.some.injEq, Sum.inl.injEq, Sum.inr.injEq, reduceCtorEq, true_or, or_true, false_or, true_and, and_true]; exact ⟨rfl, rfl⟩) (loop (by omega) 0 (by omega) _ (KM.set (σ := σ) (t := 34) (k := 0) (z := 0) (v := 0) (by unfold SCM; omega)))
  · refine V_iload_3 (pc := 21) dX6_kinds_21 ?_
    refine V_iretI (pc := 22) dX6_kinds_22 rfl ?_
    exact ⟨_, rfl, by unfold q_kinds; exact (rcases_k hW9 (by omega)), (KM.set (σ := σ) (t := 34) (k := 0) (z := 0) (v := 0) (by unfold SCM; omega))⟩

set_option maxRecDepth 20000 in
set_option maxHeartbeats 1000000 in
theorem c_X6_laws {d : Nat} (hd : 5 ≤ d) {σ : MM} {B : BK} {Z : Nat → Int → Int → Int} {s : Int} (hM : MB σ 0 B) (hG : GB B) (hZ : MZ σ Z) (hs : IR s) : V yX6_laws cX6_laws 5 (some .int) d (QI (fun v σ' => v = q_laws B Z s ∧ KM σ σ')) 0 [some (vR 34 0), some (vI s), none, none, none] [] σ := by
  have hW := hG.w
  have hs := hW.s
  have hM0 := hM
  have loop : (RFS B Z s = 0) → ∀ i : Nat, i ≤ 4 → ∀ σi : MM, (KM σ σi) → V yX6_laws cX6_laws 5 (some .int) d (QI (fun v σ' => v = q_laws B Z s ∧ KM σ σ')) 23 [some (vR 34 0), some (vI s), none, some (vI (bsN (fun l => bI (FIT (sB B 2 0 l) (bt 0) Z s)) i)), some (vI (i : Int))] [] σi := by
    intro hR
    refine up_ind (P := fun i : Nat => ∀ σi : MM, (KM σ σi) → V yX6_laws cX6_laws 5 (some .int) d (QI (fun v σ' => v = q_laws B Z s ∧ KM σ σ')) 23 [some (vR 34 0), some (vI s), none, some (vI (bsN (fun l => bI (FIT (sB B 2 0 l) (bt 0) Z s)) i)), some (vI (i : Int))] [] σi) ?_ ?_
    · intro σi hI
      have hK := hI
      have hM := hK.mb hM0
      refine V_iload_4 (pc := 23) dX6_laws_23 ?_
      refine V_iconst (pc := 25) dX6_laws_25 ?_
      refine V_icmp_ge (pc := 26) 61 dX6_laws_26 (by decide) (by omega) (by omega) (fun c_26 => ?_) (fun c_26 => ?_)
      · refine V_iload_3 (pc := 61) dX6_laws_61 ?_
        refine V_iretI (pc := 62) dX6_laws_62 rfl ?_
        exact ⟨_, rfl, by unfold q_laws; rw [if_neg (by omega)], hK⟩
      · exact absurd c_26 (by omega)
    · intro i hi ih σi hI
      have hK := hI
      have hM := hK.mb hM0
      have hR0 := RFS_0 hR
      have hk4 := hR0.1
      have h1 : Z 0 s 0 = 1 := by have := hZ.w (k := s) hk4; omega
      have hSN := hR0.2.2.2
      have hb := bsI_in (fun l => FIT (sB B 2 0 l) (bt 0) Z s) i
      have hS_ := bsN_S (fun l => bI (FIT (sB B 2 0 l) (bt 0) Z s)) i
      refine V_iload_4 (pc := 23) dX6_laws_23 ?_
      refine V_iconst (pc := 25) dX6_laws_25 ?_
      refine V_icmp_ge (pc := 26) 61 dX6_laws_26 (by decide) (by omega) (by omega) (fun c_26 => ?_) (fun c_26 => ?_)
      · exact absurd c_26 (by omega)
      · refine V_aload_0 (pc := 29) dX6_laws_29 ?_
        refine V_iload_4 (pc := 30) dX6_laws_30 ?_
        refine V_callV1i (pc := 32) dX6_laws_32 kv_X6_390 rc_34 (by omega) (d - 1) (by omega) rfl (c_X6_allBy (by omega) hM hW (by omega)) (fun v_32 σ_32 h_32 => ?_)
        obtain ⟨e1, ⟨hM, hL, hS⟩, hK1⟩ := h_32
        have hK := hK.tr hK1
        refine V_pop (pc := 35) dX6_laws_35 rfl ?_
        refine V_iload_3 (pc := 36) dX6_laws_36 ?_
        refine V_aload_0 (pc := 37) dX6_laws_37 ?_
        refine V_iload_1 (pc := 38) dX6_laws_38 ?_
        refine V_callV1p (pc := 39) dX6_laws_39 kv_X6_371 rc_34 (by omega) (d - 1) (by omega) rfl (c_X6_isSo (by omega) hM hW hL hS (hK.mz hZ) hk4 h1 hSN) ?_
        refine V_if_eq_b (pc := 42) 52 dX6_laws_42 (by decide) (fun c_42 => ?_) (fun c_42 => ?_)
        · refine V_iconst (pc := 52) dX6_laws_52 ?_
          first
            | refine V_ior_add (pc := 53) dX6_laws_53 (by assumption) ?_
            | refine V_ior_0 (pc := 53) dX6_laws_53 ?_
          refine V_istore_3 (pc := 54) dX6_laws_54 ?_
          refine V_iinc_4 (pc := 55) dX6_laws_55 ?_
          refine V_goto (pc := 58) 23 dX6_laws_58 (by decide) ?_
          refine V.sub (by simp only [subL, Option.some.injEq, Sum.inl.injEq, Sum.inr.injEq, reduceCtorEq, true_or, or_true, false_or, true_and, and_true]; first | (rw [hS_, bI_t (by assumption)]; refine ⟨by omega, by omega⟩) | (rw [hS_, bI_f (by assumption)]; refine ⟨by omega, by omega⟩)) (ih _ hK)
        · refine V_iconst (pc := 45) dX6_laws_45 ?_
          refine V_iload_4 (pc := 46) dX6_laws_46 ?_
          refine V_ishl_1 (pc := 48) dX6_laws_48 (by omega) ?_
          refine V_goto (pc := 49) 53 dX6_laws_49 (by decide) ?_
          first
            | refine V_ior_add (pc := 53) dX6_laws_53 (by assumption) ?_
            | refine V_ior_0 (pc := 53) dX6_laws_53 ?_
          refine V_istore_3 (pc := 54) dX6_laws_54 ?_
          refine V_iinc_4 (pc := 55) dX6_laws_55 ?_
          refine V_goto (pc := 58) 23 dX6_laws_58 (by decide) ?_
          refine V.sub (by simp only [subL, Option.some.injEq, Sum.inl.injEq, Sum.inr.injEq, reduceCtorEq, true_or, or_true, false_or, true_and, and_true]; first | (rw [hS_, bI_t (by assumption)]; refine ⟨by omega, by omega⟩) | (rw [hS_, bI_f (by assumption)]; refine ⟨by omega, by omega⟩)) (ih _ hK)
  refine V_aload_0 (pc := 0) dX6_laws_0 ?_
  refine V_iconst (pc := 1) dX6_laws_1 ?_
  refine V_puti (pc := 2) dX6_laws_2 gf_X6_74 (by omega) ?_
  have hM := (KM.set (σ := σ) (t := 34) (k := 0) (z := 0) (v := 0) (by unfold SCM; omega)).mb hM
  refine V_aload_0 (pc := 5) dX6_laws_5 ?_
  refine V_iload_1 (pc := 6) dX6_laws_6 ?_
  refine V_iconst (pc := 7) dX6_laws_7 ?_
  refine V_callV2p (pc := 8) dX6_laws_8 kv_X6_383 rc_34 (by omega) (d - 1) (by omega) rfl (c_whyL (by omega) hM hW (KM.mz (KM.set (σ := σ) (t := 34) (k := 0) (z := 0) (v := 0) (by unfold SCM; omega)) hZ) (by omega)) ?_
  have hW8 := RFS_in B Z s
  refine V_istore_2 (pc := 11) dX6_laws_11 ?_
  refine V_iload_2 (pc := 12) dX6_laws_12 ?_
  refine V_if_eq (pc := 13) 18 dX6_laws_13 (by decide) (by omega) (fun c_13 => ?_) (fun c_13 => ?_)
  · refine V_iconst (pc := 18) dX6_laws_18 ?_
    refine V_istore_3 (pc := 19) dX6_laws_19 ?_
    refine V_iconst (pc := 20) dX6_laws_20 ?_
    refine V_istore_4 (pc := 21) dX6_laws_21 ?_
    refine V.sub (by simp only [subL, Option.some.injEq, Sum.inl.injEq, Sum.inr.injEq, reduceCtorEq, true_or, or_true, false_or, true_and, and_true]; exact ⟨rfl, rfl⟩) (loop (by omega) 0 (by omega) _ (KM.set (σ := σ) (t := 34) (k := 0) (z := 0) (v := 0) (by unfold SCM; omega)))
  · refine V_iload_2 (pc := 16) dX6_laws_16 ?_
    refine V_iretI (pc := 17) dX6_laws_17 rfl ?_
    exact ⟨_, rfl, by unfold q_laws; rw [if_pos (by omega)], (KM.set (σ := σ) (t := 34) (k := 0) (z := 0) (v := 0) (by unfold SCM; omega))⟩
