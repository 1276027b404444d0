theorem bw_and0 (x : Int) : iN x &&& iN 0 = iN 0 := Int32.and_zero
theorem fst_m1S {p : Int → Prop} [DecidablePred p] {n : Nat} : fst p (n + 1) 0 = -1 ↔ fst p n 0 = -1 ∧ ¬ p n := by
  rw [fst_m1, fst_m1]
  constructor
  · intro h; exact ⟨fun k hk => h k (by omega), h n (by omega)⟩
  · intro h k hk
    by_cases q : k = n
    · subst q; exact h.2
    · exact h.1 k (by omega)
theorem SHM.in_ {σ : MM} {B E : BK} {wv y e : Int} (hS : SHM σ B E wv) (hW : WB E) (hy : 0 ≤ y ∧ y ≤ B 1 0) (he : 0 ≤ e ∧ e < E 6 0) : 0 ≤ SHD E (bt wv) y e ∧ SHD E (bt wv) y e ≤ 60 := SHD_in hW he
theorem SHM.mono {σ σ' : MM} {B E : BK} {wv : Int} (h : SHM σ B E wv) (h50 : σ' 50 = σ 50) (h51 : σ' 51 = σ 51) : SHM σ' B E wv := by
  unfold SHM at h ⊢
  rw [h50, h51]
  exact h

set_option maxRecDepth 20000 in
set_option maxHeartbeats 1000000 in
theorem c_X6_laysNow {d : Nat} (hd : 4 ≤ d) {σ : MM} {B : BK} (hM : MB σ 0 B) (hW : WB B) : V yX6_laysNow cX6_laysNow 1 none d (QZ (fun σ' => LD σ' B B 0 ∧ SHM σ' B B 0 ∧ KM σ σ')) 0 [some (vR 34 0)] [] σ := by
  refine V_aload_0 (pc := 0) dX6_laysNow_0 ?_
  refine V_callV0z (pc := 1) dX6_laysNow_1 kv_X6_315 rc_34 (by omega) (d - 1) (by omega) rfl (c_X6_lays (by omega) hM hW) (fun σ_1 h_1 => ?_)
  refine V_aload_0 (pc := 4) dX6_laysNow_4 ?_
  refine V_callV0z (pc := 5) dX6_laysNow_5 kv_X6_318 rc_34 (by omega) (d - 1) (by omega) rfl (c_X6_runs (by omega) (h_1.2.mb hM) hW h_1.1) (fun σ_5 h_5 => ?_)
  refine V_vret (pc := 8) dX6_laysNow_8 rfl ?_
  exact ⟨rfl, h_5.2.ld h_1.1, h_5.1, h_1.2.tr h_5.2.km⟩

set_option maxRecDepth 20000 in
set_option maxHeartbeats 1000000 in
theorem c_X6_lastOf {d : Nat} (hd : 1 ≤ d) {σ : MM} {B E : BK} {wv : Int} {e : Int} (hM : MB σ 0 B) (hW : WB B) (hL : LD σ B E wv) (hS : SHM σ B E wv) (he : 0 ≤ e ∧ e < B 6 0) : V yX6_lastOf cX6_lastOf 2 (some .int) d (QI (fun v σ' => v = SHD E (bt wv) (B 1 0) e ∧ σ' = σ)) 0 [some (vR 34 0), some (vI e)] [] σ := by
  have hs := hW.s
  have hWE := hL.w
  have hEs := hWE.s
  have hs6 := hL.s6
  have hs1 := hL.s1
  refine V_aload_0 (pc := 0) dX6_lastOf_0 ?_
  refine V_iload_1 (pc := 1) dX6_lastOf_1 ?_
  refine V_aload_0 (pc := 2) dX6_lastOf_2 ?_
  refine V_callV0p (pc := 3) dX6_lastOf_3 kv_X6_243 rc_34 (by omega) (d - 1) (by omega) rfl (c_X6_years (by omega) hM hW) ?_
  refine V_callV2p (pc := 6) dX6_lastOf_6 kv_X6_283 rc_34 (by omega) (d - 1) (by omega) rfl (c_X6_shadeOf (by omega) (by omega) (by omega) (hS.s (by omega) (by omega))) ?_
  refine V_iretI (pc := 9) dX6_lastOf_9 rfl ?_
  exact ⟨_, rfl, by first | rfl | omega, rfl⟩

set_option maxRecDepth 20000 in
set_option maxHeartbeats 1000000 in
theorem c_X6_allAt {d : Nat} (hd : 1 ≤ d) {σ : MM} {B E : BK} {wv : Int} {y : Int} (hM : MB σ 0 B) (hW : WB B) (hL : LD σ B E wv) (hS : SHM σ B E wv) (hy : 0 ≤ y ∧ y ≤ B 1 0) : V yX6_allAt cX6_allAt 4 (some .int) d (QI (fun v σ' => v = sumN (fun e => SHD E (bt wv) y e) (B 6 0).toNat ∧ σ' = σ)) 0 [some (vR 34 0), some (vI y), none, none] [] σ := by
  have hs := hW.s
  have hWE := hL.w
  have hEs := hWE.s
  have hs6 := hL.s6
  have hs1 := hL.s1
  have loop : ∀ i : Nat, i ≤ (B 6 0).toNat → V yX6_allAt cX6_allAt 4 (some .int) d (QI (fun v σ' => v = sumN (fun e => SHD E (bt wv) y e) (B 6 0).toNat ∧ σ' = σ)) 4 [some (vR 34 0), some (vI (y)), some (vI (sumN (fun e => SHD E (bt wv) y e) i)), some (vI (i : Int))] [] σ := by
    refine up_ind (P := fun i : Nat => V yX6_allAt cX6_allAt 4 (some .int) d (QI (fun v σ' => v = sumN (fun e => SHD E (bt wv) y e) (B 6 0).toNat ∧ σ' = σ)) 4 [some (vR 34 0), some (vI (y)), some (vI (sumN (fun e => SHD E (bt wv) y e) i)), some (vI (i : Int))] [] σ) ?_ ?_
    · 
      refine V_iload_3 (pc := 4) dX6_allAt_4 ?_
      refine V_aload_0 (pc := 5) dX6_allAt_5 ?_
      refine V_callV0p (pc := 6) dX6_allAt_6 kv_X6_236 rc_34 (by omega) (d - 1) (by omega) rfl (c_X6_entries (by omega) hM hW) ?_
      refine V_icmp_ge (pc := 9) 27 dX6_allAt_9 (by decide) (by omega) (by omega) (fun c_9 => ?_) (fun c_9 => ?_)
      · refine V_iload_2 (pc := 27) dX6_allAt_27 ?_
        refine V_iretI (pc := 28) dX6_allAt_28 rfl ?_
        exact ⟨_, rfl, by first | rfl | omega, rfl⟩
      · exact absurd c_9 (by omega)
    · intro i hi ih
      have hS_ := sumN_S (fun e => SHD E (bt wv) y e) i
      refine V_iload_3 (pc := 4) dX6_allAt_4 ?_
      refine V_aload_0 (pc := 5) dX6_allAt_5 ?_
      refine V_callV0p (pc := 6) dX6_allAt_6 kv_X6_236 rc_34 (by omega) (d - 1) (by omega) rfl (c_X6_entries (by omega) hM hW) ?_
      refine V_icmp_ge (pc := 9) 27 dX6_allAt_9 (by decide) (by omega) (by omega) (fun c_9 => ?_) (fun c_9 => ?_)
      · exact absurd c_9 (by omega)
      · refine V_iload_2 (pc := 12) dX6_allAt_12 ?_
        refine V_aload_0 (pc := 13) dX6_allAt_13 ?_
        refine V_iload_3 (pc := 14) dX6_allAt_14 ?_
        refine V_iload_1 (pc := 15) dX6_allAt_15 ?_
        refine V_callV2p (pc := 16) dX6_allAt_16 kv_X6_283 rc_34 (by omega) (d - 1) (by omega) rfl (c_X6_shadeOf (by omega) (by omega) (by omega) (hS.s (by omega) (by omega))) ?_
        refine V_iadd (pc := 19) dX6_allAt_19 ?_
        refine V_istore_2 (pc := 20) dX6_allAt_20 ?_
        refine V_iinc_3 (pc := 21) dX6_allAt_21 ?_
        refine V_goto (pc := 24) 4 dX6_allAt_24 (by decide) ?_
        refine V.sub (by simp only [subL, Option.some.injEq, Sum.inl.injEq, Sum.inr.injEq, reduceCtorEq, true_or, or_true, false_or, true_and, and_true]; rw [hS_]; exact ⟨rfl, by omega⟩) ih
  refine V_iconst (pc := 0) dX6_allAt_0 ?_
  refine V_istore_2 (pc := 1) dX6_allAt_1 ?_
  refine V_iconst (pc := 2) dX6_allAt_2 ?_
  refine V_istore_3 (pc := 3) dX6_allAt_3 ?_
  exact loop 0 (by omega)

set_option maxRecDepth 20000 in
set_option maxHeartbeats 1000000 in
theorem c_X6_clearAt {d : Nat} (hd : 1 ≤ d) {σ : MM} {B E : BK} {wv : Int} {y : Int} (hM : MB σ 0 B) (hW : WB B) (hL : LD σ B E wv) (hS : SHM σ B E wv) (hy : 0 ≤ y ∧ y ≤ B 1 0) : V yX6_clearAt cX6_clearAt 4 (some .int) d (QI (fun v σ' => v = bsN (fun e => bI (5 ≤ SHD E (bt wv) y e)) (B 6 0).toNat ∧ σ' = σ)) 0 [some (vR 34 0), some (vI y), none, none] [] σ := by
  have hs := hW.s
  have hWE := hL.w
  have hEs := hWE.s
  have hs6 := hL.s6
  have hs1 := hL.s1
  have loop : ∀ i : Nat, i ≤ (B 6 0).toNat → V yX6_clearAt cX6_clearAt 4 (some .int) d (QI (fun v σ' => v = bsN (fun e => bI (5 ≤ SHD E (bt wv) y e)) (B 6 0).toNat ∧ σ' = σ)) 4 [some (vR 34 0), some (vI (y)), some (vI (bsN (fun e => bI (5 ≤ SHD E (bt wv) y e)) i)), some (vI (i : Int))] [] σ := by
    refine up_ind (P := fun i : Nat => V yX6_clearAt cX6_clearAt 4 (some .int) d (QI (fun v σ' => v = bsN (fun e => bI (5 ≤ SHD E (bt wv) y e)) (B 6 0).toNat ∧ σ' = σ)) 4 [some (vR 34 0), some (vI (y)), some (vI (bsN (fun e => bI (5 ≤ SHD E (bt wv) y e)) i)), some (vI (i : Int))] [] σ) ?_ ?_
    · 
      refine V_iload_3 (pc := 4) dX6_clearAt_4 ?_
      refine V_aload_0 (pc := 5) dX6_clearAt_5 ?_
      refine V_callV0p (pc := 6) dX6_clearAt_6 kv_X6_236 rc_34 (by omega) (d - 1) (by omega) rfl (c_X6_entries (by omega) hM hW) ?_
      refine V_icmp_ge (pc := 9) 38 dX6_clearAt_9 (by decide) (by omega) (by omega) (fun c_9 => ?_) (fun c_9 => ?_)
      · refine V_iload_2 (pc := 38) dX6_clearAt_38 ?_
        refine V_iretI (pc := 39) dX6_clearAt_39 rfl ?_
        exact ⟨_, rfl, by first | rfl | omega, rfl⟩
      · exact absurd c_9 (by omega)
    · intro i hi ih
      have h1 := SHD_in (r := wv) (y := y) hWE (e := (i : Int)) (by omega)
      have hb := bsI_in (fun e => 5 ≤ SHD E (bt wv) y e) i
      have hS_ := bsN_S (fun e => bI (5 ≤ SHD E (bt wv) y e)) i
      refine V_iload_3 (pc := 4) dX6_clearAt_4 ?_
      refine V_aload_0 (pc := 5) dX6_clearAt_5 ?_
      refine V_callV0p (pc := 6) dX6_clearAt_6 kv_X6_236 rc_34 (by omega) (d - 1) (by omega) rfl (c_X6_entries (by omega) hM hW) ?_
      refine V_icmp_ge (pc := 9) 38 dX6_clearAt_9 (by decide) (by omega) (by omega) (fun c_9 => ?_) (fun c_9 => ?_)
      · exact absurd c_9 (by omega)
      · refine V_iload_2 (pc := 12) dX6_clearAt_12 ?_
        refine V_aload_0 (pc := 13) dX6_clearAt_13 ?_
        refine V_iload_3 (pc := 14) dX6_clearAt_14 ?_
        refine V_iload_1 (pc := 15) dX6_clearAt_15 ?_
        refine V_callV2p (pc := 16) dX6_clearAt_16 kv_X6_283 rc_34 (by omega) (d - 1) (by omega) rfl (c_X6_shadeOf (by omega) (by omega) (by omega) (hS.s (by omega) (by omega))) ?_
        refine V_iconst (pc := 19) dX6_clearAt_19 ?_
        refine V_icmp_lt (pc := 20) 29 dX6_clearAt_20 (by decide) (by omega) (by omega) (fun c_20 => ?_) (fun c_20 => ?_)
        · refine V_iconst (pc := 29) dX6_clearAt_29 ?_
          first
            | refine V_ior_add (pc := 30) dX6_clearAt_30 (by assumption) ?_
            | refine V_ior_0 (pc := 30) dX6_clearAt_30 ?_
          refine V_istore_2 (pc := 31) dX6_clearAt_31 ?_
          refine V_iinc_3 (pc := 32) dX6_clearAt_32 ?_
          refine V_goto (pc := 35) 4 dX6_clearAt_35 (by decide) ?_
          refine V.sub (by simp only [subL, Option.some.injEq, Sum.inl.injEq, Sum.inr.injEq, reduceCtorEq, true_or, or_true, false_or, true_and, and_true]; first | (rw [hS_, bI_t (by omega)]; omega) | (rw [hS_, bI_f (by omega)]; omega)) ih
        · refine V_iconst (pc := 23) dX6_clearAt_23 ?_
          refine V_iload_3 (pc := 24) dX6_clearAt_24 ?_
          refine V_ishl_1 (pc := 25) dX6_clearAt_25 (by omega) ?_
          refine V_goto (pc := 26) 30 dX6_clearAt_26 (by decide) ?_
          first
            | refine V_ior_add (pc := 30) dX6_clearAt_30 (by assumption) ?_
            | refine V_ior_0 (pc := 30) dX6_clearAt_30 ?_
          refine V_istore_2 (pc := 31) dX6_clearAt_31 ?_
          refine V_iinc_3 (pc := 32) dX6_clearAt_32 ?_
          refine V_goto (pc := 35) 4 dX6_clearAt_35 (by decide) ?_
          refine V.sub (by simp only [subL, Option.some.injEq, Sum.inl.injEq, Sum.inr.injEq, reduceCtorEq, true_or, or_true, false_or, true_and, and_true]; first | (rw [hS_, bI_t (by omega)]; omega) | (rw [hS_, bI_f (by omega)]; omega)) ih
  refine V_iconst (pc := 0) dX6_clearAt_0 ?_
  refine V_istore_2 (pc := 1) dX6_clearAt_1 ?_
  refine V_iconst (pc := 2) dX6_clearAt_2 ?_
  refine V_istore_3 (pc := 3) dX6_clearAt_3 ?_
  exact loop 0 (by omega)

set_option maxRecDepth 20000 in
set_option maxHeartbeats 1000000 in
theorem c_X6_thereAt {d : Nat} (hd : 2 ≤ d) {σ : MM} {B E : BK} {wv : Int} {y : Int} (hM : MB σ 0 B) (hW : WB B) (hL : LD σ B E wv) (hy : 0 ≤ y ∧ y ≤ B 1 0) : V yX6_thereAt cX6_thereAt 4 (some .int) d (QI (fun v σ' => v = bsN (fun e => bI (E 13 e ≤ y)) (B 6 0).toNat ∧ σ' = σ)) 0 [some (vR 34 0), some (vI y), none, none] [] σ := by
  have hs := hW.s
  have hWE := hL.w
  have hEs := hWE.s
  have hs6 := hL.s6
  have hs1 := hL.s1
  have loop : ∀ i : Nat, i ≤ (B 6 0).toNat → V yX6_thereAt cX6_thereAt 4 (some .int) d (QI (fun v σ' => v = bsN (fun e => bI (E 13 e ≤ y)) (B 6 0).toNat ∧ σ' = σ)) 4 [some (vR 34 0), some (vI (y)), some (vI (bsN (fun e => bI (E 13 e ≤ y)) i)), some (vI (i : Int))] [] σ := by
    refine up_ind (P := fun i : Nat => V yX6_thereAt cX6_thereAt 4 (some .int) d (QI (fun v σ' => v = bsN (fun e => bI (E 13 e ≤ y)) (B 6 0).toNat ∧ σ' = σ)) 4 [some (vR 34 0), some (vI (y)), some (vI (bsN (fun e => bI (E 13 e ≤ y)) i)), some (vI (i : Int))] [] σ) ?_ ?_
    · 
      refine V_iload_3 (pc := 4) dX6_thereAt_4 ?_
      refine V_aload_0 (pc := 5) dX6_thereAt_5 ?_
      refine V_callV0p (pc := 6) dX6_thereAt_6 kv_X6_236 rc_34 (by omega) (d - 1) (by omega) rfl (c_X6_entries (by omega) hM hW) ?_
      refine V_icmp_ge (pc := 9) 37 dX6_thereAt_9 (by decide) (by omega) (by omega) (fun c_9 => ?_) (fun c_9 => ?_)
      · refine V_iload_2 (pc := 37) dX6_thereAt_37 ?_
        refine V_iretI (pc := 38) dX6_thereAt_38 rfl ?_
        exact ⟨_, rfl, by first | rfl | omega, rfl⟩
      · exact absurd c_9 (by omega)
    · intro i hi ih
      have hb := bsI_in (fun e => E 13 e ≤ y) i
      have hS_ := bsN_S (fun e => bI (E 13 e ≤ y)) i
      refine V_iload_3 (pc := 4) dX6_thereAt_4 ?_
      refine V_aload_0 (pc := 5) dX6_thereAt_5 ?_
      refine V_callV0p (pc := 6) dX6_thereAt_6 kv_X6_236 rc_34 (by omega) (d - 1) (by omega) rfl (c_X6_entries (by omega) hM hW) ?_
      refine V_icmp_ge (pc := 9) 37 dX6_thereAt_9 (by decide) (by omega) (by omega) (fun c_9 => ?_) (fun c_9 => ?_)
      · exact absurd c_9 (by omega)
      · refine V_iload_2 (pc := 12) dX6_thereAt_12 ?_
        refine V_aload_0 (pc := 13) dX6_thereAt_13 ?_
        refine V_iload_3 (pc := 14) dX6_thereAt_14 ?_
        refine V_iload_1 (pc := 15) dX6_thereAt_15 ?_
        refine V_callV2p (pc := 16) dX6_thereAt_16 kv_X6_293 rc_34 (by omega) (d - 1) (by omega) rfl (c_X6_isThere (by omega) hM hW hL (by omega) (by omega)) ?_
        refine V_if_eq_b (pc := 19) 28 dX6_thereAt_19 (by decide) (fun c_19 => ?_) (fun c_19 => ?_)
        · refine V_iconst (pc := 28) dX6_thereAt_28 ?_
          first
            | refine V_ior_add (pc := 29) dX6_thereAt_29 (by assumption) ?_
            | refine V_ior_0 (pc := 29) dX6_thereAt_29 ?_
          refine V_istore_2 (pc := 30) dX6_thereAt_30 ?_
          refine V_iinc_3 (pc := 31) dX6_thereAt_31 ?_
          refine V_goto (pc := 34) 4 dX6_thereAt_34 (by decide) ?_
          refine V.sub (by simp only [subL, Option.some.injEq, Sum.inl.injEq, Sum.inr.injEq, reduceCtorEq, true_or, or_true, false_or, true_and, and_true]; first | (rw [hS_, bI_t (by omega)]; omega) | (rw [hS_, bI_f (by omega)]; omega)) ih
        · refine V_iconst (pc := 22) dX6_thereAt_22 ?_
          refine V_iload_3 (pc := 23) dX6_thereAt_23 ?_
          refine V_ishl_1 (pc := 24) dX6_thereAt_24 (by omega) ?_
          refine V_goto (pc := 25) 29 dX6_thereAt_25 (by decide) ?_
          first
            | refine V_ior_add (pc := 29) dX6_thereAt_29 (by assumption) ?_
            | refine V_ior_0 (pc := 29) dX6_thereAt_29 ?_
          refine V_istore_2 (pc := 30) dX6_thereAt_30 ?_
          refine V_iinc_3 (pc := 31) dX6_thereAt_31 ?_
          refine V_goto (pc := 34) 4 dX6_thereAt_34 (by decide) ?_
          refine V.sub (by simp only [subL, Option.some.injEq, Sum.inl.injEq, Sum.inr.injEq, reduceCtorEq, true_or, or_true, false_or, true_and, and_true]; first | (rw [hS_, bI_t (by omega)]; omega) | (rw [hS_, bI_f (by omega)]; omega)) ih
  refine V_iconst (pc := 0) dX6_thereAt_0 ?_
  refine V_istore_2 (pc := 1) dX6_thereAt_1 ?_
  refine V_iconst (pc := 2) dX6_thereAt_2 ?_
  refine V_istore_3 (pc := 3) dX6_thereAt_3 ?_
  exact loop 0 (by omega)

set_option maxRecDepth 20000 in
set_option maxHeartbeats 1000000 in
theorem c_X6_ripeOf {d : Nat} (hd : 1 ≤ d) {σ : MM} {B E : BK} {wv : Int} {e : Int} (hM : MB σ 0 B) (hW : WB B) (hL : LD σ B E wv) (hS : SHM σ B E wv) (he : 0 ≤ e ∧ e < B 6 0) : V yX6_ripeOf cX6_ripeOf 4 (some .int) d (QI (fun v σ' => v = mxN (fun y => SHD E (bt wv) y e) (B 1 0).toNat ∧ σ' = σ)) 0 [some (vR 34 0), some (vI e), none, none] [] σ := by
  have hs := hW.s
  have hWE := hL.w
  have hEs := hWE.s
  have hs6 := hL.s6
  have hs1 := hL.s1
  have loop : ∀ i : Nat, i ≤ (B 1 0).toNat → V yX6_ripeOf cX6_ripeOf 4 (some .int) d (QI (fun v σ' => v = mxN (fun y => SHD E (bt wv) y e) (B 1 0).toNat ∧ σ' = σ)) 4 [some (vR 34 0), some (vI (e)), some (vI (mxN (fun y => SHD E (bt wv) y e) i)), some (vI ((i : Int) + 1))] [] σ := by
    refine up_ind (P := fun i : Nat => V yX6_ripeOf cX6_ripeOf 4 (some .int) d (QI (fun v σ' => v = mxN (fun y => SHD E (bt wv) y e) (B 1 0).toNat ∧ σ' = σ)) 4 [some (vR 34 0), some (vI (e)), some (vI (mxN (fun y => SHD E (bt wv) y e) i)), some (vI ((i : Int) + 1))] [] σ) ?_ ?_
    · 
      refine V_iload_3 (pc := 4) dX6_ripeOf_4 ?_
      refine V_aload_0 (pc := 5) dX6_ripeOf_5 ?_
      refine V_callV0p (pc := 6) dX6_ripeOf_6 kv_X6_243 rc_34 (by omega) (d - 1) (by omega) rfl (c_X6_years (by omega) hM hW) ?_
      refine V_icmp_gt (pc := 9) 35 dX6_ripeOf_9 (by decide) (by omega) (by omega) (fun c_9 => ?_) (fun c_9 => ?_)
      · refine V_iload_2 (pc := 35) dX6_ripeOf_35 ?_
        refine V_iretI (pc := 36) dX6_ripeOf_36 rfl ?_
        exact ⟨_, rfl, by first | rfl | omega, rfl⟩
      · exact absurd c_9 (by omega)
    · intro i hi ih
      have h0 := mxN_in (fun y => SHD E (bt wv) y e) i
      have h1 := SHD_in (r := wv) (y := (i : Int) + 1) hWE (e := e) (by omega)
      have h2 := SHD_in (r := wv) (y := mxN (fun y => SHD E (bt wv) y e) i) hWE (e := e) (by omega)
      have hS_ : mxN (fun y => SHD E (bt wv) y e) (i + 1) = if SHD E (bt wv) (mxN (fun y => SHD E (bt wv) y e) i) e < SHD E (bt wv) ((i : Int) + 1) e then (i : Int) + 1 else mxN (fun y => SHD E (bt wv) y e) i := rfl
      refine V_iload_3 (pc := 4) dX6_ripeOf_4 ?_
      refine V_aload_0 (pc := 5) dX6_ripeOf_5 ?_
      refine V_callV0p (pc := 6) dX6_ripeOf_6 kv_X6_243 rc_34 (by omega) (d - 1) (by omega) rfl (c_X6_years (by omega) hM hW) ?_
      refine V_icmp_gt (pc := 9) 35 dX6_ripeOf_9 (by decide) (by omega) (by omega) (fun c_9 => ?_) (fun c_9 => ?_)
      · exact absurd c_9 (by omega)
      · refine V_aload_0 (pc := 12) dX6_ripeOf_12 ?_
        refine V_iload_1 (pc := 13) dX6_ripeOf_13 ?_
        refine V_iload_3 (pc := 14) dX6_ripeOf_14 ?_
        refine V_callV2p (pc := 15) dX6_ripeOf_15 kv_X6_283 rc_34 (by omega) (d - 1) (by omega) rfl (c_X6_shadeOf (by omega) (by omega) (by omega) (hS.s (by omega) (by omega))) ?_
        refine V_aload_0 (pc := 18) dX6_ripeOf_18 ?_
        refine V_iload_1 (pc := 19) dX6_ripeOf_19 ?_
        refine V_iload_2 (pc := 20) dX6_ripeOf_20 ?_
        refine V_callV2p (pc := 21) dX6_ripeOf_21 kv_X6_283 rc_34 (by omega) (d - 1) (by omega) rfl (c_X6_shadeOf (by omega) (by omega) (by omega) (hS.s (by omega) (by omega))) ?_
        refine V_icmp_le (pc := 24) 29 dX6_ripeOf_24 (by decide) (by omega) (by omega) (fun c_24 => ?_) (fun c_24 => ?_)
        · refine V_iinc_3 (pc := 29) dX6_ripeOf_29 ?_
          refine V_goto (pc := 32) 4 dX6_ripeOf_32 (by decide) ?_
          refine V.sub (by simp only [subL, Option.some.injEq, Sum.inl.injEq, Sum.inr.injEq, reduceCtorEq, true_or, or_true, false_or, true_and, and_true]; first | (rw [hS_, if_pos (by omega)]; refine ⟨?_, by omega⟩; rfl) | (rw [hS_, if_neg (by omega)]; refine ⟨?_, by omega⟩; rfl)) ih
        · refine V_iload_3 (pc := 27) dX6_ripeOf_27 ?_
          refine V_istore_2 (pc := 28) dX6_ripeOf_28 ?_
          refine V_iinc_3 (pc := 29) dX6_ripeOf_29 ?_
          refine V_goto (pc := 32) 4 dX6_ripeOf_32 (by decide) ?_
          refine V.sub (by simp only [subL, Option.some.injEq, Sum.inl.injEq, Sum.inr.injEq, reduceCtorEq, true_or, or_true, false_or, true_and, and_true]; first | (rw [hS_, if_pos (by omega)]; refine ⟨?_, by omega⟩; rfl) | (rw [hS_, if_neg (by omega)]; refine ⟨?_, by omega⟩; rfl)) ih
  refine V_iconst (pc := 0) dX6_ripeOf_0 ?_
  refine V_istore_2 (pc := 1) dX6_ripeOf_1 ?_
  refine V_iconst (pc := 2) dX6_ripeOf_2 ?_
  refine V_istore_3 (pc := 3) dX6_ripeOf_3 ?_
  exact loop 0 (by omega)

set_option maxRecDepth 20000 in
set_option maxHeartbeats 1000000 in
theorem c_X6_oneBy {d : Nat} (hd : 2 ≤ d) {σ : MM} {B E : BK} {wv : Int} {y sg : Int} (hM : MB σ 0 B) (hW : WB B) (hL : LD σ B E wv) (hS : SHM σ B E wv) (hy : 0 ≤ y ∧ y ≤ B 1 0) (hg : sg = 1 ∨ sg = -1) : V yX6_oneBy cX6_oneBy 5 (some .int) d (QI (fun v σ' => v = bst (fun e => E 13 e ≤ y) (fun e => sg * SHD E (bt wv) y (e)) (B 6 0).toNat ∧ σ' = σ)) 0 [some (vR 34 0), some (vI y), some (vI sg), none, none] [] σ := by
  have hs := hW.s
  have hWE := hL.w
  have hEs := hWE.s
  have hs6 := hL.s6
  have hs1 := hL.s1
  have hsg : ∀ x : Int, 0 ≤ x ∧ x ≤ 99 → -99 ≤ sg * x ∧ sg * x ≤ 99 := by
    intro x hx
    rcases hg with q | q <;> rw [q] <;> omega
  have loop : ∀ i : Nat, i ≤ (B 6 0).toNat → V yX6_oneBy cX6_oneBy 5 (some .int) d (QI (fun v σ' => v = bst (fun e => E 13 e ≤ y) (fun e => sg * SHD E (bt wv) y (e)) (B 6 0).toNat ∧ σ' = σ)) 5 [some (vR 34 0), some (vI (y)), some (vI (sg)), some (vI (bst (fun e => E 13 e ≤ y) (fun e => sg * SHD E (bt wv) y (e)) i)), some (vI (i : Int))] [] σ := by
    refine up_ind (P := fun i : Nat => V yX6_oneBy cX6_oneBy 5 (some .int) d (QI (fun v σ' => v = bst (fun e => E 13 e ≤ y) (fun e => sg * SHD E (bt wv) y (e)) (B 6 0).toNat ∧ σ' = σ)) 5 [some (vR 34 0), some (vI (y)), some (vI (sg)), some (vI (bst (fun e => E 13 e ≤ y) (fun e => sg * SHD E (bt wv) y (e)) i)), some (vI (i : Int))] [] σ) ?_ ?_
    · 
      refine V_iload_4 (pc := 5) dX6_oneBy_5 ?_
      refine V_aload_0 (pc := 7) dX6_oneBy_7 ?_
      refine V_callV0p (pc := 8) dX6_oneBy_8 kv_X6_236 rc_34 (by omega) (d - 1) (by omega) rfl (c_X6_entries (by omega) hM hW) ?_
      refine V_icmp_ge (pc := 11) 58 dX6_oneBy_11 (by decide) (by omega) (by omega) (fun c_11 => ?_) (fun c_11 => ?_)
      · refine V_iload_3 (pc := 58) dX6_oneBy_58 ?_
        refine V_iretI (pc := 59) dX6_oneBy_59 rfl ?_
        exact ⟨_, rfl, by first | rfl | omega, rfl⟩
      · exact absurd c_11 (by omega)
    · intro i hi ih
      have hb := bst_in (p := fun e => E 13 e ≤ y) (g := (fun e => sg * SHD E (bt wv) y (e))) i
      have h1 := SHD_in (r := wv) (y := y) hWE (e := (i : Int)) (by omega)
      have h2 : bst (fun e => E 13 e ≤ y) (fun e => sg * SHD E (bt wv) y (e)) i ≠ -1 → _ := fun q => SHD_in (r := wv) (y := y) hWE (e := bst (fun e => E 13 e ≤ y) (fun e => sg * SHD E (bt wv) y (e)) i) (by omega)
      have m1 := hsg (SHD E (bt wv) y (i : Int)) (by omega)
      have m2 : bst (fun e => E 13 e ≤ y) (fun e => sg * SHD E (bt wv) y (e)) i ≠ -1 → _ := fun q => hsg (SHD E (bt wv) y (bst (fun e => E 13 e ≤ y) (fun e => sg * SHD E (bt wv) y (e)) i)) (by have := h2 q; omega)
      have hS_ : bst (fun e => E 13 e ≤ y) (fun e => sg * SHD E (bt wv) y (e)) (i + 1) = if E 13 i ≤ y ∧ (bst (fun e => E 13 e ≤ y) (fun e => sg * SHD E (bt wv) y (e)) i = -1 ∨ sg * SHD E (bt wv) y (bst (fun e => E 13 e ≤ y) (fun e => sg * SHD E (bt wv) y (e)) i) < sg * SHD E (bt wv) y (i : Int)) then (i : Int) else bst (fun e => E 13 e ≤ y) (fun e => sg * SHD E (bt wv) y (e)) i := rfl
      refine V_iload_4 (pc := 5) dX6_oneBy_5 ?_
      refine V_aload_0 (pc := 7) dX6_oneBy_7 ?_
      refine V_callV0p (pc := 8) dX6_oneBy_8 kv_X6_236 rc_34 (by omega) (d - 1) (by omega) rfl (c_X6_entries (by omega) hM hW) ?_
      refine V_icmp_ge (pc := 11) 58 dX6_oneBy_11 (by decide) (by omega) (by omega) (fun c_11 => ?_) (fun c_11 => ?_)
      · exact absurd c_11 (by omega)
      · refine V_aload_0 (pc := 14) dX6_oneBy_14 ?_
        refine V_iload_4 (pc := 15) dX6_oneBy_15 ?_
        refine V_iload_1 (pc := 17) dX6_oneBy_17 ?_
        refine V_callV2p (pc := 18) dX6_oneBy_18 kv_X6_293 rc_34 (by omega) (d - 1) (by omega) rfl (c_X6_isThere (by omega) hM hW hL (by omega) (by omega)) ?_
        refine V_if_eq_b (pc := 21) 52 dX6_oneBy_21 (by decide) (fun c_21 => ?_) (fun c_21 => ?_)
        · refine V_iinc_4 (pc := 52) dX6_oneBy_52 ?_
          refine V_goto (pc := 55) 5 dX6_oneBy_55 (by decide) ?_
          refine V.sub (by simp only [subL, Option.some.injEq, Sum.inl.injEq, Sum.inr.injEq, reduceCtorEq, true_or, or_true, false_or, true_and, and_true]; first | (rw [hS_, if_pos (by omega)]; refine ⟨?_, by omega⟩; rfl) | (rw [hS_, if_neg (by omega)]; refine ⟨?_, by omega⟩; rfl)) ih
        · refine V_iload_3 (pc := 24) dX6_oneBy_24 ?_
          refine V_iconst (pc := 25) dX6_oneBy_25 ?_
          refine V_icmp_eq (pc := 26) 49 dX6_oneBy_26 (by decide) (by omega) (by omega) (fun c_26 => ?_) (fun c_26 => ?_)
          · refine V_iload_4 (pc := 49) dX6_oneBy_49 ?_
            refine V_istore_3 (pc := 51) dX6_oneBy_51 ?_
            refine V_iinc_4 (pc := 52) dX6_oneBy_52 ?_
            refine V_goto (pc := 55) 5 dX6_oneBy_55 (by decide) ?_
            refine V.sub (by simp only [subL, Option.some.injEq, Sum.inl.injEq, Sum.inr.injEq, reduceCtorEq, true_or, or_true, false_or, true_and, and_true]; first | (rw [hS_, if_pos (by omega)]; refine ⟨?_, by omega⟩; rfl) | (rw [hS_, if_neg (by omega)]; refine ⟨?_, by omega⟩; rfl)) ih
          · refine V_iload_2 (pc := 29) dX6_oneBy_29 ?_
            refine V_aload_0 (pc := 30) dX6_oneBy_30 ?_
            refine V_iload_4 (pc := 31) dX6_oneBy_31 ?_
            refine V_iload_1 (pc := 33) dX6_oneBy_33 ?_
            refine V_callV2p (pc := 34) dX6_oneBy_34 kv_X6_283 rc_34 (by omega) (d - 1) (by omega) rfl (c_X6_shadeOf (by omega) (by omega) (by omega) (hS.s (by omega) (by omega))) ?_
            refine V_imul (pc := 37) dX6_oneBy_37 ?_
            refine V_iload_2 (pc := 38) dX6_oneBy_38 ?_
            refine V_aload_0 (pc := 39) dX6_oneBy_39 ?_
            refine V_iload_3 (pc := 40) dX6_oneBy_40 ?_
            refine V_iload_1 (pc := 41) dX6_oneBy_41 ?_
            refine V_callV2p (pc := 42) dX6_oneBy_42 kv_X6_283 rc_34 (by omega) (d - 1) (by omega) rfl (c_X6_shadeOf (by omega) (by omega) (by omega) (hS.s (by omega) (by omega))) ?_
            refine V_imul (pc := 45) dX6_oneBy_45 ?_
            refine V_icmp_le (pc := 46) 52 dX6_oneBy_46 (by decide) (by omega) (by omega) (fun c_46 => ?_) (fun c_46 => ?_)
            · refine V_iinc_4 (pc := 52) dX6_oneBy_52 ?_
              refine V_goto (pc := 55) 5 dX6_oneBy_55 (by decide) ?_
              refine V.sub (by simp only [subL, Option.some.injEq, Sum.inl.injEq, Sum.inr.injEq, reduceCtorEq, true_or, or_true, false_or, true_and, and_true]; first | (rw [hS_, if_pos (by omega)]; refine ⟨?_, by omega⟩; rfl) | (rw [hS_, if_neg (by omega)]; refine ⟨?_, by omega⟩; rfl)) ih
            · refine V_iload_4 (pc := 49) dX6_oneBy_49 ?_
              refine V_istore_3 (pc := 51) dX6_oneBy_51 ?_
              refine V_iinc_4 (pc := 52) dX6_oneBy_52 ?_
              refine V_goto (pc := 55) 5 dX6_oneBy_55 (by decide) ?_
              refine V.sub (by simp only [subL, Option.some.injEq, Sum.inl.injEq, Sum.inr.injEq, reduceCtorEq, true_or, or_true, false_or, true_and, and_true]; first | (rw [hS_, if_pos (by omega)]; refine ⟨?_, by omega⟩; rfl) | (rw [hS_, if_neg (by omega)]; refine ⟨?_, by omega⟩; rfl)) ih
  refine V_iconst (pc := 0) dX6_oneBy_0 ?_
  refine V_istore_3 (pc := 1) dX6_oneBy_1 ?_
  refine V_iconst (pc := 2) dX6_oneBy_2 ?_
  refine V_istore_4 (pc := 3) dX6_oneBy_3 ?_
  exact loop 0 (by omega)

set_option maxRecDepth 20000 in
set_option maxHeartbeats 1000000 in
theorem c_X6_writtenBy {d : Nat} (hd : 2 ≤ d) {σ : MM} {B E : BK} {y sg : Int} (hM : MB σ 0 B) (hW : WB B) (hL : LD σ B E 0) (h47 : ∀ e : Int, 0 ≤ e ∧ e < B 6 0 → σ 47 0 e = E 13 e) (hy : 0 ≤ y ∧ y ≤ B 1 0) (hg : sg = 1 ∨ sg = -1) : V yX6_writtenBy cX6_writtenBy 5 (some .int) d (QI (fun v σ' => v = bst (fun e => E 13 e ≤ y) (fun e => sg * E 13 (e)) (B 6 0).toNat ∧ σ' = σ)) 0 [some (vR 34 0), some (vI y), some (vI sg), none, none] [] σ := by
  have hs := hW.s
  have hWE := hL.w
  have hEs := hWE.s
  have hs6 := hL.s6
  have hs1 := hL.s1
  have hsg : ∀ x : Int, 0 ≤ x ∧ x ≤ 99 → -99 ≤ sg * x ∧ sg * x ≤ 99 := by
    intro x hx
    rcases hg with q | q <;> rw [q] <;> omega
  have loop : ∀ i : Nat, i ≤ (B 6 0).toNat → V yX6_writtenBy cX6_writtenBy 5 (some .int) d (QI (fun v σ' => v = bst (fun e => E 13 e ≤ y) (fun e => sg * E 13 (e)) (B 6 0).toNat ∧ σ' = σ)) 5 [some (vR 34 0), some (vI (y)), some (vI (sg)), some (vI (bst (fun e => E 13 e ≤ y) (fun e => sg * E 13 (e)) i)), some (vI (i : Int))] [] σ := by
    refine up_ind (P := fun i : Nat => V yX6_writtenBy cX6_writtenBy 5 (some .int) d (QI (fun v σ' => v = bst (fun e => E 13 e ≤ y) (fun e => sg * E 13 (e)) (B 6 0).toNat ∧ σ' = σ)) 5 [some (vR 34 0), some (vI (y)), some (vI (sg)), some (vI (bst (fun e => E 13 e ≤ y) (fun e => sg * E 13 (e)) i)), some (vI (i : Int))] [] σ) ?_ ?_
    · 
      refine V_iload_4 (pc := 5) dX6_writtenBy_5 ?_
      refine V_aload_0 (pc := 7) dX6_writtenBy_7 ?_
      refine V_callV0p (pc := 8) dX6_writtenBy_8 kv_X6_236 rc_34 (by omega) (d - 1) (by omega) rfl (c_X6_entries (by omega) hM hW) ?_
      refine V_icmp_ge (pc := 11) 58 dX6_writtenBy_11 (by decide) (by omega) (by omega) (fun c_11 => ?_) (fun c_11 => ?_)
      · refine V_iload_3 (pc := 58) dX6_writtenBy_58 ?_
        refine V_iretI (pc := 59) dX6_writtenBy_59 rfl ?_
        exact ⟨_, rfl, by first | rfl | omega, rfl⟩
      · exact absurd c_11 (by omega)
    · intro i hi ih
      have hb := bst_in (p := fun e => E 13 e ≤ y) (g := (fun e => sg * E 13 (e))) i
      have h1 := hWE.e (i := (i : Int)) (by omega)
      have h2 : bst (fun e => E 13 e ≤ y) (fun e => sg * E 13 (e)) i ≠ -1 → _ := fun q => hWE.e (i := bst (fun e => E 13 e ≤ y) (fun e => sg * E 13 (e)) i) (by omega)
      have m1 := hsg (E 13 (i : Int)) (by omega)
      have m2 : bst (fun e => E 13 e ≤ y) (fun e => sg * E 13 (e)) i ≠ -1 → _ := fun q => hsg (E 13 (bst (fun e => E 13 e ≤ y) (fun e => sg * E 13 (e)) i)) (by have := h2 q; omega)
      have hS_ : bst (fun e => E 13 e ≤ y) (fun e => sg * E 13 (e)) (i + 1) = if E 13 i ≤ y ∧ (bst (fun e => E 13 e ≤ y) (fun e => sg * E 13 (e)) i = -1 ∨ sg * E 13 (bst (fun e => E 13 e ≤ y) (fun e => sg * E 13 (e)) i) < sg * E 13 (i : Int)) then (i : Int) else bst (fun e => E 13 e ≤ y) (fun e => sg * E 13 (e)) i := rfl
      refine V_iload_4 (pc := 5) dX6_writtenBy_5 ?_
      refine V_aload_0 (pc := 7) dX6_writtenBy_7 ?_
      refine V_callV0p (pc := 8) dX6_writtenBy_8 kv_X6_236 rc_34 (by omega) (d - 1) (by omega) rfl (c_X6_entries (by omega) hM hW) ?_
      refine V_icmp_ge (pc := 11) 58 dX6_writtenBy_11 (by decide) (by omega) (by omega) (fun c_11 => ?_) (fun c_11 => ?_)
      · exact absurd c_11 (by omega)
      · refine V_aload_0 (pc := 14) dX6_writtenBy_14 ?_
        refine V_iload_4 (pc := 15) dX6_writtenBy_15 ?_
        refine V_iload_1 (pc := 17) dX6_writtenBy_17 ?_
        refine V_callV2p (pc := 18) dX6_writtenBy_18 kv_X6_293 rc_34 (by omega) (d - 1) (by omega) rfl (c_X6_isThere (by omega) hM hW hL (by omega) (by omega)) ?_
        refine V_if_eq_b (pc := 21) 52 dX6_writtenBy_21 (by decide) (fun c_21 => ?_) (fun c_21 => ?_)
        · refine V_iinc_4 (pc := 52) dX6_writtenBy_52 ?_
          refine V_goto (pc := 55) 5 dX6_writtenBy_55 (by decide) ?_
          refine V.sub (by simp only [subL, Option.some.injEq, Sum.inl.injEq, Sum.inr.injEq, reduceCtorEq, true_or, or_true, false_or, true_and, and_true]; first | (rw [hS_, if_pos (by omega)]; refine ⟨?_, by omega⟩; rfl) | (rw [hS_, if_neg (by omega)]; refine ⟨?_, by omega⟩; rfl)) ih
        · refine V_iload_3 (pc := 24) dX6_writtenBy_24 ?_
          refine V_iconst (pc := 25) dX6_writtenBy_25 ?_
          refine V_icmp_eq (pc := 26) 49 dX6_writtenBy_26 (by decide) (by omega) (by omega) (fun c_26 => ?_) (fun c_26 => ?_)
          · refine V_iload_4 (pc := 49) dX6_writtenBy_49 ?_
            refine V_istore_3 (pc := 51) dX6_writtenBy_51 ?_
            refine V_iinc_4 (pc := 52) dX6_writtenBy_52 ?_
            refine V_goto (pc := 55) 5 dX6_writtenBy_55 (by decide) ?_
            refine V.sub (by simp only [subL, Option.some.injEq, Sum.inl.injEq, Sum.inr.injEq, reduceCtorEq, true_or, or_true, false_or, true_and, and_true]; first | (rw [hS_, if_pos (by omega)]; refine ⟨?_, by omega⟩; rfl) | (rw [hS_, if_neg (by omega)]; refine ⟨?_, by omega⟩; rfl)) ih
          · refine V_iload_2 (pc := 29) dX6_writtenBy_29 ?_
            refine V_aload_0 (pc := 30) dX6_writtenBy_30 ?_
            refine V_getc (pc := 31) dX6_writtenBy_31 gf_X6_53 (by omega) ?_
            refine V_iload_4 (pc := 34) dX6_writtenBy_34 ?_
            refine V_iald (pc := 36) dX6_writtenBy_36 sh_47 (by omega) (by omega) (h47 _ (by omega)) ?_
            refine V_imul (pc := 37) dX6_writtenBy_37 ?_
            refine V_iload_2 (pc := 38) dX6_writtenBy_38 ?_
            refine V_aload_0 (pc := 39) dX6_writtenBy_39 ?_
            refine V_getc (pc := 40) dX6_writtenBy_40 gf_X6_53 (by omega) ?_
            refine V_iload_3 (pc := 43) dX6_writtenBy_43 ?_
            refine V_iald (pc := 44) dX6_writtenBy_44 sh_47 (by omega) (by omega) (h47 _ (by omega)) ?_
            refine V_imul (pc := 45) dX6_writtenBy_45 ?_
            refine V_icmp_le (pc := 46) 52 dX6_writtenBy_46 (by decide) (by omega) (by omega) (fun c_46 => ?_) (fun c_46 => ?_)
            · refine V_iinc_4 (pc := 52) dX6_writtenBy_52 ?_
              refine V_goto (pc := 55) 5 dX6_writtenBy_55 (by decide) ?_
              refine V.sub (by simp only [subL, Option.some.injEq, Sum.inl.injEq, Sum.inr.injEq, reduceCtorEq, true_or, or_true, false_or, true_and, and_true]; first | (rw [hS_, if_pos (by omega)]; refine ⟨?_, by omega⟩; rfl) | (rw [hS_, if_neg (by omega)]; refine ⟨?_, by omega⟩; rfl)) ih
            · refine V_iload_4 (pc := 49) dX6_writtenBy_49 ?_
              refine V_istore_3 (pc := 51) dX6_writtenBy_51 ?_
              refine V_iinc_4 (pc := 52) dX6_writtenBy_52 ?_
              refine V_goto (pc := 55) 5 dX6_writtenBy_55 (by decide) ?_
              refine V.sub (by simp only [subL, Option.some.injEq, Sum.inl.injEq, Sum.inr.injEq, reduceCtorEq, true_or, or_true, false_or, true_and, and_true]; first | (rw [hS_, if_pos (by omega)]; refine ⟨?_, by omega⟩; rfl) | (rw [hS_, if_neg (by omega)]; refine ⟨?_, by omega⟩; rfl)) ih
  refine V_iconst (pc := 0) dX6_writtenBy_0 ?_
  refine V_istore_3 (pc := 1) dX6_writtenBy_1 ?_
  refine V_iconst (pc := 2) dX6_writtenBy_2 ?_
  refine V_istore_4 (pc := 3) dX6_writtenBy_3 ?_
  exact loop 0 (by omega)

set_option maxRecDepth 20000 in
set_option maxHeartbeats 1000000 in
theorem c_X6_orderOf {d : Nat} (hd : 1 ≤ d) {σ : MM} {B E : BK} {wv : Int} {e o y : Int} (hM : MB σ 0 B) (hW : WB B) (hL : LD σ B E wv) (hS : SHM σ B E wv) (he : 0 ≤ e ∧ e < B 6 0) (ho : 0 ≤ o ∧ o < B 6 0) (hy : 0 ≤ y ∧ y ≤ B 1 0) : V yX6_orderOf cX6_orderOf 4 (some .int) d (QI (fun v σ' => v = cmpI (SHD E (bt wv) y e) (SHD E (bt wv) y o) ∧ σ' = σ)) 0 [some (vR 34 0), some (vI e), some (vI o), some (vI y)] [] σ := by
  have hs := hW.s
  have hWE := hL.w
  have hEs := hWE.s
  have hs6 := hL.s6
  have hs1 := hL.s1
  have h1 := SHD_in (r := wv) (y := y) hWE (e := e) (by omega)
  have h2 := SHD_in (r := wv) (y := y) hWE (e := o) (by omega)
  refine V_aload_0 (pc := 0) dX6_orderOf_0 ?_
  refine V_iload_1 (pc := 1) dX6_orderOf_1 ?_
  refine V_iload_3 (pc := 2) dX6_orderOf_2 ?_
  refine V_callV2p (pc := 3) dX6_orderOf_3 kv_X6_283 rc_34 (by omega) (d - 1) (by omega) rfl (c_X6_shadeOf (by omega) (by omega) (by omega) (hS.s (by omega) (by omega))) ?_
  refine V_aload_0 (pc := 6) dX6_orderOf_6 ?_
  refine V_iload_2 (pc := 7) dX6_orderOf_7 ?_
  refine V_iload_3 (pc := 8) dX6_orderOf_8 ?_
  refine V_callV2p (pc := 9) dX6_orderOf_9 kv_X6_283 rc_34 (by omega) (d - 1) (by omega) rfl (c_X6_shadeOf (by omega) (by omega) (by omega) (hS.s (by omega) (by omega))) ?_
  refine V_icmp_le (pc := 12) 19 dX6_orderOf_12 (by decide) (by omega) (by omega) (fun c_12 => ?_) (fun c_12 => ?_)
  · refine V_aload_0 (pc := 19) dX6_orderOf_19 ?_
    refine V_iload_1 (pc := 20) dX6_orderOf_20 ?_
    refine V_iload_3 (pc := 21) dX6_orderOf_21 ?_
    refine V_callV2p (pc := 22) dX6_orderOf_22 kv_X6_283 rc_34 (by omega) (d - 1) (by omega) rfl (c_X6_shadeOf (by omega) (by omega) (by omega) (hS.s (by omega) (by omega))) ?_
    refine V_aload_0 (pc := 25) dX6_orderOf_25 ?_
    refine V_iload_2 (pc := 26) dX6_orderOf_26 ?_
    refine V_iload_3 (pc := 27) dX6_orderOf_27 ?_
    refine V_callV2p (pc := 28) dX6_orderOf_28 kv_X6_283 rc_34 (by omega) (d - 1) (by omega) rfl (c_X6_shadeOf (by omega) (by omega) (by omega) (hS.s (by omega) (by omega))) ?_
    refine V_icmp_ge (pc := 31) 38 dX6_orderOf_31 (by decide) (by omega) (by omega) (fun c_31 => ?_) (fun c_31 => ?_)
    · refine V_iconst (pc := 38) dX6_orderOf_38 ?_
      refine V_iretI (pc := 39) dX6_orderOf_39 rfl ?_
      exact ⟨_, rfl, by unfold cmpI; (repeat' split) <;> omega, rfl⟩
    · refine V_iconst (pc := 34) dX6_orderOf_34 ?_
      refine V_goto (pc := 35) 39 dX6_orderOf_35 (by decide) ?_
      refine V_iretI (pc := 39) dX6_orderOf_39 rfl ?_
      exact ⟨_, rfl, by unfold cmpI; (repeat' split) <;> omega, rfl⟩
  · refine V_iconst (pc := 15) dX6_orderOf_15 ?_
    refine V_goto (pc := 16) 39 dX6_orderOf_16 (by decide) ?_
    refine V_iretI (pc := 39) dX6_orderOf_39 rfl ?_
    exact ⟨_, rfl, by unfold cmpI; (repeat' split) <;> omega, rfl⟩

set_option maxRecDepth 20000 in
set_option maxHeartbeats 1000000 in
theorem c_X6_alone {d : Nat} (hd : 1 ≤ d) {σ : MM} {B : BK} {i0 p wr y : Int} (hM : MB σ 0 B) (hW : WB B) (hi0 : 0 ≤ i0 ∧ i0 < B 4 0) (hp : 0 ≤ p ∧ p < B 5 0) (hwr : 0 ≤ wr ∧ wr ≤ 500) (hy : 0 ≤ y ∧ y ≤ 500) : V yX6_alone cX6_alone 8 (some .int) d (QI (fun v σ' => v = LNE B i0 p wr y ∧ σ' = σ)) 0 [some (vR 34 0), some (vI i0), some (vI p), some (vI wr), some (vI y), none, none, none] [] σ := by
  have hs := hW.s
  have h1 := hW.i hi0
  have hpp := hW.p hp
  have loop : (wr ≤ y) → ∀ i : Nat, i ≤ (y - wr).toNat → V yX6_alone cX6_alone 8 (some .int) d (QI (fun v σ' => v = LNE B i0 p wr y ∧ σ' = σ)) 64 [some (vR 34 0), some (vI i0), some (vI p), some (vI wr), some (vI y), some (vI (LNA B i0 p wr i).1), some (vI (LNA B i0 p wr i).2), some (vI (wr + 1 + i))] [] σ := by
    intro hR
    refine up_ind (P := fun i : Nat => V yX6_alone cX6_alone 8 (some .int) d (QI (fun v σ' => v = LNE B i0 p wr y ∧ σ' = σ)) 64 [some (vR 34 0), some (vI i0), some (vI p), some (vI wr), some (vI y), some (vI (LNA B i0 p wr i).1), some (vI (LNA B i0 p wr i).2), some (vI (wr + 1 + i))] [] σ) ?_ ?_
    · 
      refine V_iload_7 (pc := 64) dX6_alone_64 ?_
      refine V_iload_4 (pc := 66) dX6_alone_66 ?_
      refine V_icmp_gt (pc := 68) 179 dX6_alone_68 (by decide) (by omega) (by omega) (fun c_68 => ?_) (fun c_68 => ?_)
      · refine V_iload_5 (pc := 179) dX6_alone_179 ?_
        refine V_iretI (pc := 181) dX6_alone_181 rfl ?_
        exact ⟨_, rfl, by unfold LNE; rw [if_neg (by omega)], rfl⟩
      · exact absurd c_68 (by omega)
    · intro i hi ih
      have hn := LNA_in hW hi0 (p := p) (wr := wr) i
      have hl := LOS_in hW (p := p) (y := wr + 1 + i) (w := 0) hi0 (by omega)
      have hLo : (if B 2 0 = 3 ∧ (wr + 1 + (i : Int)) % 2 = 1 then 0 else (if B 2 0 = 1 ∧ B 10 p = 1 then B 9 i0 * 2 else B 9 i0) + 2 * 0) = LOS B i0 p (wr + 1 + i) 0 := rfl
      refine V_iload_7 (pc := 64) dX6_alone_64 ?_
      refine V_iload_4 (pc := 66) dX6_alone_66 ?_
      refine V_icmp_gt (pc := 68) 179 dX6_alone_68 (by decide) (by omega) (by omega) (fun c_68 => ?_) (fun c_68 => ?_)
      · exact absurd c_68 (by omega)
      · refine V_iload_6 (pc := 71) dX6_alone_71 ?_
        refine V_if_eq (pc := 73) 136 dX6_alone_73 (by decide) (by omega) (fun c_73 => ?_) (fun c_73 => ?_)
        · refine V_iconst (pc := 136) dX6_alone_136 ?_
          refine V_iload_5 (pc := 137) dX6_alone_137 ?_
          refine V_aload_0 (pc := 139) dX6_alone_139 ?_
          refine V_getc (pc := 140) dX6_alone_140 gf_X6_34 (by omega) ?_
          refine V_iconst (pc := 143) dX6_alone_143 ?_
          refine V_iald (pc := 144) dX6_alone_144 sh_41 (by omega) (by omega) hM.h1 ?_
          refine V_aload_0 (pc := 145) dX6_alone_145 ?_
          refine V_getc (pc := 146) dX6_alone_146 gf_X6_37 (by omega) ?_
          refine V_iconst (pc := 149) dX6_alone_149 ?_
          refine V_iload_1 (pc := 150) dX6_alone_150 ?_
          refine V_imul (pc := 151) dX6_alone_151 ?_
          refine V_iconst (pc := 152) dX6_alone_152 ?_
          refine V_iadd (pc := 153) dX6_alone_153 ?_
          refine V_iald (pc := 154) dX6_alone_154 sh_42 (by omega) (by omega) (hM.i2 (by omega)) ?_
          refine V_aload_0 (pc := 155) dX6_alone_155 ?_
          refine V_getc (pc := 156) dX6_alone_156 gf_X6_40 (by omega) ?_
          refine V_iload_2 (pc := 159) dX6_alone_159 ?_
          refine V_iald (pc := 160) dX6_alone_160 sh_43 (by omega) (by omega) (hM.p0 (by omega)) ?_
          refine V_iconst (pc := 161) dX6_alone_161 ?_
          refine V_iload_7 (pc := 162) dX6_alone_162 ?_
          refine V_callS5p (pc := 164) dX6_alone_164 kv_X6_286 (d - 1) (by omega) rfl (c_X6_fadeBy (by omega) (by omega) (by omega) (by omega) (Or.inl rfl) (by omega)) ?_
          refine V_isub (pc := 167) dX6_alone_167 ?_
          refine V_callS2p (pc := 168) dX6_alone_168 kv_X6_280 (d - 1) (by omega) rfl (c_X6_moreOf (by omega) (by omega) (by omega)) ?_
          refine V_istore_5 (pc := 171) dX6_alone_171 ?_
          refine V_iinc_7 (pc := 173) dX6_alone_173 ?_
          refine V_goto (pc := 176) 64 dX6_alone_176 (by decide) ?_
          refine V.sub (by simp only [subL, Option.some.injEq, Sum.inl.injEq, Sum.inr.injEq, reduceCtorEq, true_or, or_true, false_or, true_and, and_true]; first | (rw [LNA_up (by omega)]; dsimp only; refine ⟨by omega, ?_, by omega⟩; first | exact bI_t (by omega) | exact bI_f (by omega)) | (rw [LNA_dn (by omega)]; dsimp only; refine ⟨rfl, by omega, by omega⟩)) ih
        · refine V_iload_5 (pc := 76) dX6_alone_76 ?_
          refine V_aload_0 (pc := 78) dX6_alone_78 ?_
          refine V_getc (pc := 79) dX6_alone_79 gf_X6_37 (by omega) ?_
          refine V_iconst (pc := 82) dX6_alone_82 ?_
          refine V_iload_1 (pc := 83) dX6_alone_83 ?_
          refine V_imul (pc := 84) dX6_alone_84 ?_
          refine V_iald (pc := 85) dX6_alone_85 sh_42 (by omega) (by omega) (hM.i0 (by omega)) ?_
          refine V_iadd (pc := 86) dX6_alone_86 ?_
          refine V_aload_0 (pc := 87) dX6_alone_87 ?_
          refine V_getc (pc := 88) dX6_alone_88 gf_X6_37 (by omega) ?_
          refine V_iconst (pc := 91) dX6_alone_91 ?_
          refine V_iload_1 (pc := 92) dX6_alone_92 ?_
          refine V_imul (pc := 93) dX6_alone_93 ?_
          refine V_iconst (pc := 94) dX6_alone_94 ?_
          refine V_iadd (pc := 95) dX6_alone_95 ?_
          refine V_iald (pc := 96) dX6_alone_96 sh_42 (by omega) (by omega) (hM.i1 (by omega)) ?_
          refine V_icmp_ge (pc := 97) 104 dX6_alone_97 (by decide) (by omega) (by omega) (fun c_97 => ?_) (fun c_97 => ?_)
          · refine V_iconst (pc := 104) dX6_alone_104 ?_
            refine V_istore_6 (pc := 105) dX6_alone_105 ?_
            refine V_aload_0 (pc := 107) dX6_alone_107 ?_
            refine V_getc (pc := 108) dX6_alone_108 gf_X6_37 (by omega) ?_
            refine V_iconst (pc := 111) dX6_alone_111 ?_
            refine V_iload_1 (pc := 112) dX6_alone_112 ?_
            refine V_imul (pc := 113) dX6_alone_113 ?_
            refine V_iconst (pc := 114) dX6_alone_114 ?_
            refine V_iadd (pc := 115) dX6_alone_115 ?_
            refine V_iald (pc := 116) dX6_alone_116 sh_42 (by omega) (by omega) (hM.i1 (by omega)) ?_
            refine V_iload_5 (pc := 117) dX6_alone_117 ?_
            refine V_aload_0 (pc := 119) dX6_alone_119 ?_
            refine V_getc (pc := 120) dX6_alone_120 gf_X6_37 (by omega) ?_
            refine V_iconst (pc := 123) dX6_alone_123 ?_
            refine V_iload_1 (pc := 124) dX6_alone_124 ?_
            refine V_imul (pc := 125) dX6_alone_125 ?_
            refine V_iald (pc := 126) dX6_alone_126 sh_42 (by omega) (by omega) (hM.i0 (by omega)) ?_
            refine V_iadd (pc := 127) dX6_alone_127 ?_
            refine V_callS2p (pc := 128) dX6_alone_128 kv_X6_277 (d - 1) (by omega) rfl (c_X6_lessOf (by omega) (by omega) (by omega)) ?_
            refine V_istore_5 (pc := 131) dX6_alone_131 ?_
            refine V_goto (pc := 133) 173 dX6_alone_133 (by decide) ?_
            refine V_iinc_7 (pc := 173) dX6_alone_173 ?_
            refine V_goto (pc := 176) 64 dX6_alone_176 (by decide) ?_
            refine V.sub (by simp only [subL, Option.some.injEq, Sum.inl.injEq, Sum.inr.injEq, reduceCtorEq, true_or, or_true, false_or, true_and, and_true]; first | (rw [LNA_up (by omega)]; dsimp only; refine ⟨by omega, ?_, by omega⟩; first | exact bI_t (by omega) | exact bI_f (by omega)) | (rw [LNA_dn (by omega)]; dsimp only; refine ⟨rfl, by omega, by omega⟩)) ih
          · refine V_iconst (pc := 100) dX6_alone_100 ?_
            refine V_goto (pc := 101) 105 dX6_alone_101 (by decide) ?_
            refine V_istore_6 (pc := 105) dX6_alone_105 ?_
            refine V_aload_0 (pc := 107) dX6_alone_107 ?_
            refine V_getc (pc := 108) dX6_alone_108 gf_X6_37 (by omega) ?_
            refine V_iconst (pc := 111) dX6_alone_111 ?_
            refine V_iload_1 (pc := 112) dX6_alone_112 ?_
            refine V_imul (pc := 113) dX6_alone_113 ?_
            refine V_iconst (pc := 114) dX6_alone_114 ?_
            refine V_iadd (pc := 115) dX6_alone_115 ?_
            refine V_iald (pc := 116) dX6_alone_116 sh_42 (by omega) (by omega) (hM.i1 (by omega)) ?_
            refine V_iload_5 (pc := 117) dX6_alone_117 ?_
            refine V_aload_0 (pc := 119) dX6_alone_119 ?_
            refine V_getc (pc := 120) dX6_alone_120 gf_X6_37 (by omega) ?_
            refine V_iconst (pc := 123) dX6_alone_123 ?_
            refine V_iload_1 (pc := 124) dX6_alone_124 ?_
            refine V_imul (pc := 125) dX6_alone_125 ?_
            refine V_iald (pc := 126) dX6_alone_126 sh_42 (by omega) (by omega) (hM.i0 (by omega)) ?_
            refine V_iadd (pc := 127) dX6_alone_127 ?_
            refine V_callS2p (pc := 128) dX6_alone_128 kv_X6_277 (d - 1) (by omega) rfl (c_X6_lessOf (by omega) (by omega) (by omega)) ?_
            refine V_istore_5 (pc := 131) dX6_alone_131 ?_
            refine V_goto (pc := 133) 173 dX6_alone_133 (by decide) ?_
            refine V_iinc_7 (pc := 173) dX6_alone_173 ?_
            refine V_goto (pc := 176) 64 dX6_alone_176 (by decide) ?_
            refine V.sub (by simp only [subL, Option.some.injEq, Sum.inl.injEq, Sum.inr.injEq, reduceCtorEq, true_or, or_true, false_or, true_and, and_true]; first | (rw [LNA_up (by omega)]; dsimp only; refine ⟨by omega, ?_, by omega⟩; first | exact bI_t (by omega) | exact bI_f (by omega)) | (rw [LNA_dn (by omega)]; dsimp only; refine ⟨rfl, by omega, by omega⟩)) ih
  refine V_iload_3 (pc := 0) dX6_alone_0 ?_
  refine V_iload_4 (pc := 1) dX6_alone_1 ?_
  refine V_icmp_le (pc := 3) 8 dX6_alone_3 (by decide) (by omega) (by omega) (fun c_3 => ?_) (fun c_3 => ?_)
  · refine V_aload_0 (pc := 8) dX6_alone_8 ?_
    refine V_getc (pc := 9) dX6_alone_9 gf_X6_37 (by omega) ?_
    refine V_iconst (pc := 12) dX6_alone_12 ?_
    refine V_iload_1 (pc := 13) dX6_alone_13 ?_
    refine V_imul (pc := 14) dX6_alone_14 ?_
    refine V_iald (pc := 15) dX6_alone_15 sh_42 (by omega) (by omega) (hM.i0 (by omega)) ?_
    refine V_aload_0 (pc := 16) dX6_alone_16 ?_
    refine V_getc (pc := 17) dX6_alone_17 gf_X6_37 (by omega) ?_
    refine V_iconst (pc := 20) dX6_alone_20 ?_
    refine V_iload_1 (pc := 21) dX6_alone_21 ?_
    refine V_imul (pc := 22) dX6_alone_22 ?_
    refine V_iconst (pc := 23) dX6_alone_23 ?_
    refine V_iadd (pc := 24) dX6_alone_24 ?_
    refine V_iald (pc := 25) dX6_alone_25 sh_42 (by omega) (by omega) (hM.i1 (by omega)) ?_
    refine V_callS2p (pc := 26) dX6_alone_26 kv_X6_277 (d - 1) (by omega) rfl (c_X6_lessOf (by omega) (by omega) (by omega)) ?_
    refine V_istore_5 (pc := 29) dX6_alone_29 ?_
    refine V_aload_0 (pc := 31) dX6_alone_31 ?_
    refine V_getc (pc := 32) dX6_alone_32 gf_X6_37 (by omega) ?_
    refine V_iconst (pc := 35) dX6_alone_35 ?_
    refine V_iload_1 (pc := 36) dX6_alone_36 ?_
    refine V_imul (pc := 37) dX6_alone_37 ?_
    refine V_iald (pc := 38) dX6_alone_38 sh_42 (by omega) (by omega) (hM.i0 (by omega)) ?_
    refine V_aload_0 (pc := 39) dX6_alone_39 ?_
    refine V_getc (pc := 40) dX6_alone_40 gf_X6_37 (by omega) ?_
    refine V_iconst (pc := 43) dX6_alone_43 ?_
    refine V_iload_1 (pc := 44) dX6_alone_44 ?_
    refine V_imul (pc := 45) dX6_alone_45 ?_
    refine V_iconst (pc := 46) dX6_alone_46 ?_
    refine V_iadd (pc := 47) dX6_alone_47 ?_
    refine V_iald (pc := 48) dX6_alone_48 sh_42 (by omega) (by omega) (hM.i1 (by omega)) ?_
    refine V_icmp_ge (pc := 49) 56 dX6_alone_49 (by decide) (by omega) (by omega) (fun c_49 => ?_) (fun c_49 => ?_)
    · refine V_iconst (pc := 56) dX6_alone_56 ?_
      refine V_istore_6 (pc := 57) dX6_alone_57 ?_
      refine V_iload_3 (pc := 59) dX6_alone_59 ?_
      refine V_iconst (pc := 60) dX6_alone_60 ?_
      refine V_iadd (pc := 61) dX6_alone_61 ?_
      refine V_istore_7 (pc := 62) dX6_alone_62 ?_
      refine V.sub (by simp only [subL, Option.some.injEq, Sum.inl.injEq, Sum.inr.injEq, reduceCtorEq, true_or, or_true, false_or, true_and, and_true]; rw [show LNA B i0 p wr 0 = (min (B 7 i0) (B 8 i0), bI (min (B 7 i0) (B 8 i0) < B 8 i0)) from rfl]; dsimp only; refine ⟨by omega, ?_, by omega⟩; first | exact bI_t (by omega) | exact bI_f (by omega)) (loop (by omega) 0 (by omega))
    · refine V_iconst (pc := 52) dX6_alone_52 ?_
      refine V_goto (pc := 53) 57 dX6_alone_53 (by decide) ?_
      refine V_istore_6 (pc := 57) dX6_alone_57 ?_
      refine V_iload_3 (pc := 59) dX6_alone_59 ?_
      refine V_iconst (pc := 60) dX6_alone_60 ?_
      refine V_iadd (pc := 61) dX6_alone_61 ?_
      refine V_istore_7 (pc := 62) dX6_alone_62 ?_
      refine V.sub (by simp only [subL, Option.some.injEq, Sum.inl.injEq, Sum.inr.injEq, reduceCtorEq, true_or, or_true, false_or, true_and, and_true]; rw [show LNA B i0 p wr 0 = (min (B 7 i0) (B 8 i0), bI (min (B 7 i0) (B 8 i0) < B 8 i0)) from rfl]; dsimp only; refine ⟨by omega, ?_, by omega⟩; first | exact bI_t (by omega) | exact bI_f (by omega)) (loop (by omega) 0 (by omega))
  · refine V_iconst (pc := 6) dX6_alone_6 ?_
    refine V_iretI (pc := 7) dX6_alone_7 rfl ?_
    exact ⟨_, rfl, by unfold LNE; rw [if_pos (by omega)], rfl⟩

set_option maxRecDepth 20000 in
set_option maxHeartbeats 1000000 in
theorem c_X6_passesOf {d : Nat} (hd : 2 ≤ d) {σ : MM} {B : BK} {e y : Int} (hM : MB σ 0 B) (hW : WB B) (hL : LD σ B B 0) (hS : SHM σ B B 0) (he : 0 ≤ e ∧ e < B 6 0) (hy : 0 ≤ y ∧ y ≤ B 1 0) : V yX6_passesOf cX6_passesOf 5 (some .int) d (QI (fun v σ' => v = PSI B e y ∧ σ' = σ)) 0 [some (vR 34 0), some (vI e), some (vI y), none, none] [] σ := by
  have hs := hW.s
  have he9 := hW.e he
  have h1 := SHD_in (r := 0) (y := y) hW he
  have loop : ∀ i : Nat, i ≤ (B 4 0).toNat → V yX6_passesOf cX6_passesOf 5 (some .int) d (QI (fun v σ' => v = PSI B e y ∧ σ' = σ)) 5 [some (vR 34 0), some (vI (e)), some (vI (y)), some (vI (bsN (fun i => bI (SHD B (bt 0) y e = LNE B i (B 11 e) (B 14 e) y)) i)), some (vI (i : Int))] [] σ := by
    refine up_ind (P := fun i : Nat => V yX6_passesOf cX6_passesOf 5 (some .int) d (QI (fun v σ' => v = PSI B e y ∧ σ' = σ)) 5 [some (vR 34 0), some (vI (e)), some (vI (y)), some (vI (bsN (fun i => bI (SHD B (bt 0) y e = LNE B i (B 11 e) (B 14 e) y)) i)), some (vI (i : Int))] [] σ) ?_ ?_
    · 
      refine V_iload_4 (pc := 5) dX6_passesOf_5 ?_
      refine V_aload_0 (pc := 7) dX6_passesOf_7 ?_
      refine V_getc (pc := 8) dX6_passesOf_8 gf_X6_34 (by omega) ?_
      refine V_iconst (pc := 11) dX6_passesOf_11 ?_
      refine V_iald (pc := 12) dX6_passesOf_12 sh_41 (by omega) (by omega) hM.h3 ?_
      refine V_icmp_ge (pc := 13) 67 dX6_passesOf_13 (by decide) (by omega) (by omega) (fun c_13 => ?_) (fun c_13 => ?_)
      · refine V_iload_3 (pc := 67) dX6_passesOf_67 ?_
        refine V_iretI (pc := 68) dX6_passesOf_68 rfl ?_
        exact ⟨_, rfl, by first | rfl | omega, rfl⟩
      · exact absurd c_13 (by omega)
    · intro i hi ih
      have h3 := LNE_in hW (i := (i : Int)) (p := B 11 e) (wr := B 14 e) (y := y) (by omega)
      have hb := bsI_in (fun i => SHD B (bt 0) y e = LNE B i (B 11 e) (B 14 e) y) i
      have hS_ := bsN_S (fun i => bI (SHD B (bt 0) y e = LNE B i (B 11 e) (B 14 e) y)) i
      refine V_iload_4 (pc := 5) dX6_passesOf_5 ?_
      refine V_aload_0 (pc := 7) dX6_passesOf_7 ?_
      refine V_getc (pc := 8) dX6_passesOf_8 gf_X6_34 (by omega) ?_
      refine V_iconst (pc := 11) dX6_passesOf_11 ?_
      refine V_iald (pc := 12) dX6_passesOf_12 sh_41 (by omega) (by omega) hM.h3 ?_
      refine V_icmp_ge (pc := 13) 67 dX6_passesOf_13 (by decide) (by omega) (by omega) (fun c_13 => ?_) (fun c_13 => ?_)
      · exact absurd c_13 (by omega)
      · refine V_iload_3 (pc := 16) dX6_passesOf_16 ?_
        refine V_aload_0 (pc := 17) dX6_passesOf_17 ?_
        refine V_iload_1 (pc := 18) dX6_passesOf_18 ?_
        refine V_iload_2 (pc := 19) dX6_passesOf_19 ?_
        refine V_callV2p (pc := 20) dX6_passesOf_20 kv_X6_283 rc_34 (by omega) (d - 1) (by omega) rfl (c_X6_shadeOf (by omega) (by omega) (by omega) (hS.s (by omega) (by omega))) ?_
        refine V_aload_0 (pc := 23) dX6_passesOf_23 ?_
        refine V_iload_4 (pc := 24) dX6_passesOf_24 ?_
        refine V_aload_0 (pc := 26) dX6_passesOf_26 ?_
        refine V_getc (pc := 27) dX6_passesOf_27 gf_X6_43 (by omega) ?_
        refine V_iconst (pc := 30) dX6_passesOf_30 ?_
        refine V_iload_1 (pc := 31) dX6_passesOf_31 ?_
        refine V_imul (pc := 32) dX6_passesOf_32 ?_
        refine V_iald (pc := 33) dX6_passesOf_33 sh_44 (by omega) (by omega) (hM.t0 (by omega)) ?_
        refine V_aload_0 (pc := 34) dX6_passesOf_34 ?_
        refine V_getc (pc := 35) dX6_passesOf_35 gf_X6_43 (by omega) ?_
        refine V_iconst (pc := 38) dX6_passesOf_38 ?_
        refine V_iload_1 (pc := 39) dX6_passesOf_39 ?_
        refine V_imul (pc := 40) dX6_passesOf_40 ?_
        refine V_iconst (pc := 41) dX6_passesOf_41 ?_
        refine V_iadd (pc := 42) dX6_passesOf_42 ?_
        refine V_iald (pc := 43) dX6_passesOf_43 sh_44 (by omega) (by omega) (hM.t3 (by omega)) ?_
        refine V_iload_2 (pc := 44) dX6_passesOf_44 ?_
        refine V_callV4p (pc := 45) dX6_passesOf_45 kv_X6_359 rc_34 (by omega) (d - 1) (by omega) rfl (c_X6_alone (by omega) hM hW (by omega) (by omega) (by omega) (by omega)) ?_
        refine V_icmp_ne (pc := 48) 58 dX6_passesOf_48 (by decide) (by omega) (by omega) (fun c_48 => ?_) (fun c_48 => ?_)
        · refine V_iconst (pc := 58) dX6_passesOf_58 ?_
          first
            | refine V_ior_add (pc := 59) dX6_passesOf_59 (by assumption) ?_
            | refine V_ior_0 (pc := 59) dX6_passesOf_59 ?_
          refine V_istore_3 (pc := 60) dX6_passesOf_60 ?_
          refine V_iinc_4 (pc := 61) dX6_passesOf_61 ?_
          refine V_goto (pc := 64) 5 dX6_passesOf_64 (by decide) ?_
          refine V.sub (by simp only [subL, Option.some.injEq, Sum.inl.injEq, Sum.inr.injEq, reduceCtorEq, true_or, or_true, false_or, true_and, and_true]; first | (rw [hS_, bI_t (by omega)]; omega) | (rw [hS_, bI_f (by omega)]; omega)) ih
        · refine V_iconst (pc := 51) dX6_passesOf_51 ?_
          refine V_iload_4 (pc := 52) dX6_passesOf_52 ?_
          refine V_ishl_1 (pc := 54) dX6_passesOf_54 (by omega) ?_
          refine V_goto (pc := 55) 59 dX6_passesOf_55 (by decide) ?_
          first
            | refine V_ior_add (pc := 59) dX6_passesOf_59 (by assumption) ?_
            | refine V_ior_0 (pc := 59) dX6_passesOf_59 ?_
          refine V_istore_3 (pc := 60) dX6_passesOf_60 ?_
          refine V_iinc_4 (pc := 61) dX6_passesOf_61 ?_
          refine V_goto (pc := 64) 5 dX6_passesOf_64 (by decide) ?_
          refine V.sub (by simp only [subL, Option.some.injEq, Sum.inl.injEq, Sum.inr.injEq, reduceCtorEq, true_or, or_true, false_or, true_and, and_true]; first | (rw [hS_, bI_t (by omega)]; omega) | (rw [hS_, bI_f (by omega)]; omega)) ih
  refine V_iconst (pc := 0) dX6_passesOf_0 ?_
  refine V_istore_3 (pc := 1) dX6_passesOf_1 ?_
  refine V_iconst (pc := 2) dX6_passesOf_2 ?_
  refine V_istore_4 (pc := 3) dX6_passesOf_3 ?_
  exact loop 0 (by omega)

set_option maxRecDepth 20000 in
set_option maxHeartbeats 1000000 in
theorem c_X6_sortsOf {d : Nat} (hd : 2 ≤ d) {σ : MM} {B : BK} {s y : Int} (hM : MB σ 0 B) (hW : WB B) (hL : LD σ B B 0) (hS : SHM σ B B 0) (hs1 : 0 ≤ s ∧ s ≤ 2147483647) (hy : 0 ≤ y ∧ y ≤ B 1 0) : V yX6_sortsOf cX6_sortsOf 7 (some .int) d (QI (fun v σ' => v = SOR (fun e => bt s e = 1 ∧ B 13 e ≤ y) (SHD B (bt 0) y) (B 6 0).toNat ∧ σ' = σ)) 0 [some (vR 34 0), some (vI s), some (vI y), none, none, none, none] [] σ := by
  have hs := hW.s
  have hsh : ∀ e : Int, 0 ≤ e ∧ e < B 6 0 → 0 ≤ SHD B (bt 0) y e ∧ SHD B (bt 0) y e ≤ 60 := fun e he => SHD_in hW he
  have loop : ∀ i : Nat, i ≤ (B 6 0).toNat → V yX6_sortsOf cX6_sortsOf 7 (some .int) d (QI (fun v σ' => v = SOR (fun e => bt s e = 1 ∧ B 13 e ≤ y) (SHD B (bt 0) y) (B 6 0).toNat ∧ σ' = σ)) 5 [some (vR 34 0), some (vI (s)), some (vI (y)), some (vI (SOR (fun e => bt s e = 1 ∧ B 13 e ≤ y) (SHD B (bt 0) y) i)), some (vI (i : Int)), none, none] [] σ := by
    refine up_ind (P := fun i : Nat => V yX6_sortsOf cX6_sortsOf 7 (some .int) d (QI (fun v σ' => v = SOR (fun e => bt s e = 1 ∧ B 13 e ≤ y) (SHD B (bt 0) y) (B 6 0).toNat ∧ σ' = σ)) 5 [some (vR 34 0), some (vI (s)), some (vI (y)), some (vI (SOR (fun e => bt s e = 1 ∧ B 13 e ≤ y) (SHD B (bt 0) y) i)), some (vI (i : Int)), none, none] [] σ) ?_ ?_
    ·
      refine V_iload_4 (pc := 5) dX6_sortsOf_5 ?_
      refine V_aload_0 (pc := 7) dX6_sortsOf_7 ?_
      refine V_callV0p (pc := 8) dX6_sortsOf_8 kv_X6_236 rc_34 (by omega) (d - 1) (by omega) rfl (c_X6_entries (by omega) hM hW) ?_
      refine V_icmp_ge (pc := 11) 121 dX6_sortsOf_11 (by decide) (by omega) (by omega) (fun c_11 => ?_) (fun c_11 => ?_)
      · refine V_iload_3 (pc := 121) dX6_sortsOf_121 ?_
        refine V_iretI (pc := 122) dX6_sortsOf_122 rfl ?_
        exact ⟨_, rfl, by first | rfl | omega, rfl⟩
      · exact absurd c_11 (by omega)
    · intro i hi ih
      have hsi := hsh i (by omega)
      have hsb := suI_in (fun e => (fun e => bt s e = 1 ∧ B 13 e ≤ y) e ∧ fst (fun k => (fun e => bt s e = 1 ∧ B 13 e ≤ y) k ∧ (SHD B (bt 0) y) k = (SHD B (bt 0) y) e) e.toNat 0 = -1) i
      have hsb' : 0 ≤ SOR (fun e => bt s e = 1 ∧ B 13 e ≤ y) (SHD B (bt 0) y) i ∧ SOR (fun e => bt s e = 1 ∧ B 13 e ≤ y) (SHD B (bt 0) y) i ≤ i := hsb
      have hSo : SOR (fun e => bt s e = 1 ∧ B 13 e ≤ y) (SHD B (bt 0) y) (i + 1) = SOR (fun e => bt s e = 1 ∧ B 13 e ≤ y) (SHD B (bt 0) y) i + bI ((bt s i = 1 ∧ B 13 i ≤ y) ∧ fst (fun k => (bt s k = 1 ∧ B 13 k ≤ y) ∧ SHD B (bt 0) y k = SHD B (bt 0) y i) ((i : Int)).toNat 0 = -1) := rfl
      rw [show ((i : Int)).toNat = i by omega] at hSo
      have loop2 : ∀ j : Nat, j ≤ i → V yX6_sortsOf cX6_sortsOf 7 (some .int) d (QI (fun v σ' => v = SOR (fun e => bt s e = 1 ∧ B 13 e ≤ y) (SHD B (bt 0) y) (B 6 0).toNat ∧ σ' = σ)) 43 [some (vR 34 0), some (vI (s)), some (vI (y)), some (vI (SOR (fun e => bt s e = 1 ∧ B 13 e ≤ y) (SHD B (bt 0) y) i)), some (vI (i : Int)), some (vI (bI ((bt s i = 1 ∧ B 13 i ≤ y) ∧ fst (fun k => (bt s k = 1 ∧ B 13 k ≤ y) ∧ SHD B (bt 0) y k = SHD B (bt 0) y i) j 0 = -1))), some (vI (j : Int))] [] σ := by
        refine up_ind (P := fun j : Nat => V yX6_sortsOf cX6_sortsOf 7 (some .int) d (QI (fun v σ' => v = SOR (fun e => bt s e = 1 ∧ B 13 e ≤ y) (SHD B (bt 0) y) (B 6 0).toNat ∧ σ' = σ)) 43 [some (vR 34 0), some (vI (s)), some (vI (y)), some (vI (SOR (fun e => bt s e = 1 ∧ B 13 e ≤ y) (SHD B (bt 0) y) i)), some (vI (i : Int)), some (vI (bI ((bt s i = 1 ∧ B 13 i ≤ y) ∧ fst (fun k => (bt s k = 1 ∧ B 13 k ≤ y) ∧ SHD B (bt 0) y k = SHD B (bt 0) y i) j 0 = -1))), some (vI (j : Int))] [] σ) ?_ ?_
        · have hb01 := bI_01 ((bt s i = 1 ∧ B 13 i ≤ y) ∧ fst (fun k => (bt s k = 1 ∧ B 13 k ≤ y) ∧ SHD B (bt 0) y k = SHD B (bt 0) y i) i 0 = -1)
          refine V_iload_6 (pc := 43) dX6_sortsOf_43 ?_
          refine V_iload_4 (pc := 45) dX6_sortsOf_45 ?_
          refine V_icmp_ge (pc := 47) 102 dX6_sortsOf_47 (by decide) (by omega) (by omega) (fun c_47 => ?_) (fun c_47 => ?_)
          · refine V_iload_3 (pc := 102) dX6_sortsOf_102 ?_
            refine V_iload_5 (pc := 103) dX6_sortsOf_103 ?_
            refine V_if_eq (pc := 105) 112 dX6_sortsOf_105 (by decide) (by omega) (fun c_105 => ?_) (fun c_105 => ?_)
            · refine V_iconst (pc := 112) dX6_sortsOf_112 ?_
              refine V_iadd (pc := 113) dX6_sortsOf_113 ?_
              refine V_istore_3 (pc := 114) dX6_sortsOf_114 ?_
              refine V_iinc_4 (pc := 115) dX6_sortsOf_115 ?_
              refine V_goto (pc := 118) 5 dX6_sortsOf_118 (by decide) ?_
              refine V.sub (by simp only [subL, Option.some.injEq, Sum.inl.injEq, Sum.inr.injEq, reduceCtorEq, true_or, or_true, false_or, true_and, and_true]; rw [hSo]; refine ⟨?_, by omega⟩; omega) ih
            · refine V_iconst (pc := 108) dX6_sortsOf_108 ?_
              refine V_goto (pc := 109) 113 dX6_sortsOf_109 (by decide) ?_
              refine V_iadd (pc := 113) dX6_sortsOf_113 ?_
              refine V_istore_3 (pc := 114) dX6_sortsOf_114 ?_
              refine V_iinc_4 (pc := 115) dX6_sortsOf_115 ?_
              refine V_goto (pc := 118) 5 dX6_sortsOf_118 (by decide) ?_
              refine V.sub (by simp only [subL, Option.some.injEq, Sum.inl.injEq, Sum.inr.injEq, reduceCtorEq, true_or, or_true, false_or, true_and, and_true]; rw [hSo]; refine ⟨?_, by omega⟩; omega) ih
          · exact absurd c_47 (by omega)
        · intro j hj ih2
          have hsj := hsh j (by omega)
          have hb01 := bI_01 ((bt s i = 1 ∧ B 13 i ≤ y) ∧ fst (fun k => (bt s k = 1 ∧ B 13 k ≤ y) ∧ SHD B (bt 0) y k = SHD B (bt 0) y i) j 0 = -1)
          have hN : ¬ ((bt s j = 1 ∧ B 13 j ≤ y) ∧ SHD B (bt 0) y j = SHD B (bt 0) y i) → bI ((bt s i = 1 ∧ B 13 i ≤ y) ∧ fst (fun k => (bt s k = 1 ∧ B 13 k ≤ y) ∧ SHD B (bt 0) y k = SHD B (bt 0) y i) (j + 1) 0 = -1) = bI ((bt s i = 1 ∧ B 13 i ≤ y) ∧ fst (fun k => (bt s k = 1 ∧ B 13 k ≤ y) ∧ SHD B (bt 0) y k = SHD B (bt 0) y i) j 0 = -1) := fun h => bI_cong ⟨fun z => ⟨z.1, (fst_m1S.mp z.2).1⟩, fun z => ⟨z.1, fst_m1S.mpr ⟨z.2, h⟩⟩⟩
          have hY : ((bt s j = 1 ∧ B 13 j ≤ y) ∧ SHD B (bt 0) y j = SHD B (bt 0) y i) → bI ((bt s i = 1 ∧ B 13 i ≤ y) ∧ fst (fun k => (bt s k = 1 ∧ B 13 k ≤ y) ∧ SHD B (bt 0) y k = SHD B (bt 0) y i) (j + 1) 0 = -1) = 0 := fun h => bI_f (fun z => (fst_m1S.mp z.2).2 h)
          refine V_iload_6 (pc := 43) dX6_sortsOf_43 ?_
          refine V_iload_4 (pc := 45) dX6_sortsOf_45 ?_
          refine V_icmp_ge (pc := 47) 102 dX6_sortsOf_47 (by decide) (by omega) (by omega) (fun c_47 => ?_) (fun c_47 => ?_)
          · exact absurd c_47 (by omega)
          · refine V_iload_5 (pc := 50) dX6_sortsOf_50 ?_
            refine V_iload_1 (pc := 52) dX6_sortsOf_52 ?_
            refine V_iload_6 (pc := 53) dX6_sortsOf_53 ?_
            refine V_callS2p (pc := 55) dX6_sortsOf_55 kv_X6_273 (d - 1) (by omega) rfl (c_X6_isBit (by omega) (by omega) (by omega)) ?_
            refine V_if_eq_b (pc := 58) 88 dX6_sortsOf_58 (by decide) (fun c_58 => ?_) (fun c_58 => ?_)
            · refine V_iconst (pc := 88) dX6_sortsOf_88 ?_
              refine V_goto (pc := 89) 93 dX6_sortsOf_89 (by decide) ?_
              first
                | refine V_iand_1 (pc := 93) dX6_sortsOf_93 (by omega) ?_
                | refine V_iand (pc := 93) dX6_sortsOf_93 (v := 0) (bw_and0 _) ?_
              refine V_istore_5 (pc := 94) dX6_sortsOf_94 ?_
              refine V_iinc_6 (pc := 96) dX6_sortsOf_96 ?_
              refine V_goto (pc := 99) 43 dX6_sortsOf_99 (by decide) ?_
              refine V.sub (by simp only [subL, Option.some.injEq, Sum.inl.injEq, Sum.inr.injEq, reduceCtorEq, true_or, or_true, false_or, true_and, and_true]; refine ⟨?_, by omega⟩; first | (rw [hN (fun z => absurd z.1.1 (by assumption))]; omega) | (rw [hN (fun z => absurd z.1.2 (by assumption))]; omega) | (rw [hN (fun z => absurd z.2 (by assumption))]; omega) | exact hY ⟨⟨by assumption, by assumption⟩, by assumption⟩) ih2
            · refine V_aload_0 (pc := 61) dX6_sortsOf_61 ?_
              refine V_iload_6 (pc := 62) dX6_sortsOf_62 ?_
              refine V_iload_2 (pc := 64) dX6_sortsOf_64 ?_
              refine V_callV2p (pc := 65) dX6_sortsOf_65 kv_X6_293 rc_34 (by omega) (d - 1) (by omega) rfl (c_X6_isThere (by omega) hM hW hL (by omega) (by omega)) ?_
              refine V_if_eq_b (pc := 68) 88 dX6_sortsOf_68 (by decide) (fun c_68 => ?_) (fun c_68 => ?_)
              · refine V_iconst (pc := 88) dX6_sortsOf_88 ?_
                refine V_goto (pc := 89) 93 dX6_sortsOf_89 (by decide) ?_
                first
                  | refine V_iand_1 (pc := 93) dX6_sortsOf_93 (by omega) ?_
                  | refine V_iand (pc := 93) dX6_sortsOf_93 (v := 0) (bw_and0 _) ?_
                refine V_istore_5 (pc := 94) dX6_sortsOf_94 ?_
                refine V_iinc_6 (pc := 96) dX6_sortsOf_96 ?_
                refine V_goto (pc := 99) 43 dX6_sortsOf_99 (by decide) ?_
                refine V.sub (by simp only [subL, Option.some.injEq, Sum.inl.injEq, Sum.inr.injEq, reduceCtorEq, true_or, or_true, false_or, true_and, and_true]; refine ⟨?_, by omega⟩; first | (rw [hN (fun z => absurd z.1.1 (by assumption))]; omega) | (rw [hN (fun z => absurd z.1.2 (by assumption))]; omega) | (rw [hN (fun z => absurd z.2 (by assumption))]; omega) | exact hY ⟨⟨by assumption, by assumption⟩, by assumption⟩) ih2
              · refine V_aload_0 (pc := 71) dX6_sortsOf_71 ?_
                refine V_iload_6 (pc := 72) dX6_sortsOf_72 ?_
                refine V_iload_2 (pc := 74) dX6_sortsOf_74 ?_
                refine V_callV2p (pc := 75) dX6_sortsOf_75 kv_X6_283 rc_34 (by omega) (d - 1) (by omega) rfl (c_X6_shadeOf (by omega) (by omega) (by omega) (hS.s (by omega) (by omega))) ?_
                refine V_aload_0 (pc := 78) dX6_sortsOf_78 ?_
                refine V_iload_4 (pc := 79) dX6_sortsOf_79 ?_
                refine V_iload_2 (pc := 81) dX6_sortsOf_81 ?_
                refine V_callV2p (pc := 82) dX6_sortsOf_82 kv_X6_283 rc_34 (by omega) (d - 1) (by omega) rfl (c_X6_shadeOf (by omega) (by omega) (by omega) (hS.s (by omega) (by omega))) ?_
                refine V_icmp_eq (pc := 85) 92 dX6_sortsOf_85 (by decide) (by omega) (by omega) (fun c_85 => ?_) (fun c_85 => ?_)
                · refine V_iconst (pc := 92) dX6_sortsOf_92 ?_
                  first
                    | refine V_iand_1 (pc := 93) dX6_sortsOf_93 (by omega) ?_
                    | refine V_iand (pc := 93) dX6_sortsOf_93 (v := 0) (bw_and0 _) ?_
                  refine V_istore_5 (pc := 94) dX6_sortsOf_94 ?_
                  refine V_iinc_6 (pc := 96) dX6_sortsOf_96 ?_
                  refine V_goto (pc := 99) 43 dX6_sortsOf_99 (by decide) ?_
                  refine V.sub (by simp only [subL, Option.some.injEq, Sum.inl.injEq, Sum.inr.injEq, reduceCtorEq, true_or, or_true, false_or, true_and, and_true]; refine ⟨?_, by omega⟩; first | (rw [hN (fun z => absurd z.1.1 (by assumption))]; omega) | (rw [hN (fun z => absurd z.1.2 (by assumption))]; omega) | (rw [hN (fun z => absurd z.2 (by assumption))]; omega) | exact hY ⟨⟨by assumption, by assumption⟩, by assumption⟩) ih2
                · refine V_iconst (pc := 88) dX6_sortsOf_88 ?_
                  refine V_goto (pc := 89) 93 dX6_sortsOf_89 (by decide) ?_
                  first
                    | refine V_iand_1 (pc := 93) dX6_sortsOf_93 (by omega) ?_
                    | refine V_iand (pc := 93) dX6_sortsOf_93 (v := 0) (bw_and0 _) ?_
                  refine V_istore_5 (pc := 94) dX6_sortsOf_94 ?_
                  refine V_iinc_6 (pc := 96) dX6_sortsOf_96 ?_
                  refine V_goto (pc := 99) 43 dX6_sortsOf_99 (by decide) ?_
                  refine V.sub (by simp only [subL, Option.some.injEq, Sum.inl.injEq, Sum.inr.injEq, reduceCtorEq, true_or, or_true, false_or, true_and, and_true]; refine ⟨?_, by omega⟩; first | (rw [hN (fun z => absurd z.1.1 (by assumption))]; omega) | (rw [hN (fun z => absurd z.1.2 (by assumption))]; omega) | (rw [hN (fun z => absurd z.2 (by assumption))]; omega) | exact hY ⟨⟨by assumption, by assumption⟩, by assumption⟩) ih2
      refine V_iload_4 (pc := 5) dX6_sortsOf_5 ?_
      refine V_aload_0 (pc := 7) dX6_sortsOf_7 ?_
      refine V_callV0p (pc := 8) dX6_sortsOf_8 kv_X6_236 rc_34 (by omega) (d - 1) (by omega) rfl (c_X6_entries (by omega) hM hW) ?_
      refine V_icmp_ge (pc := 11) 121 dX6_sortsOf_11 (by decide) (by omega) (by omega) (fun c_11 => ?_) (fun c_11 => ?_)
      · exact absurd c_11 (by omega)
      · refine V_iload_1 (pc := 14) dX6_sortsOf_14 ?_
        refine V_iload_4 (pc := 15) dX6_sortsOf_15 ?_
        refine V_callS2p (pc := 17) dX6_sortsOf_17 kv_X6_273 (d - 1) (by omega) rfl (c_X6_isBit (by omega) (by omega) (by omega)) ?_
        refine V_if_eq_b (pc := 20) 37 dX6_sortsOf_20 (by decide) (fun c_20 => ?_) (fun c_20 => ?_)
        · refine V_iconst (pc := 37) dX6_sortsOf_37 ?_
          refine V_istore_5 (pc := 38) dX6_sortsOf_38 ?_
          refine V_iconst (pc := 40) dX6_sortsOf_40 ?_
          refine V_istore_6 (pc := 41) dX6_sortsOf_41 ?_
          refine V.sub (by simp only [subL, Option.some.injEq, Sum.inl.injEq, Sum.inr.injEq, reduceCtorEq, true_or, or_true, false_or, true_and, and_true]; refine ⟨?_, rfl⟩; first | exact bI_t ⟨⟨by assumption, by assumption⟩, rfl⟩ | exact bI_f (fun q => absurd q.1.1 (by assumption)) | exact bI_f (fun q => absurd q.1.2 (by assumption))) (loop2 0 (by omega))
        · refine V_aload_0 (pc := 23) dX6_sortsOf_23 ?_
          refine V_iload_4 (pc := 24) dX6_sortsOf_24 ?_
          refine V_iload_2 (pc := 26) dX6_sortsOf_26 ?_
          refine V_callV2p (pc := 27) dX6_sortsOf_27 kv_X6_293 rc_34 (by omega) (d - 1) (by omega) rfl (c_X6_isThere (by omega) hM hW hL (by omega) (by omega)) ?_
          refine V_if_eq_b (pc := 30) 37 dX6_sortsOf_30 (by decide) (fun c_30 => ?_) (fun c_30 => ?_)
          · refine V_iconst (pc := 37) dX6_sortsOf_37 ?_
            refine V_istore_5 (pc := 38) dX6_sortsOf_38 ?_
            refine V_iconst (pc := 40) dX6_sortsOf_40 ?_
            refine V_istore_6 (pc := 41) dX6_sortsOf_41 ?_
            refine V.sub (by simp only [subL, Option.some.injEq, Sum.inl.injEq, Sum.inr.injEq, reduceCtorEq, true_or, or_true, false_or, true_and, and_true]; refine ⟨?_, rfl⟩; first | exact bI_t ⟨⟨by assumption, by assumption⟩, rfl⟩ | exact bI_f (fun q => absurd q.1.1 (by assumption)) | exact bI_f (fun q => absurd q.1.2 (by assumption))) (loop2 0 (by omega))
          · refine V_iconst (pc := 33) dX6_sortsOf_33 ?_
            refine V_goto (pc := 34) 38 dX6_sortsOf_34 (by decide) ?_
            refine V_istore_5 (pc := 38) dX6_sortsOf_38 ?_
            refine V_iconst (pc := 40) dX6_sortsOf_40 ?_
            refine V_istore_6 (pc := 41) dX6_sortsOf_41 ?_
            refine V.sub (by simp only [subL, Option.some.injEq, Sum.inl.injEq, Sum.inr.injEq, reduceCtorEq, true_or, or_true, false_or, true_and, and_true]; refine ⟨?_, rfl⟩; first | exact bI_t ⟨⟨by assumption, by assumption⟩, rfl⟩ | exact bI_f (fun q => absurd q.1.1 (by assumption)) | exact bI_f (fun q => absurd q.1.2 (by assumption))) (loop2 0 (by omega))
  refine V_iconst (pc := 0) dX6_sortsOf_0 ?_
  refine V_istore_3 (pc := 1) dX6_sortsOf_1 ?_
  refine V_iconst (pc := 2) dX6_sortsOf_2 ?_
  refine V_istore_4 (pc := 3) dX6_sortsOf_3 ?_
  exact loop 0 (by omega)
