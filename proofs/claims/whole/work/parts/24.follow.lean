set_option maxRecDepth 20000 in
set_option maxHeartbeats 1000000 in
theorem c_X2_follow {d : Nat} (hd : 5 ≤ d) {σ : MM} {j b wet : Int} {B : BK} (hj : 0 ≤ j ∧ j < 2) (hb : 0 ≤ b ∧ b < 6) (hB : CB σ b B) (hW : WB B) (hwet : 0 ≤ wet ∧ wet ≤ 2147483647) : V yX2_follow cX2_follow 4 none d (QZ (fun σ' => CK σ' j B (bt wet) ∧ OffC j σ σ')) 0 [some (vR 18 j), some (vR 3 b), some (vI wet), none] [] σ := by
  have hs := hW.s
  have hT := TB_YS hW (w := bt wet) (fun k _ => bt_01 wet k)
  have loop : ∀ i : Nat, i ≤ (B 1 0 + 1).toNat → ∀ σi, (∀ n : Nat, n < i → RK σi j n B (YS B (bt wet) n)) → OffC j σ σi → V yX2_follow cX2_follow 4 none d (QZ (fun σ' => CK σ' j B (bt wet) ∧ OffC j σ σ')) 2 [some (vR 18 j), some (vR 3 b), some (vI wet), some (vI (i : Int))] [] σi := by
    refine up_ind (P := fun i : Nat => ∀ σi, (∀ n : Nat, n < i → RK σi j n B (YS B (bt wet) n)) → OffC j σ σi → V yX2_follow cX2_follow 4 none d (QZ (fun σ' => CK σ' j B (bt wet) ∧ OffC j σ σ')) 2 [some (vR 18 j), some (vR 3 b), some (vI wet), some (vI (i : Int))] [] σi) ?_ ?_
    · intro σi hc hO
      have hBi := hO.CB hB
      refine V_iload_3 (pc := 2) dX2_follow_2 ?_
      refine V_aload_1 (pc := 3) dX2_follow_3 ?_
      refine V_geti (pc := 4) dX2_follow_4 gf_X2_23 (by omega) hBi.s1 ?_
      refine V_icmp_gt (pc := 7) 41 dX2_follow_7 (by decide) (by omega) (by omega) (fun c_7 => ?_) (fun c_7 => ?_)
      · refine V_vret (pc := 41) dX2_follow_41 rfl ?_
        exact ⟨rfl, fun n hn => hc n (by omega), hO⟩
      · exact absurd c_7 (by omega)
    · intro i hi ih σi hc hO
      have hBi := hO.CB hB
      have hyw : 0 < (i : Int) → YW (bt wet) i = bt wet ((i : Int) - 1) := by
        intro q
        cases i with
        | zero => omega
        | succ n => rw [show ((n + 1 : Nat) : Int) - 1 = n by omega]; rfl
      refine V_iload_3 (pc := 2) dX2_follow_2 ?_
      refine V_aload_1 (pc := 3) dX2_follow_3 ?_
      refine V_geti (pc := 4) dX2_follow_4 gf_X2_23 (by omega) hBi.s1 ?_
      refine V_icmp_gt (pc := 7) 41 dX2_follow_7 (by decide) (by omega) (by omega) (fun c_7 => ?_) (fun c_7 => ?_)
      · exact absurd c_7 (by omega)
      · refine V_aload_0 (pc := 10) dX2_follow_10 ?_
        refine V_aload_1 (pc := 11) dX2_follow_11 ?_
        refine V_iload_3 (pc := 12) dX2_follow_12 ?_
        refine V_iload_3 (pc := 13) dX2_follow_13 ?_
        refine V_if_le (pc := 14) 31 dX2_follow_14 (by decide) (by omega) (fun c_14 => ?_) (fun c_14 => ?_)
        · refine V_iconst (pc := 31) dX2_follow_31 ?_
          refine V_callV3z (pc := 32) dX2_follow_32 kv_X2_33 rc_18 (by omega) (d - 1) (by omega) rfl (c_X2_pass (by omega) (P := YP B (bt wet) i) hj hb hBi hW (by omega) (by omega) (YP_ok hT hc)) (fun σ_32 h_32 => ?_)
          refine V_iinc_3 (pc := 35) dX2_follow_35 ?_
          refine V_goto (pc := 38) 2 dX2_follow_38 (by decide) ?_
          refine V.sub (by simp only [subL, Option.some.injEq, Sum.inl.injEq, reduceCtorEq, true_or, or_true, false_or, true_and, and_true]; omega) (ih σ_32 (CK_step hc (by omega) h_32.1 h_32.2 (by rw [show i = 0 by omega]; rfl)) (hO.tr (h_32.2.C (by omega))))
        · refine V_iload_2 (pc := 17) dX2_follow_17 ?_
          refine V_iload_3 (pc := 18) dX2_follow_18 ?_
          refine V_iconst (pc := 19) dX2_follow_19 ?_
          refine V_isub (pc := 20) dX2_follow_20 ?_
          refine V_callN2p (pc := 21) dX2_follow_21 rfl rfl kc_X5_hasBit kv_X5_233.2.2 (d - 1) (by omega) rfl (c_X5_hasBit (by omega) hwet (by omega)) ?_
          refine V_if_eq_b (pc := 24) 31 dX2_follow_24 (by decide) (fun c_24 => ?_) (fun c_24 => ?_)
          · refine V_iconst (pc := 31) dX2_follow_31 ?_
            refine V_callV3z (pc := 32) dX2_follow_32 kv_X2_33 rc_18 (by omega) (d - 1) (by omega) rfl (c_X2_pass (by omega) (P := YP B (bt wet) i) hj hb hBi hW (by omega) (by omega) (YP_ok hT hc)) (fun σ_32 h_32 => ?_)
            refine V_iinc_3 (pc := 35) dX2_follow_35 ?_
            refine V_goto (pc := 38) 2 dX2_follow_38 (by decide) ?_
            refine V.sub (by simp only [subL, Option.some.injEq, Sum.inl.injEq, reduceCtorEq, true_or, or_true, false_or, true_and, and_true]; omega) (ih σ_32 (CK_step hc (by omega) h_32.1 h_32.2 (by rw [hyw (by omega)]; rcases bt_01 wet ((i : Int) - 1) with q | q; exact q.symm; exact absurd q c_24)) (hO.tr (h_32.2.C (by omega))))
          · refine V_iconst (pc := 27) dX2_follow_27 ?_
            refine V_goto (pc := 28) 32 dX2_follow_28 (by decide) ?_
            refine V_callV3z (pc := 32) dX2_follow_32 kv_X2_33 rc_18 (by omega) (d - 1) (by omega) rfl (c_X2_pass (by omega) (P := YP B (bt wet) i) hj hb hBi hW (by omega) (by omega) (YP_ok hT hc)) (fun σ_32 h_32 => ?_)
            refine V_iinc_3 (pc := 35) dX2_follow_35 ?_
            refine V_goto (pc := 38) 2 dX2_follow_38 (by decide) ?_
            refine V.sub (by simp only [subL, Option.some.injEq, Sum.inl.injEq, reduceCtorEq, true_or, or_true, false_or, true_and, and_true]; omega) (ih σ_32 (CK_step hc (by omega) h_32.1 h_32.2 (by rw [hyw (by omega)]; exact c_24.symm)) (hO.tr (h_32.2.C (by omega))))
  refine V_iconst (pc := 0) dX2_follow_0 ?_
  refine V_istore_3 (pc := 1) dX2_follow_1 ?_
  refine V.sub (by simp only [subL, Option.some.injEq, Sum.inl.injEq, reduceCtorEq, true_or, or_true, false_or, true_and, and_true]; rfl) (loop 0 (by omega) σ (fun n hn => absurd hn (by omega)) OffC.rf)

set_option maxRecDepth 20000 in
set_option maxHeartbeats 1000000 in
theorem c_X2_total {d : Nat} (hd : 0 ≤ d) {σ : MM} {j b y : Int} {B T : BK} (hj : 0 ≤ j ∧ j < 2) (hb : 0 ≤ b ∧ b < 6) (hB : CB σ b B) (hW : WB B) (hy : 0 ≤ y ∧ y < 21) (hK : RK σ j y B T) : V yX2_total cX2_total 5 (some .int) d (QI (fun v σ' => v = ALS B T ∧ σ' = σ)) 0 [some (vR 18 j), some (vR 3 b), some (vI y), none, none] [] σ := by
  have hs := hW.s
  have loop : ∀ i : Nat, i ≤ (B 6 0).toNat → V yX2_total cX2_total 5 (some .int) d (QI (fun v σ' => v = ALS B T ∧ σ' = σ)) 5 [some (vR 18 j), some (vR 3 b), some (vI y), some (vI (sumN (T 0) i)), some (vI (i : Int))] [] σ := by
    refine up_ind (P := fun i : Nat => V yX2_total cX2_total 5 (some .int) d (QI (fun v σ' => v = ALS B T ∧ σ' = σ)) 5 [some (vR 18 j), some (vR 3 b), some (vI y), some (vI (sumN (T 0) i)), some (vI (i : Int))] [] σ) ?_ ?_
    ·
      refine V_iload_4 (pc := 5) dX2_total_5 ?_
      refine V_aload_1 (pc := 7) dX2_total_7 ?_
      refine V_geti (pc := 8) dX2_total_8 gf_X2_37 (by omega) hB.s6 ?_
      refine V_icmp_ge (pc := 11) 32 dX2_total_11 (by decide) (by omega) (by omega) (fun c_11 => ?_) (fun c_11 => ?_)
      · refine V_iload_3 (pc := 32) dX2_total_32 ?_
        refine V_iretI (pc := 33) dX2_total_33 rfl ?_
        exact ⟨_, rfl, rfl, rfl⟩
      · exact absurd c_11 (by omega)
    · intro i hi ih
      refine V_iload_4 (pc := 5) dX2_total_5 ?_
      refine V_aload_1 (pc := 7) dX2_total_7 ?_
      refine V_geti (pc := 8) dX2_total_8 gf_X2_37 (by omega) hB.s6 ?_
      refine V_icmp_ge (pc := 11) 32 dX2_total_11 (by decide) (by omega) (by omega) (fun c_11 => ?_) (fun c_11 => ?_)
      · exact absurd c_11 (by omega)
      · refine V_iload_3 (pc := 14) dX2_total_14 ?_
        refine V_aload_0 (pc := 15) dX2_total_15 ?_
        refine V_gets (pc := 16) dX2_total_16 gf_X2_11 (by omega) ?_
        refine V_iload_2 (pc := 19) dX2_total_19 ?_
        refine V_aald_19 (pc := 20) dX2_total_20 (by omega) (by omega) ?_
        refine V_iload_4 (pc := 21) dX2_total_21 ?_
        refine V_iald (pc := 23) dX2_total_23 sh_22 (by omega) (by omega) ((RS_0 σ j y i).symm.trans (hK.2.1 i (by omega)).1) ?_
        refine V_iadd (pc := 24) dX2_total_24 ?_
        refine V_istore_3 (pc := 25) dX2_total_25 ?_
        refine V_iinc_4 (pc := 26) dX2_total_26 ?_
        refine V_goto (pc := 29) 5 dX2_total_29 (by decide) ?_
        refine V.sub (by simp only [subL, Option.some.injEq, Sum.inl.injEq, reduceCtorEq, true_or, or_true, false_or, true_and, and_true]; exact ⟨rfl, by omega⟩) ih
  refine V_iconst (pc := 0) dX2_total_0 ?_
  refine V_istore_3 (pc := 1) dX2_total_1 ?_
  refine V_iconst (pc := 2) dX2_total_2 ?_
  refine V_istore_4 (pc := 3) dX2_total_3 ?_
  exact loop 0 (by omega)
