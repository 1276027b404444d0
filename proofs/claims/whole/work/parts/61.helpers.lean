set_option maxRecDepth 20000 in
set_option maxHeartbeats 1000000 in
theorem c_X6_in {d : Nat} (hd : 0 ≤ d) {σ : MM} {x lo hi : Int} (hx : LR x) (hlo : LR lo) (hhi : LR hi) : V yX6_in cX6_in 6 (some .boolean) d (QI (fun v σ' => v = bI (lo ≤ x ∧ x ≤ hi) ∧ σ' = σ)) 0 [some (vL x), none, some (vL lo), none, some (vL hi), none] [] σ := by
  have z1 := cmpZ_in x lo
  have z2 := cmpZ_in x hi
  refine V_lload_0 (pc := 0) dX6_in_0 ?_
  refine V_lload_2 (pc := 1) dX6_in_1 ?_
  refine V_lcmp (pc := 2) dX6_in_2 (by omega) (by omega) ?_
  refine V_if_lt (pc := 3) 17 dX6_in_3 (by decide) (by omega) (fun c_3 => ?_) (fun c_3 => ?_)
  · refine V_iconst (pc := 17) dX6_in_17 ?_
    refine V_iretZ (pc := 18) dX6_in_18 rfl (by omega) ?_
    exact ⟨_, rfl, by first | exact (bI_t (by omega)).symm | exact (bI_f (by omega)).symm, rfl⟩
  · refine V_lload_0 (pc := 6) dX6_in_6 ?_
    refine V_lload_4 (pc := 7) dX6_in_7 ?_
    refine V_lcmp (pc := 9) dX6_in_9 (by omega) (by omega) ?_
    refine V_if_gt (pc := 10) 17 dX6_in_10 (by decide) (by omega) (fun c_10 => ?_) (fun c_10 => ?_)
    · refine V_iconst (pc := 17) dX6_in_17 ?_
      refine V_iretZ (pc := 18) dX6_in_18 rfl (by omega) ?_
      exact ⟨_, rfl, by first | exact (bI_t (by omega)).symm | exact (bI_f (by omega)).symm, rfl⟩
    · refine V_iconst (pc := 13) dX6_in_13 ?_
      refine V_goto (pc := 14) 18 dX6_in_14 (by decide) ?_
      refine V_iretZ (pc := 18) dX6_in_18 rfl (by omega) ?_
      exact ⟨_, rfl, by first | exact (bI_t (by omega)).symm | exact (bI_f (by omega)).symm, rfl⟩

set_option maxRecDepth 20000 in
set_option maxHeartbeats 1000000 in
theorem c_X6_isSlot {d : Nat} (hd : 1 ≤ d) {σ : MM} {x : Int} (hx : IR x) : V yX6_isSlot cX6_isSlot 1 (some .boolean) d (QI (fun v σ' => v = bI (0 ≤ x ∧ x < 4) ∧ σ' = σ)) 0 [some (vI x)] [] σ := by
  refine V_iload_0 (pc := 0) dX6_isSlot_0 ?_
  refine V_i2l (pc := 1) dX6_isSlot_1 (by omega) ?_
  refine V_lconst (pc := 2) dX6_isSlot_2 (z := 0) rfl ?_
  refine V_ldc2 (pc := 3) dX6_isSlot_3 (z := 3) ldc_X6_77 ?_
  refine V_callS3p (pc := 6) dX6_isSlot_6 kv_X6_79 (d - 1) (by omega) rfl (c_X6_in (by omega) (by omega) (by omega) (by omega)) ?_
  refine V_iretZ (pc := 9) dX6_isSlot_9 rfl (by first | omega | exact bI_01 _) ?_
  exact ⟨_, rfl, by first | exact bI_cong (by omega) | exact (bI_t (by omega)).symm | exact (bI_f (by omega)).symm | rfl, rfl⟩

set_option maxRecDepth 20000 in
set_option maxHeartbeats 1000000 in
theorem c_X6_isHalf {d : Nat} (hd : 1 ≤ d) {σ : MM} {x : Int} (hx : IR x) : V yX6_isHalf cX6_isHalf 1 (some .boolean) d (QI (fun v σ' => v = bI (x = 0 ∨ x = 1) ∧ σ' = σ)) 0 [some (vI x)] [] σ := by
  refine V_iload_0 (pc := 0) dX6_isHalf_0 ?_
  refine V_i2l (pc := 1) dX6_isHalf_1 (by omega) ?_
  refine V_lconst (pc := 2) dX6_isHalf_2 (z := 0) rfl ?_
  refine V_lconst (pc := 3) dX6_isHalf_3 (z := 1) rfl ?_
  refine V_callS3p (pc := 4) dX6_isHalf_4 kv_X6_79 (d - 1) (by omega) rfl (c_X6_in (by omega) (by omega) (by omega) (by omega)) ?_
  refine V_iretZ (pc := 7) dX6_isHalf_7 rfl (by first | omega | exact bI_01 _) ?_
  exact ⟨_, rfl, by first | exact bI_cong (by omega) | exact (bI_t (by omega)).symm | exact (bI_f (by omega)).symm | rfl, rfl⟩

set_option maxRecDepth 20000 in
set_option maxHeartbeats 1000000 in
theorem c_X6_isSeed {d : Nat} (hd : 1 ≤ d) {σ : MM} {x : Int} (hx : IR x) : V yX6_isSeed cX6_isSeed 1 (some .boolean) d (QI (fun v σ' => v = bI (0 ≤ x ∧ x ≤ 2000000000) ∧ σ' = σ)) 0 [some (vI x)] [] σ := by
  refine V_iload_0 (pc := 0) dX6_isSeed_0 ?_
  refine V_i2l (pc := 1) dX6_isSeed_1 (by omega) ?_
  refine V_lconst (pc := 2) dX6_isSeed_2 (z := 0) rfl ?_
  refine V_ldc2 (pc := 3) dX6_isSeed_3 (z := 2000000000) ldc_X6_443 ?_
  refine V_callS3p (pc := 6) dX6_isSeed_6 kv_X6_79 (d - 1) (by omega) rfl (c_X6_in (by omega) (by omega) (by omega) (by omega)) ?_
  refine V_iretZ (pc := 9) dX6_isSeed_9 rfl (by first | omega | exact bI_01 _) ?_
  exact ⟨_, rfl, by first | exact bI_cong (by omega) | exact (bI_t (by omega)).symm | exact (bI_f (by omega)).symm | rfl, rfl⟩

set_option maxRecDepth 20000 in
set_option maxHeartbeats 1000000 in
theorem c_X6_lessOf {d : Nat} (hd : 0 ≤ d) {σ : MM} {x y : Int} (hx : IR x) (hy : IR y) : V yX6_lessOf cX6_lessOf 2 (some .int) d (QI (fun v σ' => v = min x y ∧ σ' = σ)) 0 [some (vI x), some (vI y)] [] σ := by
  refine V_iload_0 (pc := 0) dX6_lessOf_0 ?_
  refine V_iload_1 (pc := 1) dX6_lessOf_1 ?_
  refine V_icmp_ge (pc := 2) 9 dX6_lessOf_2 (by decide) (by omega) (by omega) (fun c_2 => ?_) (fun c_2 => ?_)
  · refine V_iload_1 (pc := 9) dX6_lessOf_9 ?_
    refine V_iretI (pc := 10) dX6_lessOf_10 rfl ?_
    exact ⟨_, rfl, by omega, rfl⟩
  · refine V_iload_0 (pc := 5) dX6_lessOf_5 ?_
    refine V_goto (pc := 6) 10 dX6_lessOf_6 (by decide) ?_
    refine V_iretI (pc := 10) dX6_lessOf_10 rfl ?_
    exact ⟨_, rfl, by omega, rfl⟩

set_option maxRecDepth 20000 in
set_option maxHeartbeats 1000000 in
theorem c_X6_moreOf {d : Nat} (hd : 0 ≤ d) {σ : MM} {x y : Int} (hx : IR x) (hy : IR y) : V yX6_moreOf cX6_moreOf 2 (some .int) d (QI (fun v σ' => v = max x y ∧ σ' = σ)) 0 [some (vI x), some (vI y)] [] σ := by
  refine V_iload_0 (pc := 0) dX6_moreOf_0 ?_
  refine V_iload_1 (pc := 1) dX6_moreOf_1 ?_
  refine V_icmp_le (pc := 2) 9 dX6_moreOf_2 (by decide) (by omega) (by omega) (fun c_2 => ?_) (fun c_2 => ?_)
  · refine V_iload_1 (pc := 9) dX6_moreOf_9 ?_
    refine V_iretI (pc := 10) dX6_moreOf_10 rfl ?_
    exact ⟨_, rfl, by omega, rfl⟩
  · refine V_iload_0 (pc := 5) dX6_moreOf_5 ?_
    refine V_goto (pc := 6) 10 dX6_moreOf_6 (by decide) ?_
    refine V_iretI (pc := 10) dX6_moreOf_10 rfl ?_
    exact ⟨_, rfl, by omega, rfl⟩

set_option maxRecDepth 20000 in
set_option maxHeartbeats 1000000 in
theorem c_X6_isBit {d : Nat} (hd : 0 ≤ d) {σ : MM} {r i : Int} (hr : 0 ≤ r ∧ r ≤ 2147483647) (hi : 0 ≤ i ∧ i < 31) : V yX6_isBit cX6_isBit 2 (some .boolean) d (QI (fun v σ' => v = bI (bt r i = 1) ∧ σ' = σ)) 0 [some (vI r), some (vI i)] [] σ := by
  have hb : r / p2 i % 2 = bt r i := rfl
  have hd : 0 ≤ r / p2 i := Int.ediv_nonneg hr.1 (by have := p2_pos i; omega)
  refine V_iload_0 (pc := 0) dX6_isBit_0 ?_
  refine V_iload_1 (pc := 1) dX6_isBit_1 ?_
  refine V_ishr_p (pc := 2) dX6_isBit_2 (by omega) (by omega) ?_
  refine V_iconst (pc := 3) dX6_isBit_3 ?_
  refine V_iand_1 (pc := 4) dX6_isBit_4 (by omega) ?_
  refine V_iconst (pc := 5) dX6_isBit_5 ?_
  refine V_icmp_ne (pc := 6) 13 dX6_isBit_6 (by decide) (by omega) (by omega) (fun c_6 => ?_) (fun c_6 => ?_)
  · refine V_iconst (pc := 13) dX6_isBit_13 ?_
    refine V_iretZ (pc := 14) dX6_isBit_14 rfl (by omega) ?_
    exact ⟨_, rfl, by first | exact (bI_t (by omega)).symm | exact (bI_f (by omega)).symm, rfl⟩
  · refine V_iconst (pc := 9) dX6_isBit_9 ?_
    refine V_goto (pc := 10) 14 dX6_isBit_10 (by decide) ?_
    refine V_iretZ (pc := 14) dX6_isBit_14 rfl (by omega) ?_
    exact ⟨_, rfl, by first | exact (bI_t (by omega)).symm | exact (bI_f (by omega)).symm, rfl⟩

set_option maxRecDepth 20000 in
set_option maxHeartbeats 1000000 in
theorem c_X6_fadeBy {d : Nat} (hd : 0 ≤ d) {σ : MM} {l f dm w y : Int} (hl : 0 ≤ l ∧ l ≤ 3) (hf : 0 ≤ f ∧ f ≤ 9) (hd0 : 0 ≤ dm ∧ dm ≤ 1) (hw : w = 0 ∨ w = 1) (hy : 0 ≤ y ∧ y ≤ 1000) : V yX6_fadeBy cX6_fadeBy 5 (some .int) d (QI (fun v σ' => v = (if l = 3 ∧ y % 2 = 1 then 0 else (if l = 1 ∧ dm = 1 then f * 2 else f) + 2 * w) ∧ σ' = σ)) 0 [some (vI l), some (vI f), some (vI dm), some (vI w), some (vI y)] [] σ := by
  refine V_iload_0 (pc := 0) dX6_fadeBy_0 ?_
  refine V_iconst (pc := 1) dX6_fadeBy_1 ?_
  refine V_icmp_ne (pc := 2) 15 dX6_fadeBy_2 (by decide) (by omega) (by omega) (fun c_2 => ?_) (fun c_2 => ?_)
  · refine V_iload_1 (pc := 15) dX6_fadeBy_15 ?_
    refine V_iload_0 (pc := 16) dX6_fadeBy_16 ?_
    refine V_iconst (pc := 17) dX6_fadeBy_17 ?_
    refine V_icmp_ne (pc := 18) 30 dX6_fadeBy_18 (by decide) (by omega) (by omega) (fun c_18 => ?_) (fun c_18 => ?_)
    · refine V_iconst (pc := 30) dX6_fadeBy_30 ?_
      refine V_imul (pc := 31) dX6_fadeBy_31 ?_
      refine V_iconst (pc := 32) dX6_fadeBy_32 ?_
      refine V_iload_3 (pc := 33) dX6_fadeBy_33 ?_
      refine V_imul (pc := 34) dX6_fadeBy_34 ?_
      refine V_iadd (pc := 35) dX6_fadeBy_35 ?_
      refine V_iretI (pc := 36) dX6_fadeBy_36 rfl ?_
      exact ⟨_, rfl, by (repeat' split) <;> first | rfl | omega, rfl⟩
    · refine V_iload_2 (pc := 21) dX6_fadeBy_21 ?_
      refine V_iconst (pc := 22) dX6_fadeBy_22 ?_
      refine V_icmp_ne (pc := 23) 30 dX6_fadeBy_23 (by decide) (by omega) (by omega) (fun c_23 => ?_) (fun c_23 => ?_)
      · refine V_iconst (pc := 30) dX6_fadeBy_30 ?_
        refine V_imul (pc := 31) dX6_fadeBy_31 ?_
        refine V_iconst (pc := 32) dX6_fadeBy_32 ?_
        refine V_iload_3 (pc := 33) dX6_fadeBy_33 ?_
        refine V_imul (pc := 34) dX6_fadeBy_34 ?_
        refine V_iadd (pc := 35) dX6_fadeBy_35 ?_
        refine V_iretI (pc := 36) dX6_fadeBy_36 rfl ?_
        exact ⟨_, rfl, by (repeat' split) <;> first | rfl | omega, rfl⟩
      · refine V_iconst (pc := 26) dX6_fadeBy_26 ?_
        refine V_goto (pc := 27) 31 dX6_fadeBy_27 (by decide) ?_
        refine V_imul (pc := 31) dX6_fadeBy_31 ?_
        refine V_iconst (pc := 32) dX6_fadeBy_32 ?_
        refine V_iload_3 (pc := 33) dX6_fadeBy_33 ?_
        refine V_imul (pc := 34) dX6_fadeBy_34 ?_
        refine V_iadd (pc := 35) dX6_fadeBy_35 ?_
        refine V_iretI (pc := 36) dX6_fadeBy_36 rfl ?_
        exact ⟨_, rfl, by (repeat' split) <;> first | rfl | omega, rfl⟩
  · refine V_iload_4 (pc := 5) dX6_fadeBy_5 ?_
    refine V_iconst (pc := 7) dX6_fadeBy_7 ?_
    refine V_irem_p (pc := 8) dX6_fadeBy_8 (by omega) (by omega) ?_
    refine V_iconst (pc := 9) dX6_fadeBy_9 ?_
    refine V_icmp_ne (pc := 10) 15 dX6_fadeBy_10 (by decide) (by omega) (by omega) (fun c_10 => ?_) (fun c_10 => ?_)
    · refine V_iload_1 (pc := 15) dX6_fadeBy_15 ?_
      refine V_iload_0 (pc := 16) dX6_fadeBy_16 ?_
      refine V_iconst (pc := 17) dX6_fadeBy_17 ?_
      refine V_icmp_ne (pc := 18) 30 dX6_fadeBy_18 (by decide) (by omega) (by omega) (fun c_18 => ?_) (fun c_18 => ?_)
      · refine V_iconst (pc := 30) dX6_fadeBy_30 ?_
        refine V_imul (pc := 31) dX6_fadeBy_31 ?_
        refine V_iconst (pc := 32) dX6_fadeBy_32 ?_
        refine V_iload_3 (pc := 33) dX6_fadeBy_33 ?_
        refine V_imul (pc := 34) dX6_fadeBy_34 ?_
        refine V_iadd (pc := 35) dX6_fadeBy_35 ?_
        refine V_iretI (pc := 36) dX6_fadeBy_36 rfl ?_
        exact ⟨_, rfl, by (repeat' split) <;> first | rfl | omega, rfl⟩
      · refine V_iload_2 (pc := 21) dX6_fadeBy_21 ?_
        refine V_iconst (pc := 22) dX6_fadeBy_22 ?_
        refine V_icmp_ne (pc := 23) 30 dX6_fadeBy_23 (by decide) (by omega) (by omega) (fun c_23 => ?_) (fun c_23 => ?_)
        · refine V_iconst (pc := 30) dX6_fadeBy_30 ?_
          refine V_imul (pc := 31) dX6_fadeBy_31 ?_
          refine V_iconst (pc := 32) dX6_fadeBy_32 ?_
          refine V_iload_3 (pc := 33) dX6_fadeBy_33 ?_
          refine V_imul (pc := 34) dX6_fadeBy_34 ?_
          refine V_iadd (pc := 35) dX6_fadeBy_35 ?_
          refine V_iretI (pc := 36) dX6_fadeBy_36 rfl ?_
          exact ⟨_, rfl, by (repeat' split) <;> first | rfl | omega, rfl⟩
        · refine V_iconst (pc := 26) dX6_fadeBy_26 ?_
          refine V_goto (pc := 27) 31 dX6_fadeBy_27 (by decide) ?_
          refine V_imul (pc := 31) dX6_fadeBy_31 ?_
          refine V_iconst (pc := 32) dX6_fadeBy_32 ?_
          refine V_iload_3 (pc := 33) dX6_fadeBy_33 ?_
          refine V_imul (pc := 34) dX6_fadeBy_34 ?_
          refine V_iadd (pc := 35) dX6_fadeBy_35 ?_
          refine V_iretI (pc := 36) dX6_fadeBy_36 rfl ?_
          exact ⟨_, rfl, by (repeat' split) <;> first | rfl | omega, rfl⟩
    · refine V_iconst (pc := 13) dX6_fadeBy_13 ?_
      refine V_iretI (pc := 14) dX6_fadeBy_14 rfl ?_
      exact ⟨_, rfl, by (repeat' split) <;> first | rfl | omega, rfl⟩

set_option maxRecDepth 20000 in
set_option maxHeartbeats 1000000 in
theorem c_X6_entries {d : Nat} (hd : 0 ≤ d) {σ : MM} {B : BK} (hM : MB σ 0 B) (hW : WB B) : V yX6_entries cX6_entries 1 (some .int) d (QI (fun v σ' => v = B 6 0 ∧ σ' = σ)) 0 [some (vR 34 0)] [] σ := by
  refine V_aload_0 (pc := 0) dX6_entries_0 ?_
  refine V_getc (pc := 1) dX6_entries_1 gf_X6_34 (by omega) ?_
  refine V_iconst (pc := 4) dX6_entries_4 ?_
  refine V_iald (pc := 5) dX6_entries_5 sh_41 (by omega) (by omega) hM.h5 ?_
  refine V_iretI (pc := 6) dX6_entries_6 rfl ?_
  exact ⟨_, rfl, by first | rfl | omega, rfl⟩

set_option maxRecDepth 20000 in
set_option maxHeartbeats 1000000 in
theorem c_X6_years {d : Nat} (hd : 0 ≤ d) {σ : MM} {B : BK} (hM : MB σ 0 B) (hW : WB B) : V yX6_years cX6_years 1 (some .int) d (QI (fun v σ' => v = B 1 0 ∧ σ' = σ)) 0 [some (vR 34 0)] [] σ := by
  refine V_aload_0 (pc := 0) dX6_years_0 ?_
  refine V_getc (pc := 1) dX6_years_1 gf_X6_34 (by omega) ?_
  refine V_iconst (pc := 4) dX6_years_4 ?_
  refine V_iald (pc := 5) dX6_years_5 sh_41 (by omega) (by omega) hM.h0 ?_
  refine V_iretI (pc := 6) dX6_years_6 rfl ?_
  exact ⟨_, rfl, by first | rfl | omega, rfl⟩

set_option maxRecDepth 20000 in
set_option maxHeartbeats 1000000 in
theorem c_X6_isBook {d : Nat} (hd : 0 ≤ d) {σ : MM} {B : BK} (hM : MB σ 0 B) (hW : WB B) : V yX6_isBook cX6_isBook 1 (some .boolean) d (QI (fun v σ' => v = bI (0 < B 0 0) ∧ σ' = σ)) 0 [some (vR 34 0)] [] σ := by
  have hs := hW.s
  refine V_aload_0 (pc := 0) dX6_isBook_0 ?_
  refine V_getc (pc := 1) dX6_isBook_1 gf_X6_31 (by omega) ?_
  refine V_iconst (pc := 4) dX6_isBook_4 ?_
  refine V_iald (pc := 5) dX6_isBook_5 sh_40 (by omega) (by omega) hM.l ?_
  refine V_if_le (pc := 6) 13 dX6_isBook_6 (by decide) (by omega) (fun c_6 => ?_) (fun c_6 => ?_)
  · refine V_iconst (pc := 13) dX6_isBook_13 ?_
    refine V_iretZ (pc := 14) dX6_isBook_14 rfl (by omega) ?_
    exact ⟨_, rfl, by first | exact (bI_t (by omega)).symm | exact (bI_f (by omega)).symm, rfl⟩
  · refine V_iconst (pc := 9) dX6_isBook_9 ?_
    refine V_goto (pc := 10) 14 dX6_isBook_10 (by decide) ?_
    refine V_iretZ (pc := 14) dX6_isBook_14 rfl (by omega) ?_
    exact ⟨_, rfl, by first | exact (bI_t (by omega)).symm | exact (bI_f (by omega)).symm, rfl⟩

set_option maxRecDepth 20000 in
set_option maxHeartbeats 1000000 in
theorem c_X6_isInk {d : Nat} (hd : 1 ≤ d) {σ : MM} {B : BK} {x : Int} (hM : MB σ 0 B) (hW : WB B) (hx : IR x) : V yX6_isInk cX6_isInk 2 (some .boolean) d (QI (fun v σ' => v = bI (0 ≤ x ∧ x < B 4 0) ∧ σ' = σ)) 0 [some (vR 34 0), some (vI x)] [] σ := by
  have hs := hW.s
  refine V_iload_1 (pc := 0) dX6_isInk_0 ?_
  refine V_i2l (pc := 1) dX6_isInk_1 (by omega) ?_
  refine V_lconst (pc := 2) dX6_isInk_2 (z := 0) rfl ?_
  refine V_aload_0 (pc := 3) dX6_isInk_3 ?_
  refine V_getc (pc := 4) dX6_isInk_4 gf_X6_34 (by omega) ?_
  refine V_iconst (pc := 7) dX6_isInk_7 ?_
  refine V_iald (pc := 8) dX6_isInk_8 sh_41 (by omega) (by omega) hM.h3 ?_
  refine V_i2l (pc := 9) dX6_isInk_9 (by omega) ?_
  refine V_lconst (pc := 10) dX6_isInk_10 (z := 1) rfl ?_
  refine V_lsub (pc := 11) dX6_isInk_11 ?_
  refine V_callS3p (pc := 12) dX6_isInk_12 kv_X6_79 (d - 1) (by omega) rfl (c_X6_in (by omega) (by omega) (by omega) (by omega)) ?_
  refine V_iretZ (pc := 15) dX6_isInk_15 rfl (by first | omega | exact bI_01 _) ?_
  exact ⟨_, rfl, by first | exact bI_cong (by omega) | exact (bI_t (by omega)).symm | exact (bI_f (by omega)).symm | rfl, rfl⟩

set_option maxRecDepth 20000 in
set_option maxHeartbeats 1000000 in
theorem c_X6_isPage {d : Nat} (hd : 1 ≤ d) {σ : MM} {B : BK} {x : Int} (hM : MB σ 0 B) (hW : WB B) (hx : IR x) : V yX6_isPage cX6_isPage 2 (some .boolean) d (QI (fun v σ' => v = bI (0 ≤ x ∧ x < B 5 0) ∧ σ' = σ)) 0 [some (vR 34 0), some (vI x)] [] σ := by
  have hs := hW.s
  refine V_iload_1 (pc := 0) dX6_isPage_0 ?_
  refine V_i2l (pc := 1) dX6_isPage_1 (by omega) ?_
  refine V_lconst (pc := 2) dX6_isPage_2 (z := 0) rfl ?_
  refine V_aload_0 (pc := 3) dX6_isPage_3 ?_
  refine V_getc (pc := 4) dX6_isPage_4 gf_X6_34 (by omega) ?_
  refine V_iconst (pc := 7) dX6_isPage_7 ?_
  refine V_iald (pc := 8) dX6_isPage_8 sh_41 (by omega) (by omega) hM.h4 ?_
  refine V_i2l (pc := 9) dX6_isPage_9 (by omega) ?_
  refine V_lconst (pc := 10) dX6_isPage_10 (z := 1) rfl ?_
  refine V_lsub (pc := 11) dX6_isPage_11 ?_
  refine V_callS3p (pc := 12) dX6_isPage_12 kv_X6_79 (d - 1) (by omega) rfl (c_X6_in (by omega) (by omega) (by omega) (by omega)) ?_
  refine V_iretZ (pc := 15) dX6_isPage_15 rfl (by first | omega | exact bI_01 _) ?_
  exact ⟨_, rfl, by first | exact bI_cong (by omega) | exact (bI_t (by omega)).symm | exact (bI_f (by omega)).symm | rfl, rfl⟩

set_option maxRecDepth 20000 in
set_option maxHeartbeats 1000000 in
theorem c_X6_isEntry {d : Nat} (hd : 1 ≤ d) {σ : MM} {B : BK} {x : Int} (hM : MB σ 0 B) (hW : WB B) (hx : LR x) : V yX6_isEntry cX6_isEntry 3 (some .boolean) d (QI (fun v σ' => v = bI (0 ≤ x ∧ x < B 6 0) ∧ σ' = σ)) 0 [some (vR 34 0), some (vL x), none] [] σ := by
  have hs := hW.s
  refine V_lload_1 (pc := 0) dX6_isEntry_0 ?_
  refine V_lconst (pc := 1) dX6_isEntry_1 (z := 0) rfl ?_
  refine V_aload_0 (pc := 2) dX6_isEntry_2 ?_
  refine V_callV0p (pc := 3) dX6_isEntry_3 kv_X6_236 rc_34 (by omega) (d - 1) (by omega) rfl (c_X6_entries (by omega) hM hW) ?_
  refine V_i2l (pc := 6) dX6_isEntry_6 (by omega) ?_
  refine V_lconst (pc := 7) dX6_isEntry_7 (z := 1) rfl ?_
  refine V_lsub (pc := 8) dX6_isEntry_8 ?_
  refine V_callS3p (pc := 9) dX6_isEntry_9 kv_X6_79 (d - 1) (by omega) rfl (c_X6_in (by omega) (by omega) (by omega) (by omega)) ?_
  refine V_iretZ (pc := 12) dX6_isEntry_12 rfl (by first | omega | exact bI_01 _) ?_
  exact ⟨_, rfl, by first | exact bI_cong (by omega) | exact (bI_t (by omega)).symm | exact (bI_f (by omega)).symm | rfl, rfl⟩

set_option maxRecDepth 20000 in
set_option maxHeartbeats 1000000 in
theorem c_X6_isYear {d : Nat} (hd : 1 ≤ d) {σ : MM} {B : BK} {x : Int} (hM : MB σ 0 B) (hW : WB B) (hx : LR x) : V yX6_isYear cX6_isYear 3 (some .boolean) d (QI (fun v σ' => v = bI (¬ (B 0 0 = 0 ∨ x < 0 ∨ B 1 0 < x)) ∧ σ' = σ)) 0 [some (vR 34 0), some (vL x), none] [] σ := by
  have hs := hW.s
  refine V_aload_0 (pc := 0) dX6_isYear_0 ?_
  refine V_callV0p (pc := 1) dX6_isYear_1 kv_X6_240 rc_34 (by omega) (d - 1) (by omega) rfl (c_X6_isBook (by omega) hM hW) ?_
  refine V_if_eq_b (pc := 4) 24 dX6_isYear_4 (by decide) (fun c_4 => ?_) (fun c_4 => ?_)
  · refine V_iconst (pc := 24) dX6_isYear_24 ?_
    refine V_iretZ (pc := 25) dX6_isYear_25 rfl (by first | omega | exact bI_01 _) ?_
    exact ⟨_, rfl, by first | exact bI_cong (by omega) | exact (bI_t (by omega)).symm | exact (bI_f (by omega)).symm | rfl, rfl⟩
  · refine V_lload_1 (pc := 7) dX6_isYear_7 ?_
    refine V_lconst (pc := 8) dX6_isYear_8 (z := 0) rfl ?_
    refine V_aload_0 (pc := 9) dX6_isYear_9 ?_
    refine V_callV0p (pc := 10) dX6_isYear_10 kv_X6_243 rc_34 (by omega) (d - 1) (by omega) rfl (c_X6_years (by omega) hM hW) ?_
    refine V_i2l (pc := 13) dX6_isYear_13 (by omega) ?_
    refine V_callS3p (pc := 14) dX6_isYear_14 kv_X6_79 (d - 1) (by omega) rfl (c_X6_in (by omega) (by omega) (by omega) (by omega)) ?_
    refine V_if_eq_b (pc := 17) 24 dX6_isYear_17 (by decide) (fun c_17 => ?_) (fun c_17 => ?_)
    · refine V_iconst (pc := 24) dX6_isYear_24 ?_
      refine V_iretZ (pc := 25) dX6_isYear_25 rfl (by first | omega | exact bI_01 _) ?_
      exact ⟨_, rfl, by first | exact bI_cong (by omega) | exact (bI_t (by omega)).symm | exact (bI_f (by omega)).symm | rfl, rfl⟩
    · refine V_iconst (pc := 20) dX6_isYear_20 ?_
      refine V_goto (pc := 21) 25 dX6_isYear_21 (by decide) ?_
      refine V_iretZ (pc := 25) dX6_isYear_25 rfl (by first | omega | exact bI_01 _) ?_
      exact ⟨_, rfl, by first | exact bI_cong (by omega) | exact (bI_t (by omega)).symm | exact (bI_f (by omega)).symm | rfl, rfl⟩

set_option maxRecDepth 20000 in
set_option maxHeartbeats 1000000 in
theorem c_X6_isThen {d : Nat} (hd : 2 ≤ d) {σ : MM} {B : BK} {e y : Int} (hM : MB σ 0 B) (hW : WB B) (he : IR e) (hy : IR y) : V yX6_isThen cX6_isThen 3 (some .boolean) d (QI (fun v σ' => v = bI ((0 ≤ e ∧ e < B 6 0) ∧ ¬ (B 0 0 = 0 ∨ y < 0 ∨ B 1 0 < y)) ∧ σ' = σ)) 0 [some (vR 34 0), some (vI e), some (vI y)] [] σ := by
  have hs := hW.s
  refine V_aload_0 (pc := 0) dX6_isThen_0 ?_
  refine V_iload_1 (pc := 1) dX6_isThen_1 ?_
  refine V_i2l (pc := 2) dX6_isThen_2 (by omega) ?_
  refine V_callV1p (pc := 3) dX6_isThen_3 kv_X6_246 rc_34 (by omega) (d - 1) (by omega) rfl (c_X6_isEntry (by omega) hM hW (by omega)) ?_
  refine V_if_eq_b (pc := 6) 22 dX6_isThen_6 (by decide) (fun c_6 => ?_) (fun c_6 => ?_)
  · refine V_iconst (pc := 22) dX6_isThen_22 ?_
    refine V_iretZ (pc := 23) dX6_isThen_23 rfl (by first | omega | exact bI_01 _) ?_
    exact ⟨_, rfl, by first | exact bI_cong (by omega) | exact (bI_t (by omega)).symm | exact (bI_f (by omega)).symm | rfl, rfl⟩
  · refine V_aload_0 (pc := 9) dX6_isThen_9 ?_
    refine V_iload_2 (pc := 10) dX6_isThen_10 ?_
    refine V_i2l (pc := 11) dX6_isThen_11 (by omega) ?_
    refine V_callV1p (pc := 12) dX6_isThen_12 kv_X6_249 rc_34 (by omega) (d - 1) (by omega) rfl (c_X6_isYear (by omega) hM hW (by omega)) ?_
    refine V_if_eq_b (pc := 15) 22 dX6_isThen_15 (by decide) (fun c_15 => ?_) (fun c_15 => ?_)
    · refine V_iconst (pc := 22) dX6_isThen_22 ?_
      refine V_iretZ (pc := 23) dX6_isThen_23 rfl (by first | omega | exact bI_01 _) ?_
      exact ⟨_, rfl, by first | exact bI_cong (by omega) | exact (bI_t (by omega)).symm | exact (bI_f (by omega)).symm | rfl, rfl⟩
    · refine V_iconst (pc := 18) dX6_isThen_18 ?_
      refine V_goto (pc := 19) 23 dX6_isThen_19 (by decide) ?_
      refine V_iretZ (pc := 23) dX6_isThen_23 rfl (by first | omega | exact bI_01 _) ?_
      exact ⟨_, rfl, by first | exact bI_cong (by omega) | exact (bI_t (by omega)).symm | exact (bI_f (by omega)).symm | rfl, rfl⟩

set_option maxRecDepth 20000 in
set_option maxHeartbeats 1000000 in
theorem c_X6_areTwo {d : Nat} (hd : 2 ≤ d) {σ : MM} {B : BK} {p q : Int} (hM : MB σ 0 B) (hW : WB B) (hp : IR p) (hq : IR q) : V yX6_areTwo cX6_areTwo 3 (some .boolean) d (QI (fun v σ' => v = bI (¬ ((p < 0 ∨ B 5 0 ≤ p) ∨ (q < 0 ∨ B 5 0 ≤ q) ∨ p = q)) ∧ σ' = σ)) 0 [some (vR 34 0), some (vI p), some (vI q)] [] σ := by
  have hs := hW.s
  refine V_aload_0 (pc := 0) dX6_areTwo_0 ?_
  refine V_iload_1 (pc := 1) dX6_areTwo_1 ?_
  refine V_callV1p (pc := 2) dX6_areTwo_2 kv_X6_326 rc_34 (by omega) (d - 1) (by omega) rfl (c_X6_isPage (by omega) hM hW (by omega)) ?_
  refine V_if_eq_b (pc := 5) 25 dX6_areTwo_5 (by decide) (fun c_5 => ?_) (fun c_5 => ?_)
  · refine V_iconst (pc := 25) dX6_areTwo_25 ?_
    refine V_iretZ (pc := 26) dX6_areTwo_26 rfl (by first | omega | exact bI_01 _) ?_
    exact ⟨_, rfl, by first | exact bI_cong (by omega) | exact (bI_t (by omega)).symm | exact (bI_f (by omega)).symm | rfl, rfl⟩
  · refine V_aload_0 (pc := 8) dX6_areTwo_8 ?_
    refine V_iload_2 (pc := 9) dX6_areTwo_9 ?_
    refine V_callV1p (pc := 10) dX6_areTwo_10 kv_X6_326 rc_34 (by omega) (d - 1) (by omega) rfl (c_X6_isPage (by omega) hM hW (by omega)) ?_
    refine V_if_eq_b (pc := 13) 25 dX6_areTwo_13 (by decide) (fun c_13 => ?_) (fun c_13 => ?_)
    · refine V_iconst (pc := 25) dX6_areTwo_25 ?_
      refine V_iretZ (pc := 26) dX6_areTwo_26 rfl (by first | omega | exact bI_01 _) ?_
      exact ⟨_, rfl, by first | exact bI_cong (by omega) | exact (bI_t (by omega)).symm | exact (bI_f (by omega)).symm | rfl, rfl⟩
    · refine V_iload_1 (pc := 16) dX6_areTwo_16 ?_
      refine V_iload_2 (pc := 17) dX6_areTwo_17 ?_
      refine V_icmp_eq (pc := 18) 25 dX6_areTwo_18 (by decide) (by omega) (by omega) (fun c_18 => ?_) (fun c_18 => ?_)
      · refine V_iconst (pc := 25) dX6_areTwo_25 ?_
        refine V_iretZ (pc := 26) dX6_areTwo_26 rfl (by first | omega | exact bI_01 _) ?_
        exact ⟨_, rfl, by first | exact bI_cong (by omega) | exact (bI_t (by omega)).symm | exact (bI_f (by omega)).symm | rfl, rfl⟩
      · refine V_iconst (pc := 21) dX6_areTwo_21 ?_
        refine V_goto (pc := 22) 26 dX6_areTwo_22 (by decide) ?_
        refine V_iretZ (pc := 26) dX6_areTwo_26 rfl (by first | omega | exact bI_01 _) ?_
        exact ⟨_, rfl, by first | exact bI_cong (by omega) | exact (bI_t (by omega)).symm | exact (bI_f (by omega)).symm | rfl, rfl⟩

set_option maxRecDepth 20000 in
set_option maxHeartbeats 1000000 in
theorem c_X6_isSoon {d : Nat} (hd : 1 ≤ d) {σ : MM} {B : BK} {y : Int} (hM : MB σ 0 B) (hW : WB B) (hy : IR y) : V yX6_isSoon cX6_isSoon 2 (some .boolean) d (QI (fun v σ' => v = bI (¬ r_cy B y) ∧ σ' = σ)) 0 [some (vR 34 0), some (vI y)] [] σ := by
  have hs := hW.s
  refine V_aload_0 (pc := 0) dX6_isSoon_0 ?_
  refine V_callV0p (pc := 1) dX6_isSoon_1 kv_X6_240 rc_34 (by omega) (d - 1) (by omega) rfl (c_X6_isBook (by omega) hM hW) ?_
  refine V_if_eq_b (pc := 4) 30 dX6_isSoon_4 (by decide) (fun c_4 => ?_) (fun c_4 => ?_)
  · refine V_iconst (pc := 30) dX6_isSoon_30 ?_
    refine V_iretZ (pc := 31) dX6_isSoon_31 rfl (by first | omega | exact bI_01 _) ?_
    exact ⟨_, rfl, by first | exact bI_cong (by omega) | exact (bI_t (by omega)).symm | exact (bI_f (by omega)).symm | rfl, rfl⟩
  · refine V_iload_1 (pc := 7) dX6_isSoon_7 ?_
    refine V_i2l (pc := 8) dX6_isSoon_8 (by omega) ?_
    refine V_lconst (pc := 9) dX6_isSoon_9 (z := 1) rfl ?_
    refine V_bipush (pc := 10) dX6_isSoon_10 (by decide) ?_
    refine V_aload_0 (pc := 12) dX6_isSoon_12 ?_
    refine V_callV0p (pc := 13) dX6_isSoon_13 kv_X6_243 rc_34 (by omega) (d - 1) (by omega) rfl (c_X6_years (by omega) hM hW) ?_
    refine V_callS2p (pc := 16) dX6_isSoon_16 kv_X6_277 (d - 1) (by omega) rfl (c_X6_lessOf (by omega) (by omega) (by omega)) ?_
    refine V_i2l (pc := 19) dX6_isSoon_19 (by omega) ?_
    refine V_callS3p (pc := 20) dX6_isSoon_20 kv_X6_79 (d - 1) (by omega) rfl (c_X6_in (by omega) (by omega) (by omega) (by omega)) ?_
    refine V_if_eq_b (pc := 23) 30 dX6_isSoon_23 (by decide) (fun c_23 => ?_) (fun c_23 => ?_)
    · refine V_iconst (pc := 30) dX6_isSoon_30 ?_
      refine V_iretZ (pc := 31) dX6_isSoon_31 rfl (by first | omega | exact bI_01 _) ?_
      exact ⟨_, rfl, by first | exact bI_cong (by omega) | exact (bI_t (by omega)).symm | exact (bI_f (by omega)).symm | rfl, rfl⟩
    · refine V_iconst (pc := 26) dX6_isSoon_26 ?_
      refine V_goto (pc := 27) 31 dX6_isSoon_27 (by decide) ?_
      refine V_iretZ (pc := 31) dX6_isSoon_31 rfl (by first | omega | exact bI_01 _) ?_
      exact ⟨_, rfl, by first | exact bI_cong (by omega) | exact (bI_t (by omega)).symm | exact (bI_f (by omega)).symm | rfl, rfl⟩

set_option maxRecDepth 20000 in
set_option maxHeartbeats 1000000 in
theorem c_X6_placeOf {d : Nat} (hd : 0 ≤ d) {σ : MM} {B : BK} {e : Int} (hM : MB σ 0 B) (hW : WB B) (he : 0 ≤ e ∧ e < B 6 0) : V yX6_placeOf cX6_placeOf 4 (some .int) d (QI (fun v σ' => v = PLC B e ∧ σ' = σ)) 0 [some (vR 34 0), some (vI e), none, none] [] σ := by
  have hs := hW.s
  have loop : ∀ i : Nat, i ≤ e.toNat → V yX6_placeOf cX6_placeOf 4 (some .int) d (QI (fun v σ' => v = PLC B e ∧ σ' = σ)) 4 [some (vR 34 0), some (vI e), some (vI (PLN B e i)), some (vI (i : Int))] [] σ := by
    refine up_ind (P := fun i : Nat => V yX6_placeOf cX6_placeOf 4 (some .int) d (QI (fun v σ' => v = PLC B e ∧ σ' = σ)) 4 [some (vR 34 0), some (vI e), some (vI (PLN B e i)), some (vI (i : Int))] [] σ) ?_ ?_
    · 
      refine V_iload_3 (pc := 4) dX6_placeOf_4 ?_
      refine V_iload_1 (pc := 5) dX6_placeOf_5 ?_
      refine V_icmp_ge (pc := 6) 42 dX6_placeOf_6 (by decide) (by omega) (by omega) (fun c_6 => ?_) (fun c_6 => ?_)
      · refine V_iload_2 (pc := 42) dX6_placeOf_42 ?_
        refine V_iretI (pc := 43) dX6_placeOf_43 rfl ?_
        exact ⟨_, rfl, by first | rfl | omega, rfl⟩
      · exact absurd c_6 (by omega)
    · intro i hi ih
      have h1 := hW.e (i := (i : Int)) (by omega)
      have h2 := hW.e he
      have hS : PLN B e (i + 1) = PLN B e i + bI (B 11 i = B 11 e) := rfl
      refine V_iload_3 (pc := 4) dX6_placeOf_4 ?_
      refine V_iload_1 (pc := 5) dX6_placeOf_5 ?_
      refine V_icmp_ge (pc := 6) 42 dX6_placeOf_6 (by decide) (by omega) (by omega) (fun c_6 => ?_) (fun c_6 => ?_)
      · exact absurd c_6 (by omega)
      · refine V_iload_2 (pc := 9) dX6_placeOf_9 ?_
        refine V_aload_0 (pc := 10) dX6_placeOf_10 ?_
        refine V_getc (pc := 11) dX6_placeOf_11 gf_X6_43 (by omega) ?_
        refine V_iconst (pc := 14) dX6_placeOf_14 ?_
        refine V_iload_3 (pc := 15) dX6_placeOf_15 ?_
        refine V_imul (pc := 16) dX6_placeOf_16 ?_
        refine V_iald (pc := 17) dX6_placeOf_17 sh_44 (by omega) (by omega) (hM.t0 (by omega)) ?_
        refine V_aload_0 (pc := 18) dX6_placeOf_18 ?_
        refine V_getc (pc := 19) dX6_placeOf_19 gf_X6_43 (by omega) ?_
        refine V_iconst (pc := 22) dX6_placeOf_22 ?_
        refine V_iload_1 (pc := 23) dX6_placeOf_23 ?_
        refine V_imul (pc := 24) dX6_placeOf_24 ?_
        refine V_iald (pc := 25) dX6_placeOf_25 sh_44 (by omega) (by omega) (hM.t0 (by omega)) ?_
        refine V_icmp_ne (pc := 26) 33 dX6_placeOf_26 (by decide) (by omega) (by omega) (fun c_26 => ?_) (fun c_26 => ?_)
        · refine V_iconst (pc := 33) dX6_placeOf_33 ?_
          refine V_iadd (pc := 34) dX6_placeOf_34 ?_
          refine V_istore_2 (pc := 35) dX6_placeOf_35 ?_
          refine V_iinc_3 (pc := 36) dX6_placeOf_36 ?_
          refine V_goto (pc := 39) 4 dX6_placeOf_39 (by decide) ?_
          refine V.sub (by simp only [subL, Option.some.injEq, Sum.inl.injEq, Sum.inr.injEq, reduceCtorEq, true_or, or_true, false_or, true_and, and_true]; rw [hS, bI_f (by omega)]; omega) ih
        · refine V_iconst (pc := 29) dX6_placeOf_29 ?_
          refine V_goto (pc := 30) 34 dX6_placeOf_30 (by decide) ?_
          refine V_iadd (pc := 34) dX6_placeOf_34 ?_
          refine V_istore_2 (pc := 35) dX6_placeOf_35 ?_
          refine V_iinc_3 (pc := 36) dX6_placeOf_36 ?_
          refine V_goto (pc := 39) 4 dX6_placeOf_39 (by decide) ?_
          refine V.sub (by simp only [subL, Option.some.injEq, Sum.inl.injEq, Sum.inr.injEq, reduceCtorEq, true_or, or_true, false_or, true_and, and_true]; rw [hS, bI_t (by omega)]; omega) ih
  refine V_iconst (pc := 0) dX6_placeOf_0 ?_
  refine V_istore_2 (pc := 1) dX6_placeOf_1 ?_
  refine V_iconst (pc := 2) dX6_placeOf_2 ?_
  refine V_istore_3 (pc := 3) dX6_placeOf_3 ?_
  exact loop 0 (by omega)

set_option maxRecDepth 20000 in
set_option maxHeartbeats 1000000 in
theorem c_X6_facing {d : Nat} (hd : 1 ≤ d) {σ : MM} {B : BK} {e : Int} (hM : MB σ 0 B) (hW : WB B) (he : 0 ≤ e ∧ e < B 6 0) : V yX6_facing cX6_facing 4 (some .int) d (QI (fun v σ' => v = FAC B e ∧ σ' = σ)) 0 [some (vR 34 0), some (vI e), none, none] [] σ := by
  have hs := hW.s
  have h2 := hW.e he
  have g2 := PLC_in (B := B) (k := e) (by omega)
  have hP1 : B 11 e % 2 = 0 → PFA (B 11 e) = B 11 e + 1 := fun q => if_pos q
  have hP2 : ¬ B 11 e % 2 = 0 → PFA (B 11 e) = B 11 e - 1 := fun q => if_neg q
  have loop : ∀ i : Nat, i ≤ (B 6 0).toNat → (fst (fun k => B 11 k = PFA (B 11 e) ∧ PLC B k = PLC B e) (B 6 0).toNat 0 = fst (fun k => B 11 k = PFA (B 11 e) ∧ PLC B k = PLC B e) ((B 6 0).toNat - i) i) → V yX6_facing cX6_facing 4 (some .int) d (QI (fun v σ' => v = FAC B e ∧ σ' = σ)) 39 [some (vR 34 0), some (vI e), some (vI (PFA (B 11 e))), some (vI (i : Int))] [] σ := by
    refine up_ind (P := fun i : Nat => (fst (fun k => B 11 k = PFA (B 11 e) ∧ PLC B k = PLC B e) (B 6 0).toNat 0 = fst (fun k => B 11 k = PFA (B 11 e) ∧ PLC B k = PLC B e) ((B 6 0).toNat - i) i) → V yX6_facing cX6_facing 4 (some .int) d (QI (fun v σ' => v = FAC B e ∧ σ' = σ)) 39 [some (vR 34 0), some (vI e), some (vI (PFA (B 11 e))), some (vI (i : Int))] [] σ) ?_ ?_
    · intro hI
      refine V_iload_3 (pc := 39) dX6_facing_39 ?_
      refine V_aload_0 (pc := 40) dX6_facing_40 ?_
      refine V_callV0p (pc := 41) dX6_facing_41 kv_X6_236 rc_34 (by omega) (d - 1) (by omega) rfl (c_X6_entries (by omega) hM hW) ?_
      refine V_icmp_ge (pc := 44) 80 dX6_facing_44 (by decide) (by omega) (by omega) (fun c_44 => ?_) (fun c_44 => ?_)
      · refine V_iconst (pc := 80) dX6_facing_80 ?_
        refine V_iretI (pc := 81) dX6_facing_81 rfl ?_
        exact ⟨_, rfl, by unfold FAC FAN; exact (fst0_e hI).symm, rfl⟩
      · exact absurd c_44 (by omega)
    · intro i hi ih hI
      have h1 := hW.e (i := (i : Int)) (by omega)
      have g1 := PLC_in (B := B) (k := (i : Int)) (by omega)
      have hY := fst0_y hi hI
      have hN := fst0_n hi hI
      refine V_iload_3 (pc := 39) dX6_facing_39 ?_
      refine V_aload_0 (pc := 40) dX6_facing_40 ?_
      refine V_callV0p (pc := 41) dX6_facing_41 kv_X6_236 rc_34 (by omega) (d - 1) (by omega) rfl (c_X6_entries (by omega) hM hW) ?_
      refine V_icmp_ge (pc := 44) 80 dX6_facing_44 (by decide) (by omega) (by omega) (fun c_44 => ?_) (fun c_44 => ?_)
      · exact absurd c_44 (by omega)
      · refine V_aload_0 (pc := 47) dX6_facing_47 ?_
        refine V_getc (pc := 48) dX6_facing_48 gf_X6_43 (by omega) ?_
        refine V_iconst (pc := 51) dX6_facing_51 ?_
        refine V_iload_3 (pc := 52) dX6_facing_52 ?_
        refine V_imul (pc := 53) dX6_facing_53 ?_
        refine V_iald (pc := 54) dX6_facing_54 sh_44 (by omega) (by omega) (hM.t0 (by omega)) ?_
        refine V_iload_2 (pc := 55) dX6_facing_55 ?_
        refine V_icmp_ne (pc := 56) 74 dX6_facing_56 (by decide) (by omega) (by omega) (fun c_56 => ?_) (fun c_56 => ?_)
        · refine V_iinc_3 (pc := 74) dX6_facing_74 ?_
          refine V_goto (pc := 77) 39 dX6_facing_77 (by decide) ?_
          refine V.sub (by simp only [subL, Option.some.injEq, Sum.inl.injEq, reduceCtorEq, true_or, or_true, false_or, true_and, and_true]; omega) (ih (hN (fun q => by omega)))
        · refine V_aload_0 (pc := 59) dX6_facing_59 ?_
          refine V_iload_3 (pc := 60) dX6_facing_60 ?_
          refine V_callV1p (pc := 61) dX6_facing_61 kv_X6_270 rc_34 (by omega) (d - 1) (by omega) rfl (c_X6_placeOf (by omega) hM hW (by omega)) ?_
          refine V_aload_0 (pc := 64) dX6_facing_64 ?_
          refine V_iload_1 (pc := 65) dX6_facing_65 ?_
          refine V_callV1p (pc := 66) dX6_facing_66 kv_X6_270 rc_34 (by omega) (d - 1) (by omega) rfl (c_X6_placeOf (by omega) hM hW (by omega)) ?_
          refine V_icmp_ne (pc := 69) 74 dX6_facing_69 (by decide) (by omega) (by omega) (fun c_69 => ?_) (fun c_69 => ?_)
          · refine V_iinc_3 (pc := 74) dX6_facing_74 ?_
            refine V_goto (pc := 77) 39 dX6_facing_77 (by decide) ?_
            refine V.sub (by simp only [subL, Option.some.injEq, Sum.inl.injEq, reduceCtorEq, true_or, or_true, false_or, true_and, and_true]; omega) (ih (hN (fun q => by omega)))
          · refine V_iload_3 (pc := 72) dX6_facing_72 ?_
            refine V_iretI (pc := 73) dX6_facing_73 rfl ?_
            exact ⟨_, rfl, by unfold FAC FAN; exact (hY ⟨by omega, by omega⟩).symm, rfl⟩
  refine V_aload_0 (pc := 0) dX6_facing_0 ?_
  refine V_getc (pc := 1) dX6_facing_1 gf_X6_43 (by omega) ?_
  refine V_iconst (pc := 4) dX6_facing_4 ?_
  refine V_iload_1 (pc := 5) dX6_facing_5 ?_
  refine V_imul (pc := 6) dX6_facing_6 ?_
  refine V_iald (pc := 7) dX6_facing_7 sh_44 (by omega) (by omega) (hM.t0 (by omega)) ?_
  refine V_iconst (pc := 8) dX6_facing_8 ?_
  refine V_irem_p (pc := 9) dX6_facing_9 (by omega) (by omega) ?_
  refine V_if_ne (pc := 10) 26 dX6_facing_10 (by decide) (by omega) (fun c_10 => ?_) (fun c_10 => ?_)
  · refine V_aload_0 (pc := 26) dX6_facing_26 ?_
    refine V_getc (pc := 27) dX6_facing_27 gf_X6_43 (by omega) ?_
    refine V_iconst (pc := 30) dX6_facing_30 ?_
    refine V_iload_1 (pc := 31) dX6_facing_31 ?_
    refine V_imul (pc := 32) dX6_facing_32 ?_
    refine V_iald (pc := 33) dX6_facing_33 sh_44 (by omega) (by omega) (hM.t0 (by omega)) ?_
    refine V_iconst (pc := 34) dX6_facing_34 ?_
    refine V_isub (pc := 35) dX6_facing_35 ?_
    refine V_istore_2 (pc := 36) dX6_facing_36 ?_
    refine V_iconst (pc := 37) dX6_facing_37 ?_
    refine V_istore_3 (pc := 38) dX6_facing_38 ?_
    refine V.sub (by simp only [subL, Option.some.injEq, Sum.inl.injEq, reduceCtorEq, true_or, or_true, false_or, true_and, and_true]; omega) (loop 0 (by omega) (by rfl))
  · refine V_aload_0 (pc := 13) dX6_facing_13 ?_
    refine V_getc (pc := 14) dX6_facing_14 gf_X6_43 (by omega) ?_
    refine V_iconst (pc := 17) dX6_facing_17 ?_
    refine V_iload_1 (pc := 18) dX6_facing_18 ?_
    refine V_imul (pc := 19) dX6_facing_19 ?_
    refine V_iald (pc := 20) dX6_facing_20 sh_44 (by omega) (by omega) (hM.t0 (by omega)) ?_
    refine V_iconst (pc := 21) dX6_facing_21 ?_
    refine V_iadd (pc := 22) dX6_facing_22 ?_
    refine V_goto (pc := 23) 36 dX6_facing_23 (by decide) ?_
    refine V_istore_2 (pc := 36) dX6_facing_36 ?_
    refine V_iconst (pc := 37) dX6_facing_37 ?_
    refine V_istore_3 (pc := 38) dX6_facing_38 ?_
    refine V.sub (by simp only [subL, Option.some.injEq, Sum.inl.injEq, reduceCtorEq, true_or, or_true, false_or, true_and, and_true]; omega) (loop 0 (by omega) (by rfl))

set_option maxRecDepth 20000 in
set_option maxHeartbeats 1000000 in
theorem c_X6_isThere {d : Nat} (hd : 1 ≤ d) {σ : MM} {B E : BK} {wv : Int} {e y : Int} (hM : MB σ 0 B) (hW : WB B) (hL : LD σ B E wv) (he : 0 ≤ e ∧ e < B 6 0) (hy : -1 ≤ y ∧ y ≤ 98) : V yX6_isThere cX6_isThere 3 (some .boolean) d (QI (fun v σ' => v = bI (E 13 e ≤ y) ∧ σ' = σ)) 0 [some (vR 34 0), some (vI e), some (vI y)] [] σ := by
  have hs := hW.s
  have hn := hL.nev
  have hwr := hL.wr he
  have hE := hL.w.e (i := e) (by rw [hL.e (by omega)]; exact he)
  refine V_aload_0 (pc := 0) dX6_isThere_0 ?_
  refine V_geti (pc := 1) dX6_isThere_1 gf_X6_258 (by omega) rfl ?_
  refine V_iload_1 (pc := 4) dX6_isThere_4 ?_
  refine V_callS2p (pc := 5) dX6_isThere_5 kv_X6_273 (d - 1) (by omega) rfl (c_X6_isBit (by omega) (by omega) (by omega)) ?_
  refine V_if_ne_b (pc := 8) 25 dX6_isThere_8 (by decide) (fun c_8 => ?_) (fun c_8 => ?_)
  · refine V_iconst (pc := 25) dX6_isThere_25 ?_
    refine V_iretZ (pc := 26) dX6_isThere_26 rfl (by omega) ?_
    exact ⟨_, rfl, by first | exact (bI_t (by omega)).symm | exact (bI_f (by omega)).symm, rfl⟩
  · refine V_aload_0 (pc := 11) dX6_isThere_11 ?_
    refine V_getc (pc := 12) dX6_isThere_12 gf_X6_53 (by omega) ?_
    refine V_iload_1 (pc := 15) dX6_isThere_15 ?_
    refine V_iald (pc := 16) dX6_isThere_16 sh_47 (by omega) (by omega) ((hL.wr he).resolve_left (fun q => c_8 q.1)).2 ?_
    refine V_iload_2 (pc := 17) dX6_isThere_17 ?_
    refine V_icmp_gt (pc := 18) 25 dX6_isThere_18 (by decide) (by omega) (by omega) (fun c_18 => ?_) (fun c_18 => ?_)
    · refine V_iconst (pc := 25) dX6_isThere_25 ?_
      refine V_iretZ (pc := 26) dX6_isThere_26 rfl (by omega) ?_
      exact ⟨_, rfl, by first | exact (bI_t (by omega)).symm | exact (bI_f (by omega)).symm, rfl⟩
    · refine V_iconst (pc := 21) dX6_isThere_21 ?_
      refine V_goto (pc := 22) 26 dX6_isThere_22 (by decide) ?_
      refine V_iretZ (pc := 26) dX6_isThere_26 rfl (by omega) ?_
      exact ⟨_, rfl, by first | exact (bI_t (by omega)).symm | exact (bI_f (by omega)).symm, rfl⟩

set_option maxRecDepth 20000 in
set_option maxHeartbeats 1000000 in
theorem c_X6_shadeOf {d : Nat} (hd : 0 ≤ d) {σ : MM} {e y s : Int} (he : 0 ≤ e ∧ e < 7) (hy : 0 ≤ y ∧ y < 21) (h : σ 50 0 (7 * y + e) = s) : V yX6_shadeOf cX6_shadeOf 3 (some .int) d (QI (fun v σ' => v = s ∧ σ' = σ)) 0 [some (vR 34 0), some (vI e), some (vI y)] [] σ := by
  refine V_aload_0 (pc := 0) dX6_shadeOf_0 ?_
  refine V_getc (pc := 1) dX6_shadeOf_1 gf_X6_62 (by omega) ?_
  refine V_bipush (pc := 4) dX6_shadeOf_4 (by decide) ?_
  refine V_iload_2 (pc := 6) dX6_shadeOf_6 ?_
  refine V_imul (pc := 7) dX6_shadeOf_7 ?_
  refine V_iload_1 (pc := 8) dX6_shadeOf_8 ?_
  refine V_iadd (pc := 9) dX6_shadeOf_9 ?_
  refine V_iald (pc := 10) dX6_shadeOf_10 sh_50 (by omega) (by omega) h ?_
  refine V_iretI (pc := 11) dX6_shadeOf_11 rfl ?_
  exact ⟨_, rfl, by first | rfl | omega, rfl⟩

set_option maxRecDepth 20000 in
set_option maxHeartbeats 1000000 in
theorem c_X6_begin0 {d : Nat} (hd : 1 ≤ d) {σ : MM} {B : BK} {e y i : Int} (hM : MB σ 0 B) (hW : WB B) (he : 0 ≤ e ∧ e < 7) (hy : 0 ≤ y ∧ y < 21) (hi : 0 ≤ i ∧ i < B 4 0) : V yX6_begin0 cX6_begin0 4 none d (QZ (fun σ' => MUP σ σ' y e (min (B 7 i) (B 8 i)) i (bI ((min (B 7 i) (B 8 i)) < B 8 i)))) 0 [some (vR 34 0), some (vI e), some (vI y), some (vI i)] [] σ := by
  have hs := hW.s
  have h1 := hW.i hi
  refine V_aload_0 (pc := 0) dX6_begin0_0 ?_
  refine V_getc (pc := 1) dX6_begin0_1 gf_X6_68 (by omega) ?_
  refine V_iload_1 (pc := 4) dX6_begin0_4 ?_
  refine V_iload_3 (pc := 5) dX6_begin0_5 ?_
  refine V_iast (pc := 6) dX6_begin0_6 sh_52 (by omega) (by omega) ?_
  refine V_aload_0 (pc := 7) dX6_begin0_7 ?_
  refine V_getc (pc := 8) dX6_begin0_8 gf_X6_62 (by omega) ?_
  refine V_bipush (pc := 11) dX6_begin0_11 (by decide) ?_
  refine V_iload_2 (pc := 13) dX6_begin0_13 ?_
  refine V_imul (pc := 14) dX6_begin0_14 ?_
  refine V_iload_1 (pc := 15) dX6_begin0_15 ?_
  refine V_iadd (pc := 16) dX6_begin0_16 ?_
  refine V_aload_0 (pc := 17) dX6_begin0_17 ?_
  refine V_getc (pc := 18) dX6_begin0_18 gf_X6_37 (by omega) ?_
  refine V_iconst (pc := 21) dX6_begin0_21 ?_
  refine V_iload_3 (pc := 22) dX6_begin0_22 ?_
  refine V_imul (pc := 23) dX6_begin0_23 ?_
  refine V_iald (pc := 24) dX6_begin0_24 sh_42 (by omega) (by omega) (v := B 7 i) (by first | exact hM.i0 hi | (simp [setI_at]; exact hM.i0 hi)) ?_
  refine V_aload_0 (pc := 25) dX6_begin0_25 ?_
  refine V_getc (pc := 26) dX6_begin0_26 gf_X6_37 (by omega) ?_
  refine V_iconst (pc := 29) dX6_begin0_29 ?_
  refine V_iload_3 (pc := 30) dX6_begin0_30 ?_
  refine V_imul (pc := 31) dX6_begin0_31 ?_
  refine V_iconst (pc := 32) dX6_begin0_32 ?_
  refine V_iadd (pc := 33) dX6_begin0_33 ?_
  refine V_iald (pc := 34) dX6_begin0_34 sh_42 (by omega) (by omega) (v := B 8 i) (by first | exact hM.i1 hi | (simp [setI_at]; exact hM.i1 hi)) ?_
  refine V_callS2p (pc := 35) dX6_begin0_35 kv_X6_277 (d - 1) (by omega) rfl (c_X6_lessOf (by omega) (by omega) (by omega)) ?_
  refine V_iast (pc := 38) dX6_begin0_38 sh_50 (by omega) (by omega) ?_
  refine V_aload_0 (pc := 39) dX6_begin0_39 ?_
  refine V_getc (pc := 40) dX6_begin0_40 gf_X6_65 (by omega) ?_
  refine V_bipush (pc := 43) dX6_begin0_43 (by decide) ?_
  refine V_iload_2 (pc := 45) dX6_begin0_45 ?_
  refine V_imul (pc := 46) dX6_begin0_46 ?_
  refine V_iload_1 (pc := 47) dX6_begin0_47 ?_
  refine V_iadd (pc := 48) dX6_begin0_48 ?_
  refine V_aload_0 (pc := 49) dX6_begin0_49 ?_
  refine V_getc (pc := 50) dX6_begin0_50 gf_X6_37 (by omega) ?_
  refine V_iconst (pc := 53) dX6_begin0_53 ?_
  refine V_iload_3 (pc := 54) dX6_begin0_54 ?_
  refine V_imul (pc := 55) dX6_begin0_55 ?_
  refine V_iald (pc := 56) dX6_begin0_56 sh_42 (by omega) (by omega) (v := B 7 i) (by first | exact hM.i0 hi | (simp [setI_at]; exact hM.i0 hi)) ?_
  refine V_aload_0 (pc := 57) dX6_begin0_57 ?_
  refine V_getc (pc := 58) dX6_begin0_58 gf_X6_37 (by omega) ?_
  refine V_iconst (pc := 61) dX6_begin0_61 ?_
  refine V_iload_3 (pc := 62) dX6_begin0_62 ?_
  refine V_imul (pc := 63) dX6_begin0_63 ?_
  refine V_iconst (pc := 64) dX6_begin0_64 ?_
  refine V_iadd (pc := 65) dX6_begin0_65 ?_
  refine V_iald (pc := 66) dX6_begin0_66 sh_42 (by omega) (by omega) (v := B 8 i) (by first | exact hM.i1 hi | (simp [setI_at]; exact hM.i1 hi)) ?_
  refine V_icmp_ge (pc := 67) 74 dX6_begin0_67 (by decide) (by omega) (by omega) (fun c_67 => ?_) (fun c_67 => ?_)
  · refine V_iconst (pc := 74) dX6_begin0_74 ?_
    refine V_zast (pc := 75) dX6_begin0_75 sh_51 (by omega) (by omega) (by omega) ?_
    refine V_vret (pc := 76) dX6_begin0_76 rfl ?_
    first | exact ⟨rfl, ⟨by simp [setI_at], by simp [setI_at], by simp [setI_at]; exact (bI_t (by omega)).symm⟩, fun x hx => by simp [setI_at, hx], fun x hx => by simp [setI_at, hx], (KR.set (by omega)).tr ((KR.set (by omega)).tr (KR.set (by omega)))⟩ | exact ⟨rfl, ⟨by simp [setI_at], by simp [setI_at], by simp [setI_at]; exact (bI_f (by omega)).symm⟩, fun x hx => by simp [setI_at, hx], fun x hx => by simp [setI_at, hx], (KR.set (by omega)).tr ((KR.set (by omega)).tr (KR.set (by omega)))⟩
  · refine V_iconst (pc := 70) dX6_begin0_70 ?_
    refine V_goto (pc := 71) 75 dX6_begin0_71 (by decide) ?_
    refine V_zast (pc := 75) dX6_begin0_75 sh_51 (by omega) (by omega) (by omega) ?_
    refine V_vret (pc := 76) dX6_begin0_76 rfl ?_
    first | exact ⟨rfl, ⟨by simp [setI_at], by simp [setI_at], by simp [setI_at]; exact (bI_t (by omega)).symm⟩, fun x hx => by simp [setI_at, hx], fun x hx => by simp [setI_at, hx], (KR.set (by omega)).tr ((KR.set (by omega)).tr (KR.set (by omega)))⟩ | exact ⟨rfl, ⟨by simp [setI_at], by simp [setI_at], by simp [setI_at]; exact (bI_f (by omega)).symm⟩, fun x hx => by simp [setI_at, hx], fun x hx => by simp [setI_at, hx], (KR.set (by omega)).tr ((KR.set (by omega)).tr (KR.set (by omega)))⟩

set_option maxRecDepth 20000 in
set_option maxHeartbeats 1000000 in
theorem c_X6_bleach0 {d : Nat} (hd : 1 ≤ d) {σ : MM} {e y s b : Int} (he : 0 ≤ e ∧ e < 7) (hy : 0 ≤ y ∧ y < 21) (h0 : 0 ≤ s ∧ s ≤ 60) (h : σ 50 0 (7 * y + e) = s) (h2 : σ 52 0 e = b) : V yX6_bleach0 cX6_bleach0 3 none d (QZ (fun σ' => MUP σ σ' y e (max 0 (s - 10)) b 0)) 0 [some (vR 34 0), some (vI e), some (vI y)] [] σ := by
  refine V_aload_0 (pc := 0) dX6_bleach0_0 ?_
  refine V_getc (pc := 1) dX6_bleach0_1 gf_X6_62 (by omega) ?_
  refine V_bipush (pc := 4) dX6_bleach0_4 (by decide) ?_
  refine V_iload_2 (pc := 6) dX6_bleach0_6 ?_
  refine V_imul (pc := 7) dX6_bleach0_7 ?_
  refine V_iload_1 (pc := 8) dX6_bleach0_8 ?_
  refine V_iadd (pc := 9) dX6_bleach0_9 ?_
  refine V_iconst (pc := 10) dX6_bleach0_10 ?_
  refine V_aload_0 (pc := 11) dX6_bleach0_11 ?_
  refine V_getc (pc := 12) dX6_bleach0_12 gf_X6_62 (by omega) ?_
  refine V_bipush (pc := 15) dX6_bleach0_15 (by decide) ?_
  refine V_iload_2 (pc := 17) dX6_bleach0_17 ?_
  refine V_imul (pc := 18) dX6_bleach0_18 ?_
  refine V_iload_1 (pc := 19) dX6_bleach0_19 ?_
  refine V_iadd (pc := 20) dX6_bleach0_20 ?_
  refine V_iald (pc := 21) dX6_bleach0_21 sh_50 (by omega) (by omega) h ?_
  refine V_bipush (pc := 22) dX6_bleach0_22 (by decide) ?_
  refine V_isub (pc := 24) dX6_bleach0_24 ?_
  refine V_callS2p (pc := 25) dX6_bleach0_25 kv_X6_280 (d - 1) (by omega) rfl (c_X6_moreOf (by omega) (by omega) (by omega)) ?_
  refine V_iast (pc := 28) dX6_bleach0_28 sh_50 (by omega) (by omega) ?_
  refine V_aload_0 (pc := 29) dX6_bleach0_29 ?_
  refine V_getc (pc := 30) dX6_bleach0_30 gf_X6_65 (by omega) ?_
  refine V_bipush (pc := 33) dX6_bleach0_33 (by decide) ?_
  refine V_iload_2 (pc := 35) dX6_bleach0_35 ?_
  refine V_imul (pc := 36) dX6_bleach0_36 ?_
  refine V_iload_1 (pc := 37) dX6_bleach0_37 ?_
  refine V_iadd (pc := 38) dX6_bleach0_38 ?_
  refine V_iconst (pc := 39) dX6_bleach0_39 ?_
  refine V_zast (pc := 40) dX6_bleach0_40 sh_51 (by omega) (by omega) (by omega) ?_
  refine V_vret (pc := 41) dX6_bleach0_41 rfl ?_
  exact ⟨rfl, ⟨by simp [setI_at], by simp [setI_at]; exact h2, by simp [setI_at]⟩, fun x hx => by simp [setI_at, hx], fun x hx => by simp [setI_at], (KR.set (by omega)).tr (KR.set (by omega))⟩

theorem bt_127 {e : Int} : bt 0 e = 0 := bt_0 e
/-- the book as told, laid -/
theorem LD_lay {σ : MM} {B : BK} (hW : WB B) (h23 : σ 34 0 23 = B 2 0) (h24 : σ 34 0 24 = 0) (h25 : σ 34 0 25 = 0) (h26 : σ 34 0 26 = -1) (h28 : σ 34 0 28 = 0) (h29 : σ 34 0 29 = -1) (h47 : ∀ e : Int, 0 ≤ e ∧ e < B 6 0 → σ 47 0 e = B 13 e ∧ σ 48 0 e = B 12 e) (h49 : ∀ p : Int, 0 ≤ p ∧ p < B 5 0 → σ 49 0 p = B 10 p) : LD σ B B 0 := by
  have hs := hW.s
  refine ⟨hW, fun t _ => rfl, h23, ⟨h24, by omega, by omega⟩, ⟨by rw [h25]; omega, fun e he => Or.inr ⟨by rw [h25]; exact bt_0 e, (h47 e he).1⟩⟩, fun e he => (h47 e he).2, h49, ?_⟩
  refine ⟨by omega, by omega, by omega, fun k _ => ⟨rfl, rfl, rfl⟩, by rw [if_pos h26, if_pos h29]; omega, fun q => absurd h26 q, fun q => absurd h29 q⟩

set_option maxRecDepth 20000 in
set_option maxHeartbeats 1000000 in
theorem c_X6_lays {d : Nat} (hd : 1 ≤ d) {σ : MM} {B : BK} (hM : MB σ 0 B) (hW : WB B) : V yX6_lays cX6_lays 2 none d (QZ (fun σ' => LD σ' B B 0 ∧ KM σ σ')) 0 [some (vR 34 0), none] [] σ := by
  have hs := hW.s
  have loop2 : ∀ i : Nat, i ≤ (B 5 0).toNat → ∀ σi, (((σi 34 0 23 = B 2 0 ∧ σi 34 0 24 = 0 ∧ σi 34 0 25 = 0 ∧ σi 34 0 26 = -1 ∧ σi 34 0 28 = 0 ∧ σi 34 0 29 = -1) ∧ KM σ σi) ∧ (∀ e : Int, 0 ≤ e ∧ e < B 6 0 → σi 47 0 e = B 13 e ∧ σi 48 0 e = B 12 e) ∧ (∀ p : Int, 0 ≤ p ∧ p < (i : Int) → σi 49 0 p = B 10 p)) → V yX6_lays cX6_lays 2 none d (QZ (fun σ' => LD σ' B B 0 ∧ KM σ σ')) 85 [some (vR 34 0), some (vI (i : Int))] [] σi := by
    refine up_ind (P := fun i : Nat => ∀ σi, (((σi 34 0 23 = B 2 0 ∧ σi 34 0 24 = 0 ∧ σi 34 0 25 = 0 ∧ σi 34 0 26 = -1 ∧ σi 34 0 28 = 0 ∧ σi 34 0 29 = -1) ∧ KM σ σi) ∧ (∀ e : Int, 0 ≤ e ∧ e < B 6 0 → σi 47 0 e = B 13 e ∧ σi 48 0 e = B 12 e) ∧ (∀ p : Int, 0 ≤ p ∧ p < (i : Int) → σi 49 0 p = B 10 p)) → V yX6_lays cX6_lays 2 none d (QZ (fun σ' => LD σ' B B 0 ∧ KM σ σ')) 85 [some (vR 34 0), some (vI (i : Int))] [] σi) ?_ ?_
    · intro σi hI
      have hMi := hI.1.2.mb hM
      refine V_iload_1 (pc := 85) dX6_lays_85 ?_
      refine V_aload_0 (pc := 86) dX6_lays_86 ?_
      refine V_getc (pc := 87) dX6_lays_87 gf_X6_34 (by omega) ?_
      refine V_iconst (pc := 90) dX6_lays_90 ?_
      refine V_iald (pc := 91) dX6_lays_91 sh_41 (by omega) (by omega) hMi.h4 ?_
      refine V_icmp_ge (pc := 92) 113 dX6_lays_92 (by decide) (by omega) (by omega) (fun c_92 => ?_) (fun c_92 => ?_)
      · refine V_vret (pc := 113) dX6_lays_113 rfl ?_
        obtain ⟨⟨⟨a1, a2, a3, a4, a5, a6⟩, k9⟩, b1, b2⟩ := hI
        exact ⟨rfl, LD_lay hW a1 a2 a3 a4 a5 a6 b1 (fun p hp => b2 p (by omega)), k9⟩
      · exact absurd c_92 (by omega)
    · intro i hi ih σi hI
      have hMi := hI.1.2.mb hM
      refine V_iload_1 (pc := 85) dX6_lays_85 ?_
      refine V_aload_0 (pc := 86) dX6_lays_86 ?_
      refine V_getc (pc := 87) dX6_lays_87 gf_X6_34 (by omega) ?_
      refine V_iconst (pc := 90) dX6_lays_90 ?_
      refine V_iald (pc := 91) dX6_lays_91 sh_41 (by omega) (by omega) hMi.h4 ?_
      refine V_icmp_ge (pc := 92) 113 dX6_lays_92 (by decide) (by omega) (by omega) (fun c_92 => ?_) (fun c_92 => ?_)
      · exact absurd c_92 (by omega)
      · refine V_aload_0 (pc := 95) dX6_lays_95 ?_
        refine V_getc (pc := 96) dX6_lays_96 gf_X6_59 (by omega) ?_
        refine V_iload_1 (pc := 99) dX6_lays_99 ?_
        refine V_aload_0 (pc := 100) dX6_lays_100 ?_
        refine V_getc (pc := 101) dX6_lays_101 gf_X6_40 (by omega) ?_
        refine V_iload_1 (pc := 104) dX6_lays_104 ?_
        refine V_iald (pc := 105) dX6_lays_105 sh_43 (by omega) (by omega) (hMi.p0 (by omega)) ?_
        refine V_iast (pc := 106) dX6_lays_106 sh_49 (by omega) (by omega) ?_
        refine V_iinc_1 (pc := 107) dX6_lays_107 ?_
        refine V_goto (pc := 110) 85 dX6_lays_110 (by decide) ?_
        refine V.sub (by simp only [subL, Option.some.injEq, Sum.inl.injEq, reduceCtorEq, true_or, or_true, false_or, true_and, and_true]; omega) (ih _ ⟨⟨by simp [setI_at]; exact hI.1.1, hI.1.2.tr (KM.set (by unfold SCM; omega))⟩, fun e he => by simp [setI_at]; exact hI.2.1 e he, fun p hp => ?_⟩)
        by_cases q : p = i
        · subst q; simp [setI_at]
        · have := hI.2.2 p (by omega)
          simp [setI_at, q]; exact this
  have loop1 : ∀ i : Nat, i ≤ (B 6 0).toNat → ∀ σi, (((σi 34 0 23 = B 2 0 ∧ σi 34 0 24 = 0 ∧ σi 34 0 25 = 0 ∧ σi 34 0 26 = -1 ∧ σi 34 0 28 = 0 ∧ σi 34 0 29 = -1) ∧ KM σ σi) ∧ (∀ e : Int, 0 ≤ e ∧ e < (i : Int) → σi 47 0 e = B 13 e ∧ σi 48 0 e = B 12 e)) → V yX6_lays cX6_lays 2 none d (QZ (fun σ' => LD σ' B B 0 ∧ KM σ σ')) 37 [some (vR 34 0), some (vI (i : Int))] [] σi := by
    refine up_ind (P := fun i : Nat => ∀ σi, (((σi 34 0 23 = B 2 0 ∧ σi 34 0 24 = 0 ∧ σi 34 0 25 = 0 ∧ σi 34 0 26 = -1 ∧ σi 34 0 28 = 0 ∧ σi 34 0 29 = -1) ∧ KM σ σi) ∧ (∀ e : Int, 0 ≤ e ∧ e < (i : Int) → σi 47 0 e = B 13 e ∧ σi 48 0 e = B 12 e)) → V yX6_lays cX6_lays 2 none d (QZ (fun σ' => LD σ' B B 0 ∧ KM σ σ')) 37 [some (vR 34 0), some (vI (i : Int))] [] σi) ?_ ?_
    · intro σi hI
      have hMi := hI.1.2.mb hM
      refine V_iload_1 (pc := 37) dX6_lays_37 ?_
      refine V_aload_0 (pc := 38) dX6_lays_38 ?_
      refine V_callV0p (pc := 39) dX6_lays_39 kv_X6_236 rc_34 (by omega) (d - 1) (by omega) rfl (c_X6_entries (by omega) hMi hW) ?_
      refine V_icmp_ge (pc := 42) 83 dX6_lays_42 (by decide) (by omega) (by omega) (fun c_42 => ?_) (fun c_42 => ?_)
      · refine V_iconst (pc := 83) dX6_lays_83 ?_
        refine V_istore_1 (pc := 84) dX6_lays_84 ?_
        exact loop2 0 (by omega) σi ⟨hI.1, fun e he => hI.2 e (by omega), fun p hp => by omega⟩
      · exact absurd c_42 (by omega)
    · intro i hi ih σi hI
      have hMi := hI.1.2.mb hM
      refine V_iload_1 (pc := 37) dX6_lays_37 ?_
      refine V_aload_0 (pc := 38) dX6_lays_38 ?_
      refine V_callV0p (pc := 39) dX6_lays_39 kv_X6_236 rc_34 (by omega) (d - 1) (by omega) rfl (c_X6_entries (by omega) hMi hW) ?_
      refine V_icmp_ge (pc := 42) 83 dX6_lays_42 (by decide) (by omega) (by omega) (fun c_42 => ?_) (fun c_42 => ?_)
      · exact absurd c_42 (by omega)
      · refine V_aload_0 (pc := 45) dX6_lays_45 ?_
        refine V_getc (pc := 46) dX6_lays_46 gf_X6_53 (by omega) ?_
        refine V_iload_1 (pc := 49) dX6_lays_49 ?_
        refine V_aload_0 (pc := 50) dX6_lays_50 ?_
        refine V_getc (pc := 51) dX6_lays_51 gf_X6_43 (by omega) ?_
        refine V_iconst (pc := 54) dX6_lays_54 ?_
        refine V_iload_1 (pc := 55) dX6_lays_55 ?_
        refine V_imul (pc := 56) dX6_lays_56 ?_
        refine V_iconst (pc := 57) dX6_lays_57 ?_
        refine V_iadd (pc := 58) dX6_lays_58 ?_
        refine V_iald (pc := 59) dX6_lays_59 sh_44 (by omega) (by omega) (hMi.t2 (by omega)) ?_
        refine V_iast (pc := 60) dX6_lays_60 sh_47 (by omega) (by omega) ?_
        refine V_aload_0 (pc := 61) dX6_lays_61 ?_
        refine V_getc (pc := 62) dX6_lays_62 gf_X6_56 (by omega) ?_
        refine V_iload_1 (pc := 65) dX6_lays_65 ?_
        refine V_aload_0 (pc := 66) dX6_lays_66 ?_
        refine V_getc (pc := 67) dX6_lays_67 gf_X6_43 (by omega) ?_
        refine V_iconst (pc := 70) dX6_lays_70 ?_
        refine V_iload_1 (pc := 71) dX6_lays_71 ?_
        refine V_imul (pc := 72) dX6_lays_72 ?_
        refine V_iconst (pc := 73) dX6_lays_73 ?_
        refine V_iadd (pc := 74) dX6_lays_74 ?_
        refine V_iald (pc := 75) dX6_lays_75 sh_44 (by omega) (by omega) (v := B 12 i) (by simp [setI_at]; exact hMi.t1 (by omega)) ?_
        refine V_iast (pc := 76) dX6_lays_76 sh_48 (by omega) (by omega) ?_
        refine V_iinc_1 (pc := 77) dX6_lays_77 ?_
        refine V_goto (pc := 80) 37 dX6_lays_80 (by decide) ?_
        refine V.sub (by simp only [subL, Option.some.injEq, Sum.inl.injEq, reduceCtorEq, true_or, or_true, false_or, true_and, and_true]; omega) (ih _ ⟨⟨by simp [setI_at]; exact hI.1.1, hI.1.2.tr ((KM.set (by unfold SCM; omega)).tr (KM.set (by unfold SCM; omega)))⟩, fun e he => ?_⟩)
        by_cases q : e = i
        · subst q; simp [setI_at]
        · have := hI.2 e (by omega)
          simp [setI_at, q]; exact this
  refine V_aload_0 (pc := 0) dX6_lays_0 ?_
  refine V_aload_0 (pc := 1) dX6_lays_1 ?_
  refine V_getc (pc := 2) dX6_lays_2 gf_X6_34 (by omega) ?_
  refine V_iconst (pc := 5) dX6_lays_5 ?_
  refine V_iald (pc := 6) dX6_lays_6 sh_41 (by omega) (by omega) hM.h1 ?_
  refine V_puti (pc := 7) dX6_lays_7 gf_X6_252 (by omega) ?_
  refine V_aload_0 (pc := 10) dX6_lays_10 ?_
  refine V_iconst (pc := 11) dX6_lays_11 ?_
  refine V_puti (pc := 12) dX6_lays_12 gf_X6_255 (by omega) ?_
  refine V_aload_0 (pc := 15) dX6_lays_15 ?_
  refine V_iconst (pc := 16) dX6_lays_16 ?_
  refine V_puti (pc := 17) dX6_lays_17 gf_X6_258 (by omega) ?_
  refine V_aload_0 (pc := 20) dX6_lays_20 ?_
  refine V_iconst (pc := 21) dX6_lays_21 ?_
  refine V_puti (pc := 22) dX6_lays_22 gf_X6_261 (by omega) ?_
  refine V_aload_0 (pc := 25) dX6_lays_25 ?_
  refine V_iconst (pc := 26) dX6_lays_26 ?_
  refine V_puti (pc := 27) dX6_lays_27 gf_X6_264 (by omega) ?_
  refine V_aload_0 (pc := 30) dX6_lays_30 ?_
  refine V_iconst (pc := 31) dX6_lays_31 ?_
  refine V_puti (pc := 32) dX6_lays_32 gf_X6_267 (by omega) ?_
  refine V_iconst (pc := 35) dX6_lays_35 ?_
  refine V_istore_1 (pc := 36) dX6_lays_36 ?_
  exact loop1 0 (by omega) _ ⟨⟨by simp [setI_at], (KM.set (by unfold SCM; omega)).tr ((KM.set (by unfold SCM; omega)).tr ((KM.set (by unfold SCM; omega)).tr ((KM.set (by unfold SCM; omega)).tr ((KM.set (by unfold SCM; omega)).tr (KM.set (by unfold SCM; omega))))))⟩, fun e he => by omega⟩
