set_option maxRecDepth 20000 in
set_option maxHeartbeats 1000000 in
theorem c_X5_noBook {d : Nat} (hd : 0 ≤ d) {σ : MM} {B : BK} (hB : CB σ 1 B) (hs : WS B) : V yX5_noBook cX5_noBook 1 (some .boolean) d (QI (fun v σ' => v = bI (B 0 0 = 0) ∧ σ' = σ)) 0 [some (vR 0 0)] [] σ := by
  refine V_aload_0 (pc := 0) dX5_noBook_0 ?_
  refine V_getc (pc := 1) dX5_noBook_1 gf_X5_23 (by omega) ?_
  refine V_geti (pc := 4) dX5_noBook_4 gf_X5_102 (by omega) hB.s0 ?_
  refine V_if_ne (pc := 7) 14 dX5_noBook_7 (by decide) (by omega) (fun c_7 => ?_) (fun c_7 => ?_)
  · refine V_iconst (pc := 14) dX5_noBook_14 ?_
    refine V_iretZ (pc := 15) dX5_noBook_15 rfl (by omega) ?_
    exact ⟨_, rfl, by first | exact (bI_t (by omega)).symm | exact (bI_f (by omega)).symm, rfl⟩
  · refine V_iconst (pc := 10) dX5_noBook_10 ?_
    refine V_goto (pc := 11) 15 dX5_noBook_11 (by decide) ?_
    refine V_iretZ (pc := 15) dX5_noBook_15 rfl (by omega) ?_
    exact ⟨_, rfl, by first | exact (bI_t (by omega)).symm | exact (bI_f (by omega)).symm, rfl⟩

set_option maxRecDepth 20000 in
set_option maxHeartbeats 1000000 in
theorem c_X5_noYear {d : Nat} (hd : 1 ≤ d) {σ : MM} {B : BK} {y : Int} (hB : CB σ 1 B) (hs : WS B) (hy : IR y) : V yX5_noYear cX5_noYear 2 (some .boolean) d (QI (fun v σ' => v = bI (B 0 0 = 0 ∨ y < 0 ∨ B 1 0 < y) ∧ σ' = σ)) 0 [some (vR 0 0), some (vI y)] [] σ := by
  refine V_aload_0 (pc := 0) dX5_noYear_0 ?_
  refine V_callV0p (pc := 1) dX5_noYear_1 kv_X5_154 rc_0 (by omega) (d - 1) (by omega) rfl (c_X5_noBook (by omega) hB hs) ?_
  refine V_if_ne_b (pc := 4) 22 dX5_noYear_4 (by decide) (fun c_4 => ?_) (fun c_4 => ?_)
  · refine V_iconst (pc := 22) dX5_noYear_22 ?_
    refine V_goto (pc := 23) 27 dX5_noYear_23 (by decide) ?_
    refine V_iretZ (pc := 27) dX5_noYear_27 rfl (by omega) ?_
    exact ⟨_, rfl, by first | exact (bI_t (by omega)).symm | exact (bI_f (by omega)).symm, rfl⟩
  · refine V_iload_1 (pc := 7) dX5_noYear_7 ?_
    refine V_if_lt (pc := 8) 22 dX5_noYear_8 (by decide) (by omega) (fun c_8 => ?_) (fun c_8 => ?_)
    · refine V_iconst (pc := 22) dX5_noYear_22 ?_
      refine V_goto (pc := 23) 27 dX5_noYear_23 (by decide) ?_
      refine V_iretZ (pc := 27) dX5_noYear_27 rfl (by omega) ?_
      exact ⟨_, rfl, by first | exact (bI_t (by omega)).symm | exact (bI_f (by omega)).symm, rfl⟩
    · refine V_iload_1 (pc := 11) dX5_noYear_11 ?_
      refine V_aload_0 (pc := 12) dX5_noYear_12 ?_
      refine V_getc (pc := 13) dX5_noYear_13 gf_X5_23 (by omega) ?_
      refine V_geti (pc := 16) dX5_noYear_16 gf_X5_174 (by omega) hB.s1 ?_
      refine V_icmp_le (pc := 19) 26 dX5_noYear_19 (by decide) (by omega) (by omega) (fun c_19 => ?_) (fun c_19 => ?_)
      · refine V_iconst (pc := 26) dX5_noYear_26 ?_
        refine V_iretZ (pc := 27) dX5_noYear_27 rfl (by omega) ?_
        exact ⟨_, rfl, by first | exact (bI_t (by omega)).symm | exact (bI_f (by omega)).symm, rfl⟩
      · refine V_iconst (pc := 22) dX5_noYear_22 ?_
        refine V_goto (pc := 23) 27 dX5_noYear_23 (by decide) ?_
        refine V_iretZ (pc := 27) dX5_noYear_27 rfl (by omega) ?_
        exact ⟨_, rfl, by first | exact (bI_t (by omega)).symm | exact (bI_f (by omega)).symm, rfl⟩

set_option maxRecDepth 20000 in
set_option maxHeartbeats 1000000 in
theorem c_X5_noChanceYear {d : Nat} (hd : 2 ≤ d) {σ : MM} {B : BK} {y : Int} (hB : CB σ 1 B) (hs : WS B) (hy : IR y) : V yX5_noChanceYear cX5_noChanceYear 2 (some .boolean) d (QI (fun v σ' => v = bI (B 0 0 = 0 ∨ y < 1 ∨ B 1 0 < y ∨ 8 < y) ∧ σ' = σ)) 0 [some (vR 0 0), some (vI y)] [] σ := by
  refine V_aload_0 (pc := 0) dX5_noChanceYear_0 ?_
  refine V_iload_1 (pc := 1) dX5_noChanceYear_1 ?_
  refine V_callV1p (pc := 2) dX5_noChanceYear_2 kv_X5_148 rc_0 (by omega) (d - 1) (by omega) rfl (c_X5_noYear (by omega) hB hs (by omega)) ?_
  refine V_if_ne_b (pc := 5) 19 dX5_noChanceYear_5 (by decide) (fun c_5 => ?_) (fun c_5 => ?_)
  · refine V_iconst (pc := 19) dX5_noChanceYear_19 ?_
    refine V_goto (pc := 20) 24 dX5_noChanceYear_20 (by decide) ?_
    refine V_iretZ (pc := 24) dX5_noChanceYear_24 rfl (by omega) ?_
    exact ⟨_, rfl, by first | exact (bI_t (by omega)).symm | exact (bI_f (by omega)).symm, rfl⟩
  · refine V_iload_1 (pc := 8) dX5_noChanceYear_8 ?_
    refine V_iconst (pc := 9) dX5_noChanceYear_9 ?_
    refine V_icmp_lt (pc := 10) 19 dX5_noChanceYear_10 (by decide) (by omega) (by omega) (fun c_10 => ?_) (fun c_10 => ?_)
    · refine V_iconst (pc := 19) dX5_noChanceYear_19 ?_
      refine V_goto (pc := 20) 24 dX5_noChanceYear_20 (by decide) ?_
      refine V_iretZ (pc := 24) dX5_noChanceYear_24 rfl (by omega) ?_
      exact ⟨_, rfl, by first | exact (bI_t (by omega)).symm | exact (bI_f (by omega)).symm, rfl⟩
    · refine V_iload_1 (pc := 13) dX5_noChanceYear_13 ?_
      refine V_bipush (pc := 14) dX5_noChanceYear_14 (by decide) ?_
      refine V_icmp_le (pc := 16) 23 dX5_noChanceYear_16 (by decide) (by omega) (by omega) (fun c_16 => ?_) (fun c_16 => ?_)
      · refine V_iconst (pc := 23) dX5_noChanceYear_23 ?_
        refine V_iretZ (pc := 24) dX5_noChanceYear_24 rfl (by omega) ?_
        exact ⟨_, rfl, by first | exact (bI_t (by omega)).symm | exact (bI_f (by omega)).symm, rfl⟩
      · refine V_iconst (pc := 19) dX5_noChanceYear_19 ?_
        refine V_goto (pc := 20) 24 dX5_noChanceYear_20 (by decide) ?_
        refine V_iretZ (pc := 24) dX5_noChanceYear_24 rfl (by omega) ?_
        exact ⟨_, rfl, by first | exact (bI_t (by omega)).symm | exact (bI_f (by omega)).symm, rfl⟩

set_option maxRecDepth 20000 in
set_option maxHeartbeats 1000000 in
theorem c_X5_noInk {d : Nat} (hd : 0 ≤ d) {σ : MM} {B : BK} {y : Int} (hB : CB σ 1 B) (hs : WS B) (hy : IR y) : V yX5_noInk cX5_noInk 2 (some .boolean) d (QI (fun v σ' => v = bI (y < 0 ∨ B 4 0 ≤ y) ∧ σ' = σ)) 0 [some (vR 0 0), some (vI y)] [] σ := by
  refine V_iload_1 (pc := 0) dX5_noInk_0 ?_
  refine V_if_lt (pc := 1) 15 dX5_noInk_1 (by decide) (by omega) (fun c_1 => ?_) (fun c_1 => ?_)
  · refine V_iconst (pc := 15) dX5_noInk_15 ?_
    refine V_goto (pc := 16) 20 dX5_noInk_16 (by decide) ?_
    refine V_iretZ (pc := 20) dX5_noInk_20 rfl (by omega) ?_
    exact ⟨_, rfl, by first | exact (bI_t (by omega)).symm | exact (bI_f (by omega)).symm, rfl⟩
  · refine V_iload_1 (pc := 4) dX5_noInk_4 ?_
    refine V_aload_0 (pc := 5) dX5_noInk_5 ?_
    refine V_getc (pc := 6) dX5_noInk_6 gf_X5_23 (by omega) ?_
    refine V_geti (pc := 9) dX5_noInk_9 gf_X5_241 (by omega) hB.s4 ?_
    refine V_icmp_lt (pc := 12) 19 dX5_noInk_12 (by decide) (by omega) (by omega) (fun c_12 => ?_) (fun c_12 => ?_)
    · refine V_iconst (pc := 19) dX5_noInk_19 ?_
      refine V_iretZ (pc := 20) dX5_noInk_20 rfl (by omega) ?_
      exact ⟨_, rfl, by first | exact (bI_t (by omega)).symm | exact (bI_f (by omega)).symm, rfl⟩
    · refine V_iconst (pc := 15) dX5_noInk_15 ?_
      refine V_goto (pc := 16) 20 dX5_noInk_16 (by decide) ?_
      refine V_iretZ (pc := 20) dX5_noInk_20 rfl (by omega) ?_
      exact ⟨_, rfl, by first | exact (bI_t (by omega)).symm | exact (bI_f (by omega)).symm, rfl⟩

set_option maxRecDepth 20000 in
set_option maxHeartbeats 1000000 in
theorem c_X5_noPage {d : Nat} (hd : 0 ≤ d) {σ : MM} {B : BK} {y : Int} (hB : CB σ 1 B) (hs : WS B) (hy : IR y) : V yX5_noPage cX5_noPage 2 (some .boolean) d (QI (fun v σ' => v = bI (y < 0 ∨ B 5 0 ≤ y) ∧ σ' = σ)) 0 [some (vR 0 0), some (vI y)] [] σ := by
  refine V_iload_1 (pc := 0) dX5_noPage_0 ?_
  refine V_if_lt (pc := 1) 15 dX5_noPage_1 (by decide) (by omega) (fun c_1 => ?_) (fun c_1 => ?_)
  · refine V_iconst (pc := 15) dX5_noPage_15 ?_
    refine V_goto (pc := 16) 20 dX5_noPage_16 (by decide) ?_
    refine V_iretZ (pc := 20) dX5_noPage_20 rfl (by omega) ?_
    exact ⟨_, rfl, by first | exact (bI_t (by omega)).symm | exact (bI_f (by omega)).symm, rfl⟩
  · refine V_iload_1 (pc := 4) dX5_noPage_4 ?_
    refine V_aload_0 (pc := 5) dX5_noPage_5 ?_
    refine V_getc (pc := 6) dX5_noPage_6 gf_X5_23 (by omega) ?_
    refine V_geti (pc := 9) dX5_noPage_9 gf_X5_313 (by omega) hB.s5 ?_
    refine V_icmp_lt (pc := 12) 19 dX5_noPage_12 (by decide) (by omega) (by omega) (fun c_12 => ?_) (fun c_12 => ?_)
    · refine V_iconst (pc := 19) dX5_noPage_19 ?_
      refine V_iretZ (pc := 20) dX5_noPage_20 rfl (by omega) ?_
      exact ⟨_, rfl, by first | exact (bI_t (by omega)).symm | exact (bI_f (by omega)).symm, rfl⟩
    · refine V_iconst (pc := 15) dX5_noPage_15 ?_
      refine V_goto (pc := 16) 20 dX5_noPage_16 (by decide) ?_
      refine V_iretZ (pc := 20) dX5_noPage_20 rfl (by omega) ?_
      exact ⟨_, rfl, by first | exact (bI_t (by omega)).symm | exact (bI_f (by omega)).symm, rfl⟩

set_option maxRecDepth 20000 in
set_option maxHeartbeats 1000000 in
theorem c_X5_noEntry {d : Nat} (hd : 0 ≤ d) {σ : MM} {B : BK} {y : Int} (hB : CB σ 1 B) (hs : WS B) (hy : IR y) : V yX5_noEntry cX5_noEntry 2 (some .boolean) d (QI (fun v σ' => v = bI (y < 0 ∨ B 6 0 ≤ y) ∧ σ' = σ)) 0 [some (vR 0 0), some (vI y)] [] σ := by
  refine V_iload_1 (pc := 0) dX5_noEntry_0 ?_
  refine V_if_lt (pc := 1) 15 dX5_noEntry_1 (by decide) (by omega) (fun c_1 => ?_) (fun c_1 => ?_)
  · refine V_iconst (pc := 15) dX5_noEntry_15 ?_
    refine V_goto (pc := 16) 20 dX5_noEntry_16 (by decide) ?_
    refine V_iretZ (pc := 20) dX5_noEntry_20 rfl (by omega) ?_
    exact ⟨_, rfl, by first | exact (bI_t (by omega)).symm | exact (bI_f (by omega)).symm, rfl⟩
  · refine V_iload_1 (pc := 4) dX5_noEntry_4 ?_
    refine V_aload_0 (pc := 5) dX5_noEntry_5 ?_
    refine V_getc (pc := 6) dX5_noEntry_6 gf_X5_23 (by omega) ?_
    refine V_geti (pc := 9) dX5_noEntry_9 gf_X5_158 (by omega) hB.s6 ?_
    refine V_icmp_lt (pc := 12) 19 dX5_noEntry_12 (by decide) (by omega) (by omega) (fun c_12 => ?_) (fun c_12 => ?_)
    · refine V_iconst (pc := 19) dX5_noEntry_19 ?_
      refine V_iretZ (pc := 20) dX5_noEntry_20 rfl (by omega) ?_
      exact ⟨_, rfl, by first | exact (bI_t (by omega)).symm | exact (bI_f (by omega)).symm, rfl⟩
    · refine V_iconst (pc := 15) dX5_noEntry_15 ?_
      refine V_goto (pc := 16) 20 dX5_noEntry_16 (by decide) ?_
      refine V_iretZ (pc := 20) dX5_noEntry_20 rfl (by omega) ?_
      exact ⟨_, rfl, by first | exact (bI_t (by omega)).symm | exact (bI_f (by omega)).symm, rfl⟩

set_option maxRecDepth 20000 in
set_option maxHeartbeats 1000000 in
theorem c_X5_noGame {d : Nat} (hd : 1 ≤ d) {σ : MM} {B : BK} {p q : Int} (hB : CB σ 1 B) (hs : WS B) (hp : IR p) (hq : IR q) : V yX5_noGame cX5_noGame 3 (some .boolean) d (QI (fun v σ' => v = bI ((p < 0 ∨ B 5 0 ≤ p) ∨ (q < 0 ∨ B 5 0 ≤ q) ∨ p = q) ∧ σ' = σ)) 0 [some (vR 0 0), some (vI p), some (vI q)] [] σ := by
  refine V_aload_0 (pc := 0) dX5_noGame_0 ?_
  refine V_iload_1 (pc := 1) dX5_noGame_1 ?_
  refine V_callV1p (pc := 2) dX5_noGame_2 kv_X5_118 rc_0 (by omega) (d - 1) (by omega) rfl (c_X5_noPage (by omega) hB hs (by omega)) ?_
  refine V_if_ne_b (pc := 5) 21 dX5_noGame_5 (by decide) (fun c_5 => ?_) (fun c_5 => ?_)
  · refine V_iconst (pc := 21) dX5_noGame_21 ?_
    refine V_goto (pc := 22) 26 dX5_noGame_22 (by decide) ?_
    refine V_iretZ (pc := 26) dX5_noGame_26 rfl (by omega) ?_
    exact ⟨_, rfl, by first | exact (bI_t (by omega)).symm | exact (bI_f (by omega)).symm, rfl⟩
  · refine V_aload_0 (pc := 8) dX5_noGame_8 ?_
    refine V_iload_2 (pc := 9) dX5_noGame_9 ?_
    refine V_callV1p (pc := 10) dX5_noGame_10 kv_X5_118 rc_0 (by omega) (d - 1) (by omega) rfl (c_X5_noPage (by omega) hB hs (by omega)) ?_
    refine V_if_ne_b (pc := 13) 21 dX5_noGame_13 (by decide) (fun c_13 => ?_) (fun c_13 => ?_)
    · refine V_iconst (pc := 21) dX5_noGame_21 ?_
      refine V_goto (pc := 22) 26 dX5_noGame_22 (by decide) ?_
      refine V_iretZ (pc := 26) dX5_noGame_26 rfl (by omega) ?_
      exact ⟨_, rfl, by first | exact (bI_t (by omega)).symm | exact (bI_f (by omega)).symm, rfl⟩
    · refine V_iload_1 (pc := 16) dX5_noGame_16 ?_
      refine V_iload_2 (pc := 17) dX5_noGame_17 ?_
      refine V_icmp_ne (pc := 18) 25 dX5_noGame_18 (by decide) (by omega) (by omega) (fun c_18 => ?_) (fun c_18 => ?_)
      · refine V_iconst (pc := 25) dX5_noGame_25 ?_
        refine V_iretZ (pc := 26) dX5_noGame_26 rfl (by omega) ?_
        exact ⟨_, rfl, by first | exact (bI_t (by omega)).symm | exact (bI_f (by omega)).symm, rfl⟩
      · refine V_iconst (pc := 21) dX5_noGame_21 ?_
        refine V_goto (pc := 22) 26 dX5_noGame_22 (by decide) ?_
        refine V_iretZ (pc := 26) dX5_noGame_26 rfl (by omega) ?_
        exact ⟨_, rfl, by first | exact (bI_t (by omega)).symm | exact (bI_f (by omega)).symm, rfl⟩

set_option maxRecDepth 20000 in
set_option maxHeartbeats 1000000 in
theorem c_X5_noSlot {d : Nat} (hd : 0 ≤ d) {σ : MM} {y : Int} (hy : IR y) : V yX5_noSlot cX5_noSlot 2 (some .boolean) d (QI (fun v σ' => v = bI (y < 0 ∨ 4 ≤ y) ∧ σ' = σ)) 0 [some (vR 0 0), some (vI y)] [] σ := by
  refine V_iload_1 (pc := 0) dX5_noSlot_0 ?_
  refine V_if_lt (pc := 1) 9 dX5_noSlot_1 (by decide) (by omega) (fun c_1 => ?_) (fun c_1 => ?_)
  · refine V_iconst (pc := 9) dX5_noSlot_9 ?_
    refine V_goto (pc := 10) 14 dX5_noSlot_10 (by decide) ?_
    refine V_iretZ (pc := 14) dX5_noSlot_14 rfl (by omega) ?_
    exact ⟨_, rfl, by first | exact (bI_t (by omega)).symm | exact (bI_f (by omega)).symm, rfl⟩
  · refine V_iload_1 (pc := 4) dX5_noSlot_4 ?_
    refine V_iconst (pc := 5) dX5_noSlot_5 ?_
    refine V_icmp_lt (pc := 6) 13 dX5_noSlot_6 (by decide) (by omega) (by omega) (fun c_6 => ?_) (fun c_6 => ?_)
    · refine V_iconst (pc := 13) dX5_noSlot_13 ?_
      refine V_iretZ (pc := 14) dX5_noSlot_14 rfl (by omega) ?_
      exact ⟨_, rfl, by first | exact (bI_t (by omega)).symm | exact (bI_f (by omega)).symm, rfl⟩
    · refine V_iconst (pc := 9) dX5_noSlot_9 ?_
      refine V_goto (pc := 10) 14 dX5_noSlot_10 (by decide) ?_
      refine V_iretZ (pc := 14) dX5_noSlot_14 rfl (by omega) ?_
      exact ⟨_, rfl, by first | exact (bI_t (by omega)).symm | exact (bI_f (by omega)).symm, rfl⟩

set_option maxRecDepth 20000 in
set_option maxHeartbeats 1000000 in
theorem c_X5_noSeed {d : Nat} (hd : 0 ≤ d) {σ : MM} {y : Int} (hy : IR y) : V yX5_noSeed cX5_noSeed 2 (some .boolean) d (QI (fun v σ' => v = bI (y < 0 ∨ 2000000000 < y) ∧ σ' = σ)) 0 [some (vR 0 0), some (vI y)] [] σ := by
  refine V_iload_1 (pc := 0) dX5_noSeed_0 ?_
  refine V_if_lt (pc := 1) 11 dX5_noSeed_1 (by decide) (by omega) (fun c_1 => ?_) (fun c_1 => ?_)
  · refine V_iconst (pc := 11) dX5_noSeed_11 ?_
    refine V_goto (pc := 12) 16 dX5_noSeed_12 (by decide) ?_
    refine V_iretZ (pc := 16) dX5_noSeed_16 rfl (by omega) ?_
    exact ⟨_, rfl, by first | exact (bI_t (by omega)).symm | exact (bI_f (by omega)).symm, rfl⟩
  · refine V_iload_1 (pc := 4) dX5_noSeed_4 ?_
    refine V_ldcw (pc := 5) dX5_noSeed_5 (z := 2000000000) ldc_X5_354 ?_
    refine V_icmp_le (pc := 8) 15 dX5_noSeed_8 (by decide) (by omega) (by omega) (fun c_8 => ?_) (fun c_8 => ?_)
    · refine V_iconst (pc := 15) dX5_noSeed_15 ?_
      refine V_iretZ (pc := 16) dX5_noSeed_16 rfl (by omega) ?_
      exact ⟨_, rfl, by first | exact (bI_t (by omega)).symm | exact (bI_f (by omega)).symm, rfl⟩
    · refine V_iconst (pc := 11) dX5_noSeed_11 ?_
      refine V_goto (pc := 12) 16 dX5_noSeed_12 (by decide) ?_
      refine V_iretZ (pc := 16) dX5_noSeed_16 rfl (by omega) ?_
      exact ⟨_, rfl, by first | exact (bI_t (by omega)).symm | exact (bI_f (by omega)).symm, rfl⟩

set_option maxRecDepth 20000 in
set_option maxHeartbeats 1000000 in
theorem c_X5_noPart {d : Nat} (hd : 0 ≤ d) {σ : MM} {y : Int} (hy : IR y) : V yX5_noPart cX5_noPart 2 (some .boolean) d (QI (fun v σ' => v = bI (¬ y = 0 ∧ ¬ y = 1) ∧ σ' = σ)) 0 [some (vR 0 0), some (vI y)] [] σ := by
  refine V_iload_1 (pc := 0) dX5_noPart_0 ?_
  refine V_if_eq (pc := 1) 13 dX5_noPart_1 (by decide) (by omega) (fun c_1 => ?_) (fun c_1 => ?_)
  · refine V_iconst (pc := 13) dX5_noPart_13 ?_
    refine V_iretZ (pc := 14) dX5_noPart_14 rfl (by omega) ?_
    exact ⟨_, rfl, by first | exact (bI_t (by omega)).symm | exact (bI_f (by omega)).symm, rfl⟩
  · refine V_iload_1 (pc := 4) dX5_noPart_4 ?_
    refine V_iconst (pc := 5) dX5_noPart_5 ?_
    refine V_icmp_eq (pc := 6) 13 dX5_noPart_6 (by decide) (by omega) (by omega) (fun c_6 => ?_) (fun c_6 => ?_)
    · refine V_iconst (pc := 13) dX5_noPart_13 ?_
      refine V_iretZ (pc := 14) dX5_noPart_14 rfl (by omega) ?_
      exact ⟨_, rfl, by first | exact (bI_t (by omega)).symm | exact (bI_f (by omega)).symm, rfl⟩
    · refine V_iconst (pc := 9) dX5_noPart_9 ?_
      refine V_goto (pc := 10) 14 dX5_noPart_10 (by decide) ?_
      refine V_iretZ (pc := 14) dX5_noPart_14 rfl (by omega) ?_
      exact ⟨_, rfl, by first | exact (bI_t (by omega)).symm | exact (bI_f (by omega)).symm, rfl⟩

set_option maxRecDepth 20000 in
set_option maxHeartbeats 1000000 in
theorem c_X5_bitsOn {d : Nat} (hd : 0 ≤ d) {σ : MM} {B : BK} {p : Int} (hB : CB σ 1 B) (hW : WB B) (hp : IR p) : V yX5_bitsOn cX5_bitsOn 4 (some .int) d (QI (fun v σ' => v = bsN (fun e => bI (B 11 e = p)) (B 6 0).toNat ∧ σ' = σ)) 0 [some (vR 0 0), some (vI p), none, none] [] σ := by
  have hs := hW.s
  have loop : ∀ i : Nat, i ≤ (B 6 0).toNat → V yX5_bitsOn cX5_bitsOn 4 (some .int) d (QI (fun v σ' => v = bsN (fun e => bI (B 11 e = p)) (B 6 0).toNat ∧ σ' = σ)) 4 [some (vR 0 0), some (vI p), some (vI (bsN (fun e => bI (B 11 e = p)) i)), some (vI (i : Int))] [] σ := by
    refine up_ind (P := fun i : Nat => V yX5_bitsOn cX5_bitsOn 4 (some .int) d (QI (fun v σ' => v = bsN (fun e => bI (B 11 e = p)) (B 6 0).toNat ∧ σ' = σ)) 4 [some (vR 0 0), some (vI p), some (vI (bsN (fun e => bI (B 11 e = p)) i)), some (vI (i : Int))] [] σ) ?_ ?_
    · 
      refine V_iload_3 (pc := 4) dX5_bitsOn_4 ?_
      refine V_aload_0 (pc := 5) dX5_bitsOn_5 ?_
      refine V_getc (pc := 6) dX5_bitsOn_6 gf_X5_23 (by omega) ?_
      refine V_geti (pc := 9) dX5_bitsOn_9 gf_X5_158 (by omega) hB.s6 ?_
      refine V_icmp_ge (pc := 12) 40 dX5_bitsOn_12 (by decide) (by omega) (by omega) (fun c_12 => ?_) (fun c_12 => ?_)
      · refine V_iload_2 (pc := 40) dX5_bitsOn_40 ?_
        refine V_iretI (pc := 41) dX5_bitsOn_41 rfl ?_
        exact ⟨_, rfl, by first | rfl | omega, rfl⟩
      · exact absurd c_12 (by omega)
    · intro i hi ih
      have h1 := hW.e (i := (i : Int)) (by omega)
      have hb := bsI_in (fun e => B 11 e = p) i
      have hS := bsN_S (fun e => bI (B 11 e = p)) i
      refine V_iload_3 (pc := 4) dX5_bitsOn_4 ?_
      refine V_aload_0 (pc := 5) dX5_bitsOn_5 ?_
      refine V_getc (pc := 6) dX5_bitsOn_6 gf_X5_23 (by omega) ?_
      refine V_geti (pc := 9) dX5_bitsOn_9 gf_X5_158 (by omega) hB.s6 ?_
      refine V_icmp_ge (pc := 12) 40 dX5_bitsOn_12 (by decide) (by omega) (by omega) (fun c_12 => ?_) (fun c_12 => ?_)
      · exact absurd c_12 (by omega)
      · refine V_aload_0 (pc := 15) dX5_bitsOn_15 ?_
        refine V_getc (pc := 16) dX5_bitsOn_16 gf_X5_23 (by omega) ?_
        refine V_gets (pc := 19) dX5_bitsOn_19 gf_X5_127 (by omega) ?_
        refine V_iload_3 (pc := 22) dX5_bitsOn_22 ?_
        refine V_iald (pc := 23) dX5_bitsOn_23 sh_8 (by omega) (by omega) (hB.a8 (by omega)) ?_
        refine V_iload_1 (pc := 24) dX5_bitsOn_24 ?_
        refine V_icmp_ne (pc := 25) 34 dX5_bitsOn_25 (by decide) (by omega) (by omega) (fun c_25 => ?_) (fun c_25 => ?_)
        · refine V_iinc_3 (pc := 34) dX5_bitsOn_34 ?_
          refine V_goto (pc := 37) 4 dX5_bitsOn_37 (by decide) ?_
          refine V.sub (by simp only [subL, Option.some.injEq, Sum.inl.injEq, Sum.inr.injEq, reduceCtorEq, true_or, or_true, false_or, true_and, and_true]; first | omega | (rw [hS, bI_t (by omega)]; omega) | (rw [hS, bI_f (by omega)]; omega)) ih
        · refine V_iload_2 (pc := 28) dX5_bitsOn_28 ?_
          refine V_iconst (pc := 29) dX5_bitsOn_29 ?_
          refine V_iload_3 (pc := 30) dX5_bitsOn_30 ?_
          refine V_ishl_1 (pc := 31) dX5_bitsOn_31 (by omega) ?_
          refine V_ior_add (pc := 32) dX5_bitsOn_32 (by assumption) ?_
          refine V_istore_2 (pc := 33) dX5_bitsOn_33 ?_
          refine V_iinc_3 (pc := 34) dX5_bitsOn_34 ?_
          refine V_goto (pc := 37) 4 dX5_bitsOn_37 (by decide) ?_
          refine V.sub (by simp only [subL, Option.some.injEq, Sum.inl.injEq, Sum.inr.injEq, reduceCtorEq, true_or, or_true, false_or, true_and, and_true]; first | omega | (rw [hS, bI_t (by omega)]; omega) | (rw [hS, bI_f (by omega)]; omega)) ih
  refine V_iconst (pc := 0) dX5_bitsOn_0 ?_
  refine V_istore_2 (pc := 1) dX5_bitsOn_1 ?_
  refine V_iconst (pc := 2) dX5_bitsOn_2 ?_
  refine V_istore_3 (pc := 3) dX5_bitsOn_3 ?_
  exact loop 0 (by omega)

set_option maxRecDepth 20000 in
set_option maxHeartbeats 1000000 in
theorem c_X5_bitsThere {d : Nat} (hd : 1 ≤ d) {σ : MM} {B : BK} {y : Int} (hB : CB σ 1 B) (hW : WB B) (hy : IR y) : V yX5_bitsThere cX5_bitsThere 4 (some .int) d (QI (fun v σ' => v = bsN (fun e => bI (B 13 e ≤ y)) (B 6 0).toNat ∧ σ' = σ)) 0 [some (vR 0 0), some (vI y), none, none] [] σ := by
  have hs := hW.s
  have loop : ∀ i : Nat, i ≤ (B 6 0).toNat → V yX5_bitsThere cX5_bitsThere 4 (some .int) d (QI (fun v σ' => v = bsN (fun e => bI (B 13 e ≤ y)) (B 6 0).toNat ∧ σ' = σ)) 4 [some (vR 0 0), some (vI y), some (vI (bsN (fun e => bI (B 13 e ≤ y)) i)), some (vI (i : Int))] [] σ := by
    refine up_ind (P := fun i : Nat => V yX5_bitsThere cX5_bitsThere 4 (some .int) d (QI (fun v σ' => v = bsN (fun e => bI (B 13 e ≤ y)) (B 6 0).toNat ∧ σ' = σ)) 4 [some (vR 0 0), some (vI y), some (vI (bsN (fun e => bI (B 13 e ≤ y)) i)), some (vI (i : Int))] [] σ) ?_ ?_
    · 
      refine V_iload_3 (pc := 4) dX5_bitsThere_4 ?_
      refine V_aload_0 (pc := 5) dX5_bitsThere_5 ?_
      refine V_getc (pc := 6) dX5_bitsThere_6 gf_X5_23 (by omega) ?_
      refine V_geti (pc := 9) dX5_bitsThere_9 gf_X5_158 (by omega) hB.s6 ?_
      refine V_icmp_ge (pc := 12) 39 dX5_bitsThere_12 (by decide) (by omega) (by omega) (fun c_12 => ?_) (fun c_12 => ?_)
      · refine V_iload_2 (pc := 39) dX5_bitsThere_39 ?_
        refine V_iretI (pc := 40) dX5_bitsThere_40 rfl ?_
        exact ⟨_, rfl, by first | rfl | omega, rfl⟩
      · exact absurd c_12 (by omega)
    · intro i hi ih
      have h1 := hW.e (i := (i : Int)) (by omega)
      have hb := bsI_in (fun e => B 13 e ≤ y) i
      have hS := bsN_S (fun e => bI (B 13 e ≤ y)) i
      refine V_iload_3 (pc := 4) dX5_bitsThere_4 ?_
      refine V_aload_0 (pc := 5) dX5_bitsThere_5 ?_
      refine V_getc (pc := 6) dX5_bitsThere_6 gf_X5_23 (by omega) ?_
      refine V_geti (pc := 9) dX5_bitsThere_9 gf_X5_158 (by omega) hB.s6 ?_
      refine V_icmp_ge (pc := 12) 39 dX5_bitsThere_12 (by decide) (by omega) (by omega) (fun c_12 => ?_) (fun c_12 => ?_)
      · exact absurd c_12 (by omega)
      · refine V_aload_0 (pc := 15) dX5_bitsThere_15 ?_
        refine V_getc (pc := 16) dX5_bitsThere_16 gf_X5_23 (by omega) ?_
        refine V_iload_3 (pc := 19) dX5_bitsThere_19 ?_
        refine V_iload_1 (pc := 20) dX5_bitsThere_20 ?_
        refine V_callV2p (pc := 21) dX5_bitsThere_21 kv_X5_164 rc_3 (by omega) (d - 1) (by omega) rfl (c_X1_isThere (by omega) (by omega) hB hW (by omega) (by omega)) ?_
        refine V_if_eq_b (pc := 24) 33 dX5_bitsThere_24 (by decide) (fun c_24 => ?_) (fun c_24 => ?_)
        · refine V_iinc_3 (pc := 33) dX5_bitsThere_33 ?_
          refine V_goto (pc := 36) 4 dX5_bitsThere_36 (by decide) ?_
          refine V.sub (by simp only [subL, Option.some.injEq, Sum.inl.injEq, Sum.inr.injEq, reduceCtorEq, true_or, or_true, false_or, true_and, and_true]; first | omega | (rw [hS, bI_t (by omega)]; omega) | (rw [hS, bI_f (by omega)]; omega)) ih
        · refine V_iload_2 (pc := 27) dX5_bitsThere_27 ?_
          refine V_iconst (pc := 28) dX5_bitsThere_28 ?_
          refine V_iload_3 (pc := 29) dX5_bitsThere_29 ?_
          refine V_ishl_1 (pc := 30) dX5_bitsThere_30 (by omega) ?_
          refine V_ior_add (pc := 31) dX5_bitsThere_31 (by assumption) ?_
          refine V_istore_2 (pc := 32) dX5_bitsThere_32 ?_
          refine V_iinc_3 (pc := 33) dX5_bitsThere_33 ?_
          refine V_goto (pc := 36) 4 dX5_bitsThere_36 (by decide) ?_
          refine V.sub (by simp only [subL, Option.some.injEq, Sum.inl.injEq, Sum.inr.injEq, reduceCtorEq, true_or, or_true, false_or, true_and, and_true]; first | omega | (rw [hS, bI_t (by omega)]; omega) | (rw [hS, bI_f (by omega)]; omega)) ih
  refine V_iconst (pc := 0) dX5_bitsThere_0 ?_
  refine V_istore_2 (pc := 1) dX5_bitsThere_1 ?_
  refine V_iconst (pc := 2) dX5_bitsThere_2 ?_
  refine V_istore_3 (pc := 3) dX5_bitsThere_3 ?_
  exact loop 0 (by omega)
