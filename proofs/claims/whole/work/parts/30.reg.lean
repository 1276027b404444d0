set_option maxRecDepth 20000 in
set_option maxHeartbeats 1000000 in
theorem c_X5_noBook {d : Nat} (hd : 0 ≤ d) {σ : MM} {B : BK} (hB : CB σ 1 B) (hs : WS B) : V yX5_noBook cX5_noBook 1 (some .boolean) d (QI (fun v σ' => v = bI (B 0 0 = 0) ∧ σ' = σ)) 0 [some (vR 0 0)] [] σ := by
  refine V_aload_0 (pc := 0) dX5_noBook_0 ?_
  refine V_getc (pc := 1) dX5_noBook_1 gf_X5_23 (by omega) ?_
  refine V_geti (pc := 4) dX5_noBook_4 gf_X5_103 (by omega) hB.s0 ?_
  refine V_if_ne (pc := 7) 14 dX5_noBook_7 (by decide) (by omega) (fun c_7 => ?_) (fun c_7 => ?_)
  · refine V_iconst (pc := 14) dX5_noBook_14 ?_
    refine V_iretZ (pc := 15) dX5_noBook_15 rfl (by omega) ?_
    exact ⟨_, rfl, by first | exact (bI_t (by omega)).symm | exact (bI_f (by omega)).symm, rfl⟩
  · refine V_iconst (pc := 10) dX5_noBook_10 ?_
    refine V_goto (pc := 11) 15 dX5_noBook_11 (by decide) ?_
    refine V_iretZ (pc := 15) dX5_noBook_15 rfl (by omega) ?_
    exact ⟨_, rfl, by first | exact (bI_t (by omega)).symm | exact (bI_f (by omega)).symm, rfl⟩

set_option maxRecDepth 20000 in
set_option maxHeartbeats 1000000 in
theorem c_X5_noYear {d : Nat} (hd : 1 ≤ d) {σ : MM} {B : BK} {y : Int} (hB : CB σ 1 B) (hs : WS B) (hy : IR y) : V yX5_noYear cX5_noYear 2 (some .boolean) d (QI (fun v σ' => v = bI (B 0 0 = 0 ∨ y < 0 ∨ B 1 0 < y) ∧ σ' = σ)) 0 [some (vR 0 0), some (vI y)] [] σ := by
  refine V_aload_0 (pc := 0) dX5_noYear_0 ?_
  refine V_callV0p (pc := 1) dX5_noYear_1 kv_X5_155 rc_0 (by omega) (d - 1) (by omega) rfl (c_X5_noBook (by omega) hB hs) ?_
  refine V_if_ne_b (pc := 4) 22 dX5_noYear_4 (by decide) (fun c_4 => ?_) (fun c_4 => ?_)
  · refine V_iconst (pc := 22) dX5_noYear_22 ?_
    refine V_goto (pc := 23) 27 dX5_noYear_23 (by decide) ?_
    refine V_iretZ (pc := 27) dX5_noYear_27 rfl (by omega) ?_
    exact ⟨_, rfl, by first | exact (bI_t (by omega)).symm | exact (bI_f (by omega)).symm, rfl⟩
  · refine V_iload_1 (pc := 7) dX5_noYear_7 ?_
    refine V_if_lt (pc := 8) 22 dX5_noYear_8 (by decide) (by omega) (fun c_8 => ?_) (fun c_8 => ?_)
    · refine V_iconst (pc := 22) dX5_noYear_22 ?_
      refine V_goto (pc := 23) 27 dX5_noYear_23 (by decide) ?_
      refine V_iretZ (pc := 27) dX5_noYear_27 rfl (by omega) ?_
      exact ⟨_, rfl, by first | exact (bI_t (by omega)).symm | exact (bI_f (by omega)).symm, rfl⟩
    · refine V_iload_1 (pc := 11) dX5_noYear_11 ?_
      refine V_aload_0 (pc := 12) dX5_noYear_12 ?_
      refine V_getc (pc := 13) dX5_noYear_13 gf_X5_23 (by omega) ?_
      refine V_geti (pc := 16) dX5_noYear_16 gf_X5_175 (by omega) hB.s1 ?_
      refine V_icmp_le (pc := 19) 26 dX5_noYear_19 (by decide) (by omega) (by omega) (fun c_19 => ?_) (fun c_19 => ?_)
      · refine V_iconst (pc := 26) dX5_noYear_26 ?_
        refine V_iretZ (pc := 27) dX5_noYear_27 rfl (by omega) ?_
        exact ⟨_, rfl, by first | exact (bI_t (by omega)).symm | exact (bI_f (by omega)).symm, rfl⟩
      · refine V_iconst (pc := 22) dX5_noYear_22 ?_
        refine V_goto (pc := 23) 27 dX5_noYear_23 (by decide) ?_
        refine V_iretZ (pc := 27) dX5_noYear_27 rfl (by omega) ?_
        exact ⟨_, rfl, by first | exact (bI_t (by omega)).symm | exact (bI_f (by omega)).symm, rfl⟩

set_option maxRecDepth 20000 in
set_option maxHeartbeats 1000000 in
theorem c_X5_noChanceYear {d : Nat} (hd : 2 ≤ d) {σ : MM} {B : BK} {y : Int} (hB : CB σ 1 B) (hs : WS B) (hy : IR y) : V yX5_noChanceYear cX5_noChanceYear 2 (some .boolean) d (QI (fun v σ' => v = bI (B 0 0 = 0 ∨ y < 1 ∨ B 1 0 < y ∨ 8 < y) ∧ σ' = σ)) 0 [some (vR 0 0), some (vI y)] [] σ := by
  refine V_aload_0 (pc := 0) dX5_noChanceYear_0 ?_
  refine V_iload_1 (pc := 1) dX5_noChanceYear_1 ?_
  refine V_callV1p (pc := 2) dX5_noChanceYear_2 kv_X5_149 rc_0 (by omega) (d - 1) (by omega) rfl (c_X5_noYear (by omega) hB hs (by omega)) ?_
  refine V_if_ne_b (pc := 5) 19 dX5_noChanceYear_5 (by decide) (fun c_5 => ?_) (fun c_5 => ?_)
  · refine V_iconst (pc := 19) dX5_noChanceYear_19 ?_
    refine V_goto (pc := 20) 24 dX5_noChanceYear_20 (by decide) ?_
    refine V_iretZ (pc := 24) dX5_noChanceYear_24 rfl (by omega) ?_
    exact ⟨_, rfl, by first | exact (bI_t (by omega)).symm | exact (bI_f (by omega)).symm, rfl⟩
  · refine V_iload_1 (pc := 8) dX5_noChanceYear_8 ?_
    refine V_iconst (pc := 9) dX5_noChanceYear_9 ?_
    refine V_icmp_lt (pc := 10) 19 dX5_noChanceYear_10 (by decide) (by omega) (by omega) (fun c_10 => ?_) (fun c_10 => ?_)
    · refine V_iconst (pc := 19) dX5_noChanceYear_19 ?_
      refine V_goto (pc := 20) 24 dX5_noChanceYear_20 (by decide) ?_
      refine V_iretZ (pc := 24) dX5_noChanceYear_24 rfl (by omega) ?_
      exact ⟨_, rfl, by first | exact (bI_t (by omega)).symm | exact (bI_f (by omega)).symm, rfl⟩
    · refine V_iload_1 (pc := 13) dX5_noChanceYear_13 ?_
      refine V_bipush (pc := 14) dX5_noChanceYear_14 (by decide) ?_
      refine V_icmp_le (pc := 16) 23 dX5_noChanceYear_16 (by decide) (by omega) (by omega) (fun c_16 => ?_) (fun c_16 => ?_)
      · refine V_iconst (pc := 23) dX5_noChanceYear_23 ?_
        refine V_iretZ (pc := 24) dX5_noChanceYear_24 rfl (by omega) ?_
        exact ⟨_, rfl, by first | exact (bI_t (by omega)).symm | exact (bI_f (by omega)).symm, rfl⟩
      · refine V_iconst (pc := 19) dX5_noChanceYear_19 ?_
        refine V_goto (pc := 20) 24 dX5_noChanceYear_20 (by decide) ?_
        refine V_iretZ (pc := 24) dX5_noChanceYear_24 rfl (by omega) ?_
        exact ⟨_, rfl, by first | exact (bI_t (by omega)).symm | exact (bI_f (by omega)).symm, rfl⟩

set_option maxRecDepth 20000 in
set_option maxHeartbeats 1000000 in
theorem c_X5_noInk {d : Nat} (hd : 0 ≤ d) {σ : MM} {B : BK} {y : Int} (hB : CB σ 1 B) (hs : WS B) (hy : IR y) : V yX5_noInk cX5_noInk 2 (some .boolean) d (QI (fun v σ' => v = bI (y < 0 ∨ B 4 0 ≤ y) ∧ σ' = σ)) 0 [some (vR 0 0), some (vI y)] [] σ := by
  refine V_iload_1 (pc := 0) dX5_noInk_0 ?_
  refine V_if_lt (pc := 1) 15 dX5_noInk_1 (by decide) (by omega) (fun c_1 => ?_) (fun c_1 => ?_)
  · refine V_iconst (pc := 15) dX5_noInk_15 ?_
    refine V_goto (pc := 16) 20 dX5_noInk_16 (by decide) ?_
    refine V_iretZ (pc := 20) dX5_noInk_20 rfl (by omega) ?_
    exact ⟨_, rfl, by first | exact (bI_t (by omega)).symm | exact (bI_f (by omega)).symm, rfl⟩
  · refine V_iload_1 (pc := 4) dX5_noInk_4 ?_
    refine V_aload_0 (pc := 5) dX5_noInk_5 ?_
    refine V_getc (pc := 6) dX5_noInk_6 gf_X5_23 (by omega) ?_
    refine V_geti (pc := 9) dX5_noInk_9 gf_X5_242 (by omega) hB.s4 ?_
    refine V_icmp_lt (pc := 12) 19 dX5_noInk_12 (by decide) (by omega) (by omega) (fun c_12 => ?_) (fun c_12 => ?_)
    · refine V_iconst (pc := 19) dX5_noInk_19 ?_
      refine V_iretZ (pc := 20) dX5_noInk_20 rfl (by omega) ?_
      exact ⟨_, rfl, by first | exact (bI_t (by omega)).symm | exact (bI_f (by omega)).symm, rfl⟩
    · refine V_iconst (pc := 15) dX5_noInk_15 ?_
      refine V_goto (pc := 16) 20 dX5_noInk_16 (by decide) ?_
      refine V_iretZ (pc := 20) dX5_noInk_20 rfl (by omega) ?_
      exact ⟨_, rfl, by first | exact (bI_t (by omega)).symm | exact (bI_f (by omega)).symm, rfl⟩

set_option maxRecDepth 20000 in
set_option maxHeartbeats 1000000 in
theorem c_X5_noPage {d : Nat} (hd : 0 ≤ d) {σ : MM} {B : BK} {y : Int} (hB : CB σ 1 B) (hs : WS B) (hy : IR y) : V yX5_noPage cX5_noPage 2 (some .boolean) d (QI (fun v σ' => v = bI (y < 0 ∨ B 5 0 ≤ y) ∧ σ' = σ)) 0 [some (vR 0 0), some (vI y)] [] σ := by
  refine V_iload_1 (pc := 0) dX5_noPage_0 ?_
  refine V_if_lt (pc := 1) 15 dX5_noPage_1 (by decide) (by omega) (fun c_1 => ?_) (fun c_1 => ?_)
  · refine V_iconst (pc := 15) dX5_noPage_15 ?_
    refine V_goto (pc := 16) 20 dX5_noPage_16 (by decide) ?_
    refine V_iretZ (pc := 20) dX5_noPage_20 rfl (by omega) ?_
    exact ⟨_, rfl, by first | exact (bI_t (by omega)).symm | exact (bI_f (by omega)).symm, rfl⟩
  · refine V_iload_1 (pc := 4) dX5_noPage_4 ?_
    refine V_aload_0 (pc := 5) dX5_noPage_5 ?_
    refine V_getc (pc := 6) dX5_noPage_6 gf_X5_23 (by omega) ?_
    refine V_geti (pc := 9) dX5_noPage_9 gf_X5_310 (by omega) hB.s5 ?_
    refine V_icmp_lt (pc := 12) 19 dX5_noPage_12 (by decide) (by omega) (by omega) (fun c_12 => ?_) (fun c_12 => ?_)
    · refine V_iconst (pc := 19) dX5_noPage_19 ?_
      refine V_iretZ (pc := 20) dX5_noPage_20 rfl (by omega) ?_
      exact ⟨_, rfl, by first | exact (bI_t (by omega)).symm | exact (bI_f (by omega)).symm, rfl⟩
    · refine V_iconst (pc := 15) dX5_noPage_15 ?_
      refine V_goto (pc := 16) 20 dX5_noPage_16 (by decide) ?_
      refine V_iretZ (pc := 20) dX5_noPage_20 rfl (by omega) ?_
      exact ⟨_, rfl, by first | exact (bI_t (by omega)).symm | exact (bI_f (by omega)).symm, rfl⟩

set_option maxRecDepth 20000 in
set_option maxHeartbeats 1000000 in
theorem c_X5_noEntry {d : Nat} (hd : 0 ≤ d) {σ : MM} {B : BK} {y : Int} (hB : CB σ 1 B) (hs : WS B) (hy : IR y) : V yX5_noEntry cX5_noEntry 2 (some .boolean) d (QI (fun v σ' => v = bI (y < 0 ∨ B 6 0 ≤ y) ∧ σ' = σ)) 0 [some (vR 0 0), some (vI y)] [] σ := by
  refine V_iload_1 (pc := 0) dX5_noEntry_0 ?_
  refine V_if_lt (pc := 1) 15 dX5_noEntry_1 (by decide) (by omega) (fun c_1 => ?_) (fun c_1 => ?_)
  · refine V_iconst (pc := 15) dX5_noEntry_15 ?_
    refine V_goto (pc := 16) 20 dX5_noEntry_16 (by decide) ?_
    refine V_iretZ (pc := 20) dX5_noEntry_20 rfl (by omega) ?_
    exact ⟨_, rfl, by first | exact (bI_t (by omega)).symm | exact (bI_f (by omega)).symm, rfl⟩
  · refine V_iload_1 (pc := 4) dX5_noEntry_4 ?_
    refine V_aload_0 (pc := 5) dX5_noEntry_5 ?_
    refine V_getc (pc := 6) dX5_noEntry_6 gf_X5_23 (by omega) ?_
    refine V_geti (pc := 9) dX5_noEntry_9 gf_X5_159 (by omega) hB.s6 ?_
    refine V_icmp_lt (pc := 12) 19 dX5_noEntry_12 (by decide) (by omega) (by omega) (fun c_12 => ?_) (fun c_12 => ?_)
    · refine V_iconst (pc := 19) dX5_noEntry_19 ?_
      refine V_iretZ (pc := 20) dX5_noEntry_20 rfl (by omega) ?_
      exact ⟨_, rfl, by first | exact (bI_t (by omega)).symm | exact (bI_f (by omega)).symm, rfl⟩
    · refine V_iconst (pc := 15) dX5_noEntry_15 ?_
      refine V_goto (pc := 16) 20 dX5_noEntry_16 (by decide) ?_
      refine V_iretZ (pc := 20) dX5_noEntry_20 rfl (by omega) ?_
      exact ⟨_, rfl, by first | exact (bI_t (by omega)).symm | exact (bI_f (by omega)).symm, rfl⟩

set_option maxRecDepth 20000 in
set_option maxHeartbeats 1000000 in
theorem c_X5_noGame {d : Nat} (hd : 1 ≤ d) {σ : MM} {B : BK} {p q : Int} (hB : CB σ 1 B) (hs : WS B) (hp : IR p) (hq : IR q) : V yX5_noGame cX5_noGame 3 (some .boolean) d (QI (fun v σ' => v = bI ((p < 0 ∨ B 5 0 ≤ p) ∨ (q < 0 ∨ B 5 0 ≤ q) ∨ p = q) ∧ σ' = σ)) 0 [some (vR 0 0), some (vI p), some (vI q)] [] σ := by
  refine V_aload_0 (pc := 0) dX5_noGame_0 ?_
  refine V_iload_1 (pc := 1) dX5_noGame_1 ?_
  refine V_callV1p (pc := 2) dX5_noGame_2 kv_X5_119 rc_0 (by omega) (d - 1) (by omega) rfl (c_X5_noPage (by omega) hB hs (by omega)) ?_
  refine V_if_ne_b (pc := 5) 21 dX5_noGame_5 (by decide) (fun c_5 => ?_) (fun c_5 => ?_)
  · refine V_iconst (pc := 21) dX5_noGame_21 ?_
    refine V_goto (pc := 22) 26 dX5_noGame_22 (by decide) ?_
    refine V_iretZ (pc := 26) dX5_noGame_26 rfl (by omega) ?_
    exact ⟨_, rfl, by first | exact (bI_t (by omega)).symm | exact (bI_f (by omega)).symm, rfl⟩
  · refine V_aload_0 (pc := 8) dX5_noGame_8 ?_
    refine V_iload_2 (pc := 9) dX5_noGame_9 ?_
    refine V_callV1p (pc := 10) dX5_noGame_10 kv_X5_119 rc_0 (by omega) (d - 1) (by omega) rfl (c_X5_noPage (by omega) hB hs (by omega)) ?_
    refine V_if_ne_b (pc := 13) 21 dX5_noGame_13 (by decide) (fun c_13 => ?_) (fun c_13 => ?_)
    · refine V_iconst (pc := 21) dX5_noGame_21 ?_
      refine V_goto (pc := 22) 26 dX5_noGame_22 (by decide) ?_
      refine V_iretZ (pc := 26) dX5_noGame_26 rfl (by omega) ?_
      exact ⟨_, rfl, by first | exact (bI_t (by omega)).symm | exact (bI_f (by omega)).symm, rfl⟩
    · refine V_iload_1 (pc := 16) dX5_noGame_16 ?_
      refine V_iload_2 (pc := 17) dX5_noGame_17 ?_
      refine V_icmp_ne (pc := 18) 25 dX5_noGame_18 (by decide) (by omega) (by omega) (fun c_18 => ?_) (fun c_18 => ?_)
      · refine V_iconst (pc := 25) dX5_noGame_25 ?_
        refine V_iretZ (pc := 26) dX5_noGame_26 rfl (by omega) ?_
        exact ⟨_, rfl, by first | exact (bI_t (by omega)).symm | exact (bI_f (by omega)).symm, rfl⟩
      · refine V_iconst (pc := 21) dX5_noGame_21 ?_
        refine V_goto (pc := 22) 26 dX5_noGame_22 (by decide) ?_
        refine V_iretZ (pc := 26) dX5_noGame_26 rfl (by omega) ?_
        exact ⟨_, rfl, by first | exact (bI_t (by omega)).symm | exact (bI_f (by omega)).symm, rfl⟩

set_option maxRecDepth 20000 in
set_option maxHeartbeats 1000000 in
theorem c_X5_noSlot {d : Nat} (hd : 0 ≤ d) {σ : MM} {y : Int} (hy : IR y) : V yX5_noSlot cX5_noSlot 2 (some .boolean) d (QI (fun v σ' => v = bI (y < 0 ∨ 4 ≤ y) ∧ σ' = σ)) 0 [some (vR 0 0), some (vI y)] [] σ := by
  refine V_iload_1 (pc := 0) dX5_noSlot_0 ?_
  refine V_if_lt (pc := 1) 9 dX5_noSlot_1 (by decide) (by omega) (fun c_1 => ?_) (fun c_1 => ?_)
  · refine V_iconst (pc := 9) dX5_noSlot_9 ?_
    refine V_goto (pc := 10) 14 dX5_noSlot_10 (by decide) ?_
    refine V_iretZ (pc := 14) dX5_noSlot_14 rfl (by omega) ?_
    exact ⟨_, rfl, by first | exact (bI_t (by omega)).symm | exact (bI_f (by omega)).symm, rfl⟩
  · refine V_iload_1 (pc := 4) dX5_noSlot_4 ?_
    refine V_iconst (pc := 5) dX5_noSlot_5 ?_
    refine V_icmp_lt (pc := 6) 13 dX5_noSlot_6 (by decide) (by omega) (by omega) (fun c_6 => ?_) (fun c_6 => ?_)
    · refine V_iconst (pc := 13) dX5_noSlot_13 ?_
      refine V_iretZ (pc := 14) dX5_noSlot_14 rfl (by omega) ?_
      exact ⟨_, rfl, by first | exact (bI_t (by omega)).symm | exact (bI_f (by omega)).symm, rfl⟩
    · refine V_iconst (pc := 9) dX5_noSlot_9 ?_
      refine V_goto (pc := 10) 14 dX5_noSlot_10 (by decide) ?_
      refine V_iretZ (pc := 14) dX5_noSlot_14 rfl (by omega) ?_
      exact ⟨_, rfl, by first | exact (bI_t (by omega)).symm | exact (bI_f (by omega)).symm, rfl⟩

set_option maxRecDepth 20000 in
set_option maxHeartbeats 1000000 in
theorem c_X5_noSeed {d : Nat} (hd : 0 ≤ d) {σ : MM} {y : Int} (hy : IR y) : V yX5_noSeed cX5_noSeed 2 (some .boolean) d (QI (fun v σ' => v = bI (y < 0 ∨ 2000000000 < y) ∧ σ' = σ)) 0 [some (vR 0 0), some (vI y)] [] σ := by
  refine V_iload_1 (pc := 0) dX5_noSeed_0 ?_
  refine V_if_lt (pc := 1) 11 dX5_noSeed_1 (by decide) (by omega) (fun c_1 => ?_) (fun c_1 => ?_)
  · refine V_iconst (pc := 11) dX5_noSeed_11 ?_
    refine V_goto (pc := 12) 16 dX5_noSeed_12 (by decide) ?_
    refine V_iretZ (pc := 16) dX5_noSeed_16 rfl (by omega) ?_
    exact ⟨_, rfl, by first | exact (bI_t (by omega)).symm | exact (bI_f (by omega)).symm, rfl⟩
  · refine V_iload_1 (pc := 4) dX5_noSeed_4 ?_
    refine V_ldcw (pc := 5) dX5_noSeed_5 (z := 2000000000) ldc_X5_351 ?_
    refine V_icmp_le (pc := 8) 15 dX5_noSeed_8 (by decide) (by omega) (by omega) (fun c_8 => ?_) (fun c_8 => ?_)
    · refine V_iconst (pc := 15) dX5_noSeed_15 ?_
      refine V_iretZ (pc := 16) dX5_noSeed_16 rfl (by omega) ?_
      exact ⟨_, rfl, by first | exact (bI_t (by omega)).symm | exact (bI_f (by omega)).symm, rfl⟩
    · refine V_iconst (pc := 11) dX5_noSeed_11 ?_
      refine V_goto (pc := 12) 16 dX5_noSeed_12 (by decide) ?_
      refine V_iretZ (pc := 16) dX5_noSeed_16 rfl (by omega) ?_
      exact ⟨_, rfl, by first | exact (bI_t (by omega)).symm | exact (bI_f (by omega)).symm, rfl⟩

set_option maxRecDepth 20000 in
set_option maxHeartbeats 1000000 in
theorem c_X5_noPart {d : Nat} (hd : 0 ≤ d) {σ : MM} {y : Int} (hy : IR y) : V yX5_noPart cX5_noPart 2 (some .boolean) d (QI (fun v σ' => v = bI (¬ y = 0 ∧ ¬ y = 1) ∧ σ' = σ)) 0 [some (vR 0 0), some (vI y)] [] σ := by
  refine V_iload_1 (pc := 0) dX5_noPart_0 ?_
  refine V_if_eq (pc := 1) 13 dX5_noPart_1 (by decide) (by omega) (fun c_1 => ?_) (fun c_1 => ?_)
  · refine V_iconst (pc := 13) dX5_noPart_13 ?_
    refine V_iretZ (pc := 14) dX5_noPart_14 rfl (by omega) ?_
    exact ⟨_, rfl, by first | exact (bI_t (by omega)).symm | exact (bI_f (by omega)).symm, rfl⟩
  · refine V_iload_1 (pc := 4) dX5_noPart_4 ?_
    refine V_iconst (pc := 5) dX5_noPart_5 ?_
    refine V_icmp_eq (pc := 6) 13 dX5_noPart_6 (by decide) (by omega) (by omega) (fun c_6 => ?_) (fun c_6 => ?_)
    · refine V_iconst (pc := 13) dX5_noPart_13 ?_
      refine V_iretZ (pc := 14) dX5_noPart_14 rfl (by omega) ?_
      exact ⟨_, rfl, by first | exact (bI_t (by omega)).symm | exact (bI_f (by omega)).symm, rfl⟩
    · refine V_iconst (pc := 9) dX5_noPart_9 ?_
      refine V_goto (pc := 10) 14 dX5_noPart_10 (by decide) ?_
      refine V_iretZ (pc := 14) dX5_noPart_14 rfl (by omega) ?_
      exact ⟨_, rfl, by first | exact (bI_t (by omega)).symm | exact (bI_f (by omega)).symm, rfl⟩

set_option maxRecDepth 20000 in
set_option maxHeartbeats 1000000 in
theorem c_X5_bitsOn {d : Nat} (hd : 0 ≤ d) {σ : MM} {B : BK} {p : Int} (hB : CB σ 1 B) (hW : WB B) (hp : IR p) : V yX5_bitsOn cX5_bitsOn 4 (some .int) d (QI (fun v σ' => v = bsN (fun e => bI (B 11 e = p)) (B 6 0).toNat ∧ σ' = σ)) 0 [some (vR 0 0), some (vI p), none, none] [] σ := by
  have hs := hW.s
  have loop : ∀ i : Nat, i ≤ (B 6 0).toNat → V yX5_bitsOn cX5_bitsOn 4 (some .int) d (QI (fun v σ' => v = bsN (fun e => bI (B 11 e = p)) (B 6 0).toNat ∧ σ' = σ)) 4 [some (vR 0 0), some (vI p), some (vI (bsN (fun e => bI (B 11 e = p)) i)), some (vI (i : Int))] [] σ := by
    refine up_ind (P := fun i : Nat => V yX5_bitsOn cX5_bitsOn 4 (some .int) d (QI (fun v σ' => v = bsN (fun e => bI (B 11 e = p)) (B 6 0).toNat ∧ σ' = σ)) 4 [some (vR 0 0), some (vI p), some (vI (bsN (fun e => bI (B 11 e = p)) i)), some (vI (i : Int))] [] σ) ?_ ?_
    · 
      refine V_iload_3 (pc := 4) dX5_bitsOn_4 ?_
      refine V_aload_0 (pc := 5) dX5_bitsOn_5 ?_
      refine V_getc (pc := 6) dX5_bitsOn_6 gf_X5_23 (by omega) ?_
      refine V_geti (pc := 9) dX5_bitsOn_9 gf_X5_159 (by omega) hB.s6 ?_
      refine V_icmp_ge (pc := 12) 40 dX5_bitsOn_12 (by decide) (by omega) (by omega) (fun c_12 => ?_) (fun c_12 => ?_)
      · refine V_iload_2 (pc := 40) dX5_bitsOn_40 ?_
        refine V_iretI (pc := 41) dX5_bitsOn_41 rfl ?_
        exact ⟨_, rfl, by first | rfl | omega, rfl⟩
      · exact absurd c_12 (by omega)
    · intro i hi ih
      have h1 := hW.e (i := (i : Int)) (by omega)
      have hb := bsI_in (fun e => B 11 e = p) i
      have hS := bsN_S (fun e => bI (B 11 e = p)) i
      refine V_iload_3 (pc := 4) dX5_bitsOn_4 ?_
      refine V_aload_0 (pc := 5) dX5_bitsOn_5 ?_
      refine V_getc (pc := 6) dX5_bitsOn_6 gf_X5_23 (by omega) ?_
      refine V_geti (pc := 9) dX5_bitsOn_9 gf_X5_159 (by omega) hB.s6 ?_
      refine V_icmp_ge (pc := 12) 40 dX5_bitsOn_12 (by decide) (by omega) (by omega) (fun c_12 => ?_) (fun c_12 => ?_)
      · exact absurd c_12 (by omega)
      · refine V_aload_0 (pc := 15) dX5_bitsOn_15 ?_
        refine V_getc (pc := 16) dX5_bitsOn_16 gf_X5_23 (by omega) ?_
        refine V_gets (pc := 19) dX5_bitsOn_19 gf_X5_128 (by omega) ?_
        refine V_iload_3 (pc := 22) dX5_bitsOn_22 ?_
        refine V_iald (pc := 23) dX5_bitsOn_23 sh_8 (by omega) (by omega) (hB.a8 (by omega)) ?_
        refine V_iload_1 (pc := 24) dX5_bitsOn_24 ?_
        refine V_icmp_ne (pc := 25) 34 dX5_bitsOn_25 (by decide) (by omega) (by omega) (fun c_25 => ?_) (fun c_25 => ?_)
        · refine V_iinc_3 (pc := 34) dX5_bitsOn_34 ?_
          refine V_goto (pc := 37) 4 dX5_bitsOn_37 (by decide) ?_
          refine V.sub (by simp only [subL, Option.some.injEq, Sum.inl.injEq, Sum.inr.injEq, reduceCtorEq, true_or, or_true, false_or, true_and, and_true]; first | omega | (rw [hS, bI_t (by omega)]; omega) | (rw [hS, bI_f (by omega)]; omega)) ih
        · refine V_iload_2 (pc := 28) dX5_bitsOn_28 ?_
          refine V_iconst (pc := 29) dX5_bitsOn_29 ?_
          refine V_iload_3 (pc := 30) dX5_bitsOn_30 ?_
          refine V_ishl_1 (pc := 31) dX5_bitsOn_31 (by omega) ?_
          refine V_ior_add (pc := 32) dX5_bitsOn_32 (by assumption) ?_
          refine V_istore_2 (pc := 33) dX5_bitsOn_33 ?_
          refine V_iinc_3 (pc := 34) dX5_bitsOn_34 ?_
          refine V_goto (pc := 37) 4 dX5_bitsOn_37 (by decide) ?_
          refine V.sub (by simp only [subL, Option.some.injEq, Sum.inl.injEq, Sum.inr.injEq, reduceCtorEq, true_or, or_true, false_or, true_and, and_true]; first | omega | (rw [hS, bI_t (by omega)]; omega) | (rw [hS, bI_f (by omega)]; omega)) ih
  refine V_iconst (pc := 0) dX5_bitsOn_0 ?_
  refine V_istore_2 (pc := 1) dX5_bitsOn_1 ?_
  refine V_iconst (pc := 2) dX5_bitsOn_2 ?_
  refine V_istore_3 (pc := 3) dX5_bitsOn_3 ?_
  exact loop 0 (by omega)

set_option maxRecDepth 20000 in
set_option maxHeartbeats 1000000 in
theorem c_X5_bitsThere {d : Nat} (hd : 1 ≤ d) {σ : MM} {B : BK} {y : Int} (hB : CB σ 1 B) (hW : WB B) (hy : IR y) : V yX5_bitsThere cX5_bitsThere 4 (some .int) d (QI (fun v σ' => v = bsN (fun e => bI (B 13 e ≤ y)) (B 6 0).toNat ∧ σ' = σ)) 0 [some (vR 0 0), some (vI y), none, none] [] σ := by
  have hs := hW.s
  have loop : ∀ i : Nat, i ≤ (B 6 0).toNat → V yX5_bitsThere cX5_bitsThere 4 (some .int) d (QI (fun v σ' => v = bsN (fun e => bI (B 13 e ≤ y)) (B 6 0).toNat ∧ σ' = σ)) 4 [some (vR 0 0), some (vI y), some (vI (bsN (fun e => bI (B 13 e ≤ y)) i)), some (vI (i : Int))] [] σ := by
    refine up_ind (P := fun i : Nat => V yX5_bitsThere cX5_bitsThere 4 (some .int) d (QI (fun v σ' => v = bsN (fun e => bI (B 13 e ≤ y)) (B 6 0).toNat ∧ σ' = σ)) 4 [some (vR 0 0), some (vI y), some (vI (bsN (fun e => bI (B 13 e ≤ y)) i)), some (vI (i : Int))] [] σ) ?_ ?_
    · 
      refine V_iload_3 (pc := 4) dX5_bitsThere_4 ?_
      refine V_aload_0 (pc := 5) dX5_bitsThere_5 ?_
      refine V_getc (pc := 6) dX5_bitsThere_6 gf_X5_23 (by omega) ?_
      refine V_geti (pc := 9) dX5_bitsThere_9 gf_X5_159 (by omega) hB.s6 ?_
      refine V_icmp_ge (pc := 12) 39 dX5_bitsThere_12 (by decide) (by omega) (by omega) (fun c_12 => ?_) (fun c_12 => ?_)
      · refine V_iload_2 (pc := 39) dX5_bitsThere_39 ?_
        refine V_iretI (pc := 40) dX5_bitsThere_40 rfl ?_
        exact ⟨_, rfl, by first | rfl | omega, rfl⟩
      · exact absurd c_12 (by omega)
    · intro i hi ih
      have h1 := hW.e (i := (i : Int)) (by omega)
      have hb := bsI_in (fun e => B 13 e ≤ y) i
      have hS := bsN_S (fun e => bI (B 13 e ≤ y)) i
      refine V_iload_3 (pc := 4) dX5_bitsThere_4 ?_
      refine V_aload_0 (pc := 5) dX5_bitsThere_5 ?_
      refine V_getc (pc := 6) dX5_bitsThere_6 gf_X5_23 (by omega) ?_
      refine V_geti (pc := 9) dX5_bitsThere_9 gf_X5_159 (by omega) hB.s6 ?_
      refine V_icmp_ge (pc := 12) 39 dX5_bitsThere_12 (by decide) (by omega) (by omega) (fun c_12 => ?_) (fun c_12 => ?_)
      · exact absurd c_12 (by omega)
      · refine V_aload_0 (pc := 15) dX5_bitsThere_15 ?_
        refine V_getc (pc := 16) dX5_bitsThere_16 gf_X5_23 (by omega) ?_
        refine V_iload_3 (pc := 19) dX5_bitsThere_19 ?_
        refine V_iload_1 (pc := 20) dX5_bitsThere_20 ?_
        refine V_callV2p (pc := 21) dX5_bitsThere_21 kv_X5_165 rc_3 (by omega) (d - 1) (by omega) rfl (c_X1_isThere (by omega) (by omega) hB hW (by omega) (by omega)) ?_
        refine V_if_eq_b (pc := 24) 33 dX5_bitsThere_24 (by decide) (fun c_24 => ?_) (fun c_24 => ?_)
        · refine V_iinc_3 (pc := 33) dX5_bitsThere_33 ?_
          refine V_goto (pc := 36) 4 dX5_bitsThere_36 (by decide) ?_
          refine V.sub (by simp only [subL, Option.some.injEq, Sum.inl.injEq, Sum.inr.injEq, reduceCtorEq, true_or, or_true, false_or, true_and, and_true]; first | omega | (rw [hS, bI_t (by omega)]; omega) | (rw [hS, bI_f (by omega)]; omega)) ih
        · refine V_iload_2 (pc := 27) dX5_bitsThere_27 ?_
          refine V_iconst (pc := 28) dX5_bitsThere_28 ?_
          refine V_iload_3 (pc := 29) dX5_bitsThere_29 ?_
          refine V_ishl_1 (pc := 30) dX5_bitsThere_30 (by omega) ?_
          refine V_ior_add (pc := 31) dX5_bitsThere_31 (by assumption) ?_
          refine V_istore_2 (pc := 32) dX5_bitsThere_32 ?_
          refine V_iinc_3 (pc := 33) dX5_bitsThere_33 ?_
          refine V_goto (pc := 36) 4 dX5_bitsThere_36 (by decide) ?_
          refine V.sub (by simp only [subL, Option.some.injEq, Sum.inl.injEq, Sum.inr.injEq, reduceCtorEq, true_or, or_true, false_or, true_and, and_true]; first | omega | (rw [hS, bI_t (by omega)]; omega) | (rw [hS, bI_f (by omega)]; omega)) ih
  refine V_iconst (pc := 0) dX5_bitsThere_0 ?_
  refine V_istore_2 (pc := 1) dX5_bitsThere_1 ?_
  refine V_iconst (pc := 2) dX5_bitsThere_2 ?_
  refine V_istore_3 (pc := 3) dX5_bitsThere_3 ?_
  exact loop 0 (by omega)

set_option maxRecDepth 20000 in
set_option maxHeartbeats 1000000 in
theorem c_X5_clearBits {d : Nat} (hd : 0 ≤ d) {σ : MM} {B : BK} {j r y : Int} (hB : CB σ 1 B) (hW : WB B) (hj : 0 ≤ j ∧ j < 2) (hC : CK σ j B (bt r)) (hy : 0 ≤ y ∧ y ≤ B 1 0) : V yX5_clearBits cX5_clearBits 5 (some .int) d (QI (fun v σ' => v = bsN (fun e => bI (5 ≤ SHD B (bt r) y e)) (B 6 0).toNat ∧ σ' = σ)) 0 [some (vR 0 0), some (vR 18 j), some (vI y), none, none] [] σ := by
  have hs := hW.s
  have loop : ∀ i : Nat, i ≤ (B 6 0).toNat → V yX5_clearBits cX5_clearBits 5 (some .int) d (QI (fun v σ' => v = bsN (fun e => bI (5 ≤ SHD B (bt r) y e)) (B 6 0).toNat ∧ σ' = σ)) 5 [some (vR 0 0), some (vR 18 j), some (vI y), some (vI (bsN (fun e => bI (5 ≤ SHD B (bt r) y e)) i)), some (vI (i : Int))] [] σ := by
    refine up_ind (P := fun i : Nat => V yX5_clearBits cX5_clearBits 5 (some .int) d (QI (fun v σ' => v = bsN (fun e => bI (5 ≤ SHD B (bt r) y e)) (B 6 0).toNat ∧ σ' = σ)) 5 [some (vR 0 0), some (vR 18 j), some (vI y), some (vI (bsN (fun e => bI (5 ≤ SHD B (bt r) y e)) i)), some (vI (i : Int))] [] σ) ?_ ?_
    · 
      refine V_iload_4 (pc := 5) dX5_clearBits_5 ?_
      refine V_aload_0 (pc := 7) dX5_clearBits_7 ?_
      refine V_getc (pc := 8) dX5_clearBits_8 gf_X5_23 (by omega) ?_
      refine V_geti (pc := 11) dX5_clearBits_11 gf_X5_159 (by omega) hB.s6 ?_
      refine V_icmp_ge (pc := 14) 43 dX5_clearBits_14 (by decide) (by omega) (by omega) (fun c_14 => ?_) (fun c_14 => ?_)
      · refine V_iload_3 (pc := 43) dX5_clearBits_43 ?_
        refine V_iretI (pc := 44) dX5_clearBits_44 rfl ?_
        exact ⟨_, rfl, by first | rfl | omega, rfl⟩
      · exact absurd c_14 (by omega)
    · intro i hi ih
      have h1 := SHD_in (r := r) (y := y) hW (e := (i : Int)) (by omega)
      have hb := bsI_in (fun e => 5 ≤ SHD B (bt r) y e) i
      have hS := bsN_S (fun e => bI (5 ≤ SHD B (bt r) y e)) i
      refine V_iload_4 (pc := 5) dX5_clearBits_5 ?_
      refine V_aload_0 (pc := 7) dX5_clearBits_7 ?_
      refine V_getc (pc := 8) dX5_clearBits_8 gf_X5_23 (by omega) ?_
      refine V_geti (pc := 11) dX5_clearBits_11 gf_X5_159 (by omega) hB.s6 ?_
      refine V_icmp_ge (pc := 14) 43 dX5_clearBits_14 (by decide) (by omega) (by omega) (fun c_14 => ?_) (fun c_14 => ?_)
      · exact absurd c_14 (by omega)
      · refine V_aload_1 (pc := 17) dX5_clearBits_17 ?_
        refine V_gets (pc := 18) dX5_clearBits_18 gf_X5_169 (by omega) ?_
        refine V_iload_2 (pc := 21) dX5_clearBits_21 ?_
        refine V_aald_19 (pc := 22) dX5_clearBits_22 (by omega) (by omega) ?_
        refine V_iload_4 (pc := 23) dX5_clearBits_23 ?_
        refine V_iald (pc := 25) dX5_clearBits_25 sh_22 (by omega) (by omega) (hC.sh (by omega) (by omega)) ?_
        refine V_iconst (pc := 26) dX5_clearBits_26 ?_
        refine V_icmp_lt (pc := 27) 37 dX5_clearBits_27 (by decide) (by omega) (by omega) (fun c_27 => ?_) (fun c_27 => ?_)
        · refine V_iinc_4 (pc := 37) dX5_clearBits_37 ?_
          refine V_goto (pc := 40) 5 dX5_clearBits_40 (by decide) ?_
          refine V.sub (by simp only [subL, Option.some.injEq, Sum.inl.injEq, Sum.inr.injEq, reduceCtorEq, true_or, or_true, false_or, true_and, and_true]; first | omega | (rw [hS, bI_t (by omega)]; omega) | (rw [hS, bI_f (by omega)]; omega)) ih
        · refine V_iload_3 (pc := 30) dX5_clearBits_30 ?_
          refine V_iconst (pc := 31) dX5_clearBits_31 ?_
          refine V_iload_4 (pc := 32) dX5_clearBits_32 ?_
          refine V_ishl_1 (pc := 34) dX5_clearBits_34 (by omega) ?_
          refine V_ior_add (pc := 35) dX5_clearBits_35 (by assumption) ?_
          refine V_istore_3 (pc := 36) dX5_clearBits_36 ?_
          refine V_iinc_4 (pc := 37) dX5_clearBits_37 ?_
          refine V_goto (pc := 40) 5 dX5_clearBits_40 (by decide) ?_
          refine V.sub (by simp only [subL, Option.some.injEq, Sum.inl.injEq, Sum.inr.injEq, reduceCtorEq, true_or, or_true, false_or, true_and, and_true]; first | omega | (rw [hS, bI_t (by omega)]; omega) | (rw [hS, bI_f (by omega)]; omega)) ih
  refine V_iconst (pc := 0) dX5_clearBits_0 ?_
  refine V_istore_3 (pc := 1) dX5_clearBits_1 ?_
  refine V_iconst (pc := 2) dX5_clearBits_2 ?_
  refine V_istore_4 (pc := 3) dX5_clearBits_3 ?_
  exact loop 0 (by omega)

set_option maxRecDepth 20000 in
set_option maxHeartbeats 1000000 in
theorem c_X5_darkestOf {d : Nat} (hd : 1 ≤ d) {σ : MM} {B : BK} {s y : Int} (hB : CB σ 1 B) (hW : WB B) (hC : CK σ 0 B (bt 0)) (hs1 : 0 ≤ s ∧ s ≤ 2147483647) (hy : 0 ≤ y ∧ y ≤ B 1 0) : V yX5_darkestOf cX5_darkestOf 5 (some .int) d (QI (fun v σ' => v = bst (fun e => bt s e = 1) (SHD B (bt 0) y) (B 6 0).toNat ∧ σ' = σ)) 0 [some (vR 0 0), some (vI s), some (vI y), none, none] [] σ := by
  have hs := hW.s
  have loop : ∀ i : Nat, i ≤ (B 6 0).toNat → V yX5_darkestOf cX5_darkestOf 5 (some .int) d (QI (fun v σ' => v = bst (fun e => bt s e = 1) (SHD B (bt 0) y) (B 6 0).toNat ∧ σ' = σ)) 5 [some (vR 0 0), some (vI s), some (vI y), some (vI (bst (fun e => bt s e = 1) (SHD B (bt 0) y) i)), some (vI (i : Int))] [] σ := by
    refine up_ind (P := fun i : Nat => V yX5_darkestOf cX5_darkestOf 5 (some .int) d (QI (fun v σ' => v = bst (fun e => bt s e = 1) (SHD B (bt 0) y) (B 6 0).toNat ∧ σ' = σ)) 5 [some (vR 0 0), some (vI s), some (vI y), some (vI (bst (fun e => bt s e = 1) (SHD B (bt 0) y) i)), some (vI (i : Int))] [] σ) ?_ ?_
    · 
      refine V_iload_4 (pc := 5) dX5_darkestOf_5 ?_
      refine V_aload_0 (pc := 7) dX5_darkestOf_7 ?_
      refine V_getc (pc := 8) dX5_darkestOf_8 gf_X5_23 (by omega) ?_
      refine V_geti (pc := 11) dX5_darkestOf_11 gf_X5_159 (by omega) hB.s6 ?_
      refine V_icmp_ge (pc := 14) 66 dX5_darkestOf_14 (by decide) (by omega) (by omega) (fun c_14 => ?_) (fun c_14 => ?_)
      · refine V_iload_3 (pc := 66) dX5_darkestOf_66 ?_
        refine V_iretI (pc := 67) dX5_darkestOf_67 rfl ?_
        exact ⟨_, rfl, by first | rfl | omega, rfl⟩
      · exact absurd c_14 (by omega)
    · intro i hi ih
      have h1 := SHD_in (r := 0) (y := y) hW (e := (i : Int)) (by omega)
      have hb := bst_in (p := (fun e => bt s e = 1)) (g := (SHD B (bt 0) y)) i
      have h2 : bst (fun e => bt s e = 1) (SHD B (bt 0) y) i ≠ -1 → _ := fun q => SHD_in (r := 0) (y := y) hW (e := bst (fun e => bt s e = 1) (SHD B (bt 0) y) i) (by omega)
      have hS : bst (fun e => bt s e = 1) (SHD B (bt 0) y) (i + 1) = if bt s i = 1 ∧ (bst (fun e => bt s e = 1) (SHD B (bt 0) y) i = -1 ∨ SHD B (bt 0) y (bst (fun e => bt s e = 1) (SHD B (bt 0) y) i) < SHD B (bt 0) y (i : Int)) then (i : Int) else bst (fun e => bt s e = 1) (SHD B (bt 0) y) i := rfl
      refine V_iload_4 (pc := 5) dX5_darkestOf_5 ?_
      refine V_aload_0 (pc := 7) dX5_darkestOf_7 ?_
      refine V_getc (pc := 8) dX5_darkestOf_8 gf_X5_23 (by omega) ?_
      refine V_geti (pc := 11) dX5_darkestOf_11 gf_X5_159 (by omega) hB.s6 ?_
      refine V_icmp_ge (pc := 14) 66 dX5_darkestOf_14 (by decide) (by omega) (by omega) (fun c_14 => ?_) (fun c_14 => ?_)
      · exact absurd c_14 (by omega)
      · refine V_iload_1 (pc := 17) dX5_darkestOf_17 ?_
        refine V_iload_4 (pc := 18) dX5_darkestOf_18 ?_
        refine V_callS2p (pc := 20) dX5_darkestOf_20 kv_X5_233 (d - 1) (by omega) rfl (c_X5_hasBit (by omega) hs1 (by omega)) ?_
        refine V_if_eq_b (pc := 23) 60 dX5_darkestOf_23 (by decide) (fun c_23 => ?_) (fun c_23 => ?_)
        · refine V_iinc_4 (pc := 60) dX5_darkestOf_60 ?_
          refine V_goto (pc := 63) 5 dX5_darkestOf_63 (by decide) ?_
          refine V.sub (by simp only [subL, Option.some.injEq, Sum.inl.injEq, Sum.inr.injEq, reduceCtorEq, true_or, or_true, false_or, true_and, and_true]; first | omega | (rw [hS, if_pos (by omega)]; omega) | (rw [hS, if_neg (by omega)]; omega)) ih
        · refine V_iload_3 (pc := 26) dX5_darkestOf_26 ?_
          refine V_iconst (pc := 27) dX5_darkestOf_27 ?_
          refine V_icmp_eq (pc := 28) 57 dX5_darkestOf_28 (by decide) (by omega) (by omega) (fun c_28 => ?_) (fun c_28 => ?_)
          · refine V_iload_4 (pc := 57) dX5_darkestOf_57 ?_
            refine V_istore_3 (pc := 59) dX5_darkestOf_59 ?_
            refine V_iinc_4 (pc := 60) dX5_darkestOf_60 ?_
            refine V_goto (pc := 63) 5 dX5_darkestOf_63 (by decide) ?_
            refine V.sub (by simp only [subL, Option.some.injEq, Sum.inl.injEq, Sum.inr.injEq, reduceCtorEq, true_or, or_true, false_or, true_and, and_true]; first | omega | (rw [hS, if_pos (by omega)]; omega) | (rw [hS, if_neg (by omega)]; omega)) ih
          · refine V_aload_0 (pc := 31) dX5_darkestOf_31 ?_
            refine V_getc (pc := 32) dX5_darkestOf_32 gf_X5_32 (by omega) ?_
            refine V_gets (pc := 35) dX5_darkestOf_35 gf_X5_169 (by omega) ?_
            refine V_iload_2 (pc := 38) dX5_darkestOf_38 ?_
            refine V_aald_19 (pc := 39) dX5_darkestOf_39 (by omega) (by omega) ?_
            refine V_iload_4 (pc := 40) dX5_darkestOf_40 ?_
            refine V_iald (pc := 42) dX5_darkestOf_42 sh_22 (by omega) (by omega) (hC.sh (by omega) (by omega)) ?_
            refine V_aload_0 (pc := 43) dX5_darkestOf_43 ?_
            refine V_getc (pc := 44) dX5_darkestOf_44 gf_X5_32 (by omega) ?_
            refine V_gets (pc := 47) dX5_darkestOf_47 gf_X5_169 (by omega) ?_
            refine V_iload_2 (pc := 50) dX5_darkestOf_50 ?_
            refine V_aald_19 (pc := 51) dX5_darkestOf_51 (by omega) (by omega) ?_
            refine V_iload_3 (pc := 52) dX5_darkestOf_52 ?_
            refine V_iald (pc := 53) dX5_darkestOf_53 sh_22 (by omega) (by omega) (hC.sh (by omega) (by omega)) ?_
            refine V_icmp_le (pc := 54) 60 dX5_darkestOf_54 (by decide) (by omega) (by omega) (fun c_54 => ?_) (fun c_54 => ?_)
            · refine V_iinc_4 (pc := 60) dX5_darkestOf_60 ?_
              refine V_goto (pc := 63) 5 dX5_darkestOf_63 (by decide) ?_
              refine V.sub (by simp only [subL, Option.some.injEq, Sum.inl.injEq, Sum.inr.injEq, reduceCtorEq, true_or, or_true, false_or, true_and, and_true]; first | omega | (rw [hS, if_pos (by omega)]; omega) | (rw [hS, if_neg (by omega)]; omega)) ih
            · refine V_iload_4 (pc := 57) dX5_darkestOf_57 ?_
              refine V_istore_3 (pc := 59) dX5_darkestOf_59 ?_
              refine V_iinc_4 (pc := 60) dX5_darkestOf_60 ?_
              refine V_goto (pc := 63) 5 dX5_darkestOf_63 (by decide) ?_
              refine V.sub (by simp only [subL, Option.some.injEq, Sum.inl.injEq, Sum.inr.injEq, reduceCtorEq, true_or, or_true, false_or, true_and, and_true]; first | omega | (rw [hS, if_pos (by omega)]; omega) | (rw [hS, if_neg (by omega)]; omega)) ih
  refine V_iconst (pc := 0) dX5_darkestOf_0 ?_
  refine V_istore_3 (pc := 1) dX5_darkestOf_1 ?_
  refine V_iconst (pc := 2) dX5_darkestOf_2 ?_
  refine V_istore_4 (pc := 3) dX5_darkestOf_3 ?_
  exact loop 0 (by omega)

set_option maxRecDepth 20000 in
set_option maxHeartbeats 1000000 in
theorem c_X5_palestOf {d : Nat} (hd : 1 ≤ d) {σ : MM} {B : BK} {s y : Int} (hB : CB σ 1 B) (hW : WB B) (hC : CK σ 0 B (bt 0)) (hs1 : 0 ≤ s ∧ s ≤ 2147483647) (hy : 0 ≤ y ∧ y ≤ B 1 0) : V yX5_palestOf cX5_palestOf 5 (some .int) d (QI (fun v σ' => v = bst (fun e => bt s e = 1) (fun e => -SHD B (bt 0) y e) (B 6 0).toNat ∧ σ' = σ)) 0 [some (vR 0 0), some (vI s), some (vI y), none, none] [] σ := by
  have hs := hW.s
  have loop : ∀ i : Nat, i ≤ (B 6 0).toNat → V yX5_palestOf cX5_palestOf 5 (some .int) d (QI (fun v σ' => v = bst (fun e => bt s e = 1) (fun e => -SHD B (bt 0) y e) (B 6 0).toNat ∧ σ' = σ)) 5 [some (vR 0 0), some (vI s), some (vI y), some (vI (bst (fun e => bt s e = 1) (fun e => -SHD B (bt 0) y e) i)), some (vI (i : Int))] [] σ := by
    refine up_ind (P := fun i : Nat => V yX5_palestOf cX5_palestOf 5 (some .int) d (QI (fun v σ' => v = bst (fun e => bt s e = 1) (fun e => -SHD B (bt 0) y e) (B 6 0).toNat ∧ σ' = σ)) 5 [some (vR 0 0), some (vI s), some (vI y), some (vI (bst (fun e => bt s e = 1) (fun e => -SHD B (bt 0) y e) i)), some (vI (i : Int))] [] σ) ?_ ?_
    · 
      refine V_iload_4 (pc := 5) dX5_palestOf_5 ?_
      refine V_aload_0 (pc := 7) dX5_palestOf_7 ?_
      refine V_getc (pc := 8) dX5_palestOf_8 gf_X5_23 (by omega) ?_
      refine V_geti (pc := 11) dX5_palestOf_11 gf_X5_159 (by omega) hB.s6 ?_
      refine V_icmp_ge (pc := 14) 66 dX5_palestOf_14 (by decide) (by omega) (by omega) (fun c_14 => ?_) (fun c_14 => ?_)
      · refine V_iload_3 (pc := 66) dX5_palestOf_66 ?_
        refine V_iretI (pc := 67) dX5_palestOf_67 rfl ?_
        exact ⟨_, rfl, by first | rfl | omega, rfl⟩
      · exact absurd c_14 (by omega)
    · intro i hi ih
      have h1 := SHD_in (r := 0) (y := y) hW (e := (i : Int)) (by omega)
      have hb := bst_in (p := (fun e => bt s e = 1)) (g := (fun e => -SHD B (bt 0) y e)) i
      have h2 : bst (fun e => bt s e = 1) (fun e => -SHD B (bt 0) y e) i ≠ -1 → _ := fun q => SHD_in (r := 0) (y := y) hW (e := bst (fun e => bt s e = 1) (fun e => -SHD B (bt 0) y e) i) (by omega)
      have hS : bst (fun e => bt s e = 1) (fun e => -SHD B (bt 0) y e) (i + 1) = if bt s i = 1 ∧ (bst (fun e => bt s e = 1) (fun e => -SHD B (bt 0) y e) i = -1 ∨ -SHD B (bt 0) y (bst (fun e => bt s e = 1) (fun e => -SHD B (bt 0) y e) i) < -SHD B (bt 0) y (i : Int)) then (i : Int) else bst (fun e => bt s e = 1) (fun e => -SHD B (bt 0) y e) i := rfl
      refine V_iload_4 (pc := 5) dX5_palestOf_5 ?_
      refine V_aload_0 (pc := 7) dX5_palestOf_7 ?_
      refine V_getc (pc := 8) dX5_palestOf_8 gf_X5_23 (by omega) ?_
      refine V_geti (pc := 11) dX5_palestOf_11 gf_X5_159 (by omega) hB.s6 ?_
      refine V_icmp_ge (pc := 14) 66 dX5_palestOf_14 (by decide) (by omega) (by omega) (fun c_14 => ?_) (fun c_14 => ?_)
      · exact absurd c_14 (by omega)
      · refine V_iload_1 (pc := 17) dX5_palestOf_17 ?_
        refine V_iload_4 (pc := 18) dX5_palestOf_18 ?_
        refine V_callS2p (pc := 20) dX5_palestOf_20 kv_X5_233 (d - 1) (by omega) rfl (c_X5_hasBit (by omega) hs1 (by omega)) ?_
        refine V_if_eq_b (pc := 23) 60 dX5_palestOf_23 (by decide) (fun c_23 => ?_) (fun c_23 => ?_)
        · refine V_iinc_4 (pc := 60) dX5_palestOf_60 ?_
          refine V_goto (pc := 63) 5 dX5_palestOf_63 (by decide) ?_
          refine V.sub (by simp only [subL, Option.some.injEq, Sum.inl.injEq, Sum.inr.injEq, reduceCtorEq, true_or, or_true, false_or, true_and, and_true]; first | omega | (rw [hS, if_pos (by omega)]; omega) | (rw [hS, if_neg (by omega)]; omega)) ih
        · refine V_iload_3 (pc := 26) dX5_palestOf_26 ?_
          refine V_iconst (pc := 27) dX5_palestOf_27 ?_
          refine V_icmp_eq (pc := 28) 57 dX5_palestOf_28 (by decide) (by omega) (by omega) (fun c_28 => ?_) (fun c_28 => ?_)
          · refine V_iload_4 (pc := 57) dX5_palestOf_57 ?_
            refine V_istore_3 (pc := 59) dX5_palestOf_59 ?_
            refine V_iinc_4 (pc := 60) dX5_palestOf_60 ?_
            refine V_goto (pc := 63) 5 dX5_palestOf_63 (by decide) ?_
            refine V.sub (by simp only [subL, Option.some.injEq, Sum.inl.injEq, Sum.inr.injEq, reduceCtorEq, true_or, or_true, false_or, true_and, and_true]; first | omega | (rw [hS, if_pos (by omega)]; omega) | (rw [hS, if_neg (by omega)]; omega)) ih
          · refine V_aload_0 (pc := 31) dX5_palestOf_31 ?_
            refine V_getc (pc := 32) dX5_palestOf_32 gf_X5_32 (by omega) ?_
            refine V_gets (pc := 35) dX5_palestOf_35 gf_X5_169 (by omega) ?_
            refine V_iload_2 (pc := 38) dX5_palestOf_38 ?_
            refine V_aald_19 (pc := 39) dX5_palestOf_39 (by omega) (by omega) ?_
            refine V_iload_4 (pc := 40) dX5_palestOf_40 ?_
            refine V_iald (pc := 42) dX5_palestOf_42 sh_22 (by omega) (by omega) (hC.sh (by omega) (by omega)) ?_
            refine V_aload_0 (pc := 43) dX5_palestOf_43 ?_
            refine V_getc (pc := 44) dX5_palestOf_44 gf_X5_32 (by omega) ?_
            refine V_gets (pc := 47) dX5_palestOf_47 gf_X5_169 (by omega) ?_
            refine V_iload_2 (pc := 50) dX5_palestOf_50 ?_
            refine V_aald_19 (pc := 51) dX5_palestOf_51 (by omega) (by omega) ?_
            refine V_iload_3 (pc := 52) dX5_palestOf_52 ?_
            refine V_iald (pc := 53) dX5_palestOf_53 sh_22 (by omega) (by omega) (hC.sh (by omega) (by omega)) ?_
            refine V_icmp_ge (pc := 54) 60 dX5_palestOf_54 (by decide) (by omega) (by omega) (fun c_54 => ?_) (fun c_54 => ?_)
            · refine V_iinc_4 (pc := 60) dX5_palestOf_60 ?_
              refine V_goto (pc := 63) 5 dX5_palestOf_63 (by decide) ?_
              refine V.sub (by simp only [subL, Option.some.injEq, Sum.inl.injEq, Sum.inr.injEq, reduceCtorEq, true_or, or_true, false_or, true_and, and_true]; first | omega | (rw [hS, if_pos (by omega)]; omega) | (rw [hS, if_neg (by omega)]; omega)) ih
            · refine V_iload_4 (pc := 57) dX5_palestOf_57 ?_
              refine V_istore_3 (pc := 59) dX5_palestOf_59 ?_
              refine V_iinc_4 (pc := 60) dX5_palestOf_60 ?_
              refine V_goto (pc := 63) 5 dX5_palestOf_63 (by decide) ?_
              refine V.sub (by simp only [subL, Option.some.injEq, Sum.inl.injEq, Sum.inr.injEq, reduceCtorEq, true_or, or_true, false_or, true_and, and_true]; first | omega | (rw [hS, if_pos (by omega)]; omega) | (rw [hS, if_neg (by omega)]; omega)) ih
  refine V_iconst (pc := 0) dX5_palestOf_0 ?_
  refine V_istore_3 (pc := 1) dX5_palestOf_1 ?_
  refine V_iconst (pc := 2) dX5_palestOf_2 ?_
  refine V_istore_4 (pc := 3) dX5_palestOf_3 ?_
  exact loop 0 (by omega)

set_option maxRecDepth 20000 in
set_option maxHeartbeats 1000000 in
theorem c_J6_compare_7cf53 {d : Nat} (hd : 0 ≤ d) {σ : MM} {x y : Int} (hx : IR x) (hy : IR y) : V yJ6_compare_7cf53 cJ6_compare_7cf53 2 (some .int) d (QI (fun v σ' => v = cmpI x y ∧ σ' = σ)) 0 [some (vI x), some (vI y)] [] σ := by
  refine V_iload_0 (pc := 0) dJ6_compare_7cf53_0 ?_
  refine V_iload_1 (pc := 1) dJ6_compare_7cf53_1 ?_
  refine V_icmp_ge (pc := 2) 9 dJ6_compare_7cf53_2 (by decide) (by omega) (by omega) (fun c_2 => ?_) (fun c_2 => ?_)
  · refine V_iload_0 (pc := 9) dJ6_compare_7cf53_9 ?_
    refine V_iload_1 (pc := 10) dJ6_compare_7cf53_10 ?_
    refine V_icmp_ne (pc := 11) 18 dJ6_compare_7cf53_11 (by decide) (by omega) (by omega) (fun c_11 => ?_) (fun c_11 => ?_)
    · refine V_iconst (pc := 18) dJ6_compare_7cf53_18 ?_
      refine V_iretI (pc := 19) dJ6_compare_7cf53_19 rfl ?_
      exact ⟨_, rfl, by unfold cmpI; (repeat' split) <;> omega, rfl⟩
    · refine V_iconst (pc := 14) dJ6_compare_7cf53_14 ?_
      refine V_goto (pc := 15) 19 dJ6_compare_7cf53_15 (by decide) ?_
      refine V_iretI (pc := 19) dJ6_compare_7cf53_19 rfl ?_
      exact ⟨_, rfl, by unfold cmpI; (repeat' split) <;> omega, rfl⟩
  · refine V_iconst (pc := 5) dJ6_compare_7cf53_5 ?_
    refine V_goto (pc := 6) 19 dJ6_compare_7cf53_6 (by decide) ?_
    refine V_iretI (pc := 19) dJ6_compare_7cf53_19 rfl ?_
    exact ⟨_, rfl, by unfold cmpI; (repeat' split) <;> omega, rfl⟩

set_option maxRecDepth 20000 in
set_option maxHeartbeats 1000000 in
theorem c_X5_earlierBehind {d : Nat} (hd : 0 ≤ d) {σ : MM} {B : BK} {e : Int} (hB : CB σ 1 B) (hW : WB B) (he : 0 ≤ e ∧ e < B 6 0) : V yX5_earlierBehind cX5_earlierBehind 3 (some .boolean) d (QI (fun v σ' => v = bI (EBH B e) ∧ σ' = σ)) 0 [some (vR 0 0), some (vI e), none] [] σ := by
  have hs := hW.s
  have loop : ∀ i : Nat, i ≤ (B 6 0).toNat → (fst (fun k => e < k ∧ B 11 k = B 11 e ∧ B 13 k < B 13 e) (B 6 0).toNat 0 = fst (fun k => e < k ∧ B 11 k = B 11 e ∧ B 13 k < B 13 e) ((B 6 0).toNat - i) i) → V yX5_earlierBehind cX5_earlierBehind 3 (some .boolean) d (QI (fun v σ' => v = bI (EBH B e) ∧ σ' = σ)) 2 [some (vR 0 0), some (vI e), some (vI (i : Int))] [] σ := by
    refine up_ind (P := fun i : Nat => (fst (fun k => e < k ∧ B 11 k = B 11 e ∧ B 13 k < B 13 e) (B 6 0).toNat 0 = fst (fun k => e < k ∧ B 11 k = B 11 e ∧ B 13 k < B 13 e) ((B 6 0).toNat - i) i) → V yX5_earlierBehind cX5_earlierBehind 3 (some .boolean) d (QI (fun v σ' => v = bI (EBH B e) ∧ σ' = σ)) 2 [some (vR 0 0), some (vI e), some (vI (i : Int))] [] σ) ?_ ?_
    · intro hI
      refine V_iload_2 (pc := 2) dX5_earlierBehind_2 ?_
      refine V_aload_0 (pc := 3) dX5_earlierBehind_3 ?_
      refine V_getc (pc := 4) dX5_earlierBehind_4 gf_X5_23 (by omega) ?_
      refine V_geti (pc := 7) dX5_earlierBehind_7 gf_X5_159 (by omega) hB.s6 ?_
      refine V_icmp_ge (pc := 10) 84 dX5_earlierBehind_10 (by decide) (by omega) (by omega) (fun c_10 => ?_) (fun c_10 => ?_)
      · refine V_iconst (pc := 84) dX5_earlierBehind_84 ?_
        refine V_iretZ (pc := 85) dX5_earlierBehind_85 rfl (by omega) ?_
        exact ⟨_, rfl, (bI_f (fun q => q (fst0_e hI))).symm, rfl⟩
      · exact absurd c_10 (by omega)
    · intro i hi ih hI
      have h1 := hW.e (i := (i : Int)) (by omega)
      have h2 := hW.e he
      have g1 := PLC_in (B := B) (k := (i : Int)) (by omega)
      have g2 := PLC_in (B := B) (k := e) (by omega)
      have hP : B 11 i = B 11 e → (PLC B e < PLC B i ↔ e < i) := fun q => PLC_iff he.1 (by omega) q
      have hY := fst0_y hi hI
      have hN := fst0_n hi hI
      refine V_iload_2 (pc := 2) dX5_earlierBehind_2 ?_
      refine V_aload_0 (pc := 3) dX5_earlierBehind_3 ?_
      refine V_getc (pc := 4) dX5_earlierBehind_4 gf_X5_23 (by omega) ?_
      refine V_geti (pc := 7) dX5_earlierBehind_7 gf_X5_159 (by omega) hB.s6 ?_
      refine V_icmp_ge (pc := 10) 84 dX5_earlierBehind_10 (by decide) (by omega) (by omega) (fun c_10 => ?_) (fun c_10 => ?_)
      · exact absurd c_10 (by omega)
      · refine V_aload_0 (pc := 13) dX5_earlierBehind_13 ?_
        refine V_getc (pc := 14) dX5_earlierBehind_14 gf_X5_23 (by omega) ?_
        refine V_gets (pc := 17) dX5_earlierBehind_17 gf_X5_128 (by omega) ?_
        refine V_iload_2 (pc := 20) dX5_earlierBehind_20 ?_
        refine V_iald (pc := 21) dX5_earlierBehind_21 sh_8 (by omega) (by omega) (hB.a8 (by omega)) ?_
        refine V_aload_0 (pc := 22) dX5_earlierBehind_22 ?_
        refine V_getc (pc := 23) dX5_earlierBehind_23 gf_X5_23 (by omega) ?_
        refine V_gets (pc := 26) dX5_earlierBehind_26 gf_X5_128 (by omega) ?_
        refine V_iload_1 (pc := 29) dX5_earlierBehind_29 ?_
        refine V_iald (pc := 30) dX5_earlierBehind_30 sh_8 (by omega) (by omega) (hB.a8 (by omega)) ?_
        refine V_icmp_ne (pc := 31) 78 dX5_earlierBehind_31 (by decide) (by omega) (by omega) (fun c_31 => ?_) (fun c_31 => ?_)
        · refine V_iinc_2 (pc := 78) dX5_earlierBehind_78 ?_
          refine V_goto (pc := 81) 2 dX5_earlierBehind_81 (by decide) ?_
          refine V.sub (by simp only [subL, Option.some.injEq, Sum.inl.injEq, reduceCtorEq, true_or, or_true, false_or, true_and, and_true]; omega) (ih (hN (fun q => by have := hP q.2.1; omega)))
        · refine V_aload_0 (pc := 34) dX5_earlierBehind_34 ?_
          refine V_getc (pc := 35) dX5_earlierBehind_35 gf_X5_23 (by omega) ?_
          refine V_gets (pc := 38) dX5_earlierBehind_38 gf_X5_140 (by omega) ?_
          refine V_iload_2 (pc := 41) dX5_earlierBehind_41 ?_
          refine V_iald (pc := 42) dX5_earlierBehind_42 sh_12 (by omega) (by omega) (hB.a12 (by omega)) ?_
          refine V_aload_0 (pc := 43) dX5_earlierBehind_43 ?_
          refine V_getc (pc := 44) dX5_earlierBehind_44 gf_X5_23 (by omega) ?_
          refine V_gets (pc := 47) dX5_earlierBehind_47 gf_X5_140 (by omega) ?_
          refine V_iload_1 (pc := 50) dX5_earlierBehind_50 ?_
          refine V_iald (pc := 51) dX5_earlierBehind_51 sh_12 (by omega) (by omega) (hB.a12 (by omega)) ?_
          refine V_icmp_le (pc := 52) 78 dX5_earlierBehind_52 (by decide) (by omega) (by omega) (fun c_52 => ?_) (fun c_52 => ?_)
          · refine V_iinc_2 (pc := 78) dX5_earlierBehind_78 ?_
            refine V_goto (pc := 81) 2 dX5_earlierBehind_81 (by decide) ?_
            refine V.sub (by simp only [subL, Option.some.injEq, Sum.inl.injEq, reduceCtorEq, true_or, or_true, false_or, true_and, and_true]; omega) (ih (hN (fun q => by have := hP q.2.1; omega)))
          · refine V_aload_0 (pc := 55) dX5_earlierBehind_55 ?_
            refine V_getc (pc := 56) dX5_earlierBehind_56 gf_X5_23 (by omega) ?_
            refine V_gets (pc := 59) dX5_earlierBehind_59 gf_X5_134 (by omega) ?_
            refine V_iload_2 (pc := 62) dX5_earlierBehind_62 ?_
            refine V_iald (pc := 63) dX5_earlierBehind_63 sh_10 (by omega) (by omega) (hB.a10 (by omega)) ?_
            refine V_aload_0 (pc := 64) dX5_earlierBehind_64 ?_
            refine V_getc (pc := 65) dX5_earlierBehind_65 gf_X5_23 (by omega) ?_
            refine V_gets (pc := 68) dX5_earlierBehind_68 gf_X5_134 (by omega) ?_
            refine V_iload_1 (pc := 71) dX5_earlierBehind_71 ?_
            refine V_iald (pc := 72) dX5_earlierBehind_72 sh_10 (by omega) (by omega) (hB.a10 (by omega)) ?_
            refine V_icmp_ge (pc := 73) 78 dX5_earlierBehind_73 (by decide) (by omega) (by omega) (fun c_73 => ?_) (fun c_73 => ?_)
            · refine V_iinc_2 (pc := 78) dX5_earlierBehind_78 ?_
              refine V_goto (pc := 81) 2 dX5_earlierBehind_81 (by decide) ?_
              refine V.sub (by simp only [subL, Option.some.injEq, Sum.inl.injEq, reduceCtorEq, true_or, or_true, false_or, true_and, and_true]; omega) (ih (hN (fun q => by have := hP q.2.1; omega)))
            · refine V_iconst (pc := 76) dX5_earlierBehind_76 ?_
              refine V_iretZ (pc := 77) dX5_earlierBehind_77 rfl (by omega) ?_
              exact ⟨_, rfl, (bI_t (by unfold EBH; rw [hY ⟨by have := hP c_31; omega, c_31, c_73⟩]; omega)).symm, rfl⟩
  refine V_iconst (pc := 0) dX5_earlierBehind_0 ?_
  refine V_istore_2 (pc := 1) dX5_earlierBehind_1 ?_
  exact loop 0 (by omega) (by rfl)

set_option maxRecDepth 20000 in
set_option maxHeartbeats 1000000 in
theorem c_X5_ripeYear {d : Nat} (hd : 0 ≤ d) {σ : MM} {B : BK} {e : Int} (hB : CB σ 1 B) (hW : WB B) (hC : CK σ 0 B (bt 0)) (he : 0 ≤ e ∧ e < B 6 0) : V yX5_ripeYear cX5_ripeYear 4 (some .int) d (QI (fun v σ' => v = mxN (fun y => SHD B (bt 0) y e) (B 1 0).toNat ∧ σ' = σ)) 0 [some (vR 0 0), some (vI e), none, none] [] σ := by
  have hs := hW.s
  have loop : ∀ i : Nat, i ≤ (B 1 0).toNat → V yX5_ripeYear cX5_ripeYear 4 (some .int) d (QI (fun v σ' => v = mxN (fun y => SHD B (bt 0) y e) (B 1 0).toNat ∧ σ' = σ)) 4 [some (vR 0 0), some (vI e), some (vI (mxN (fun y => SHD B (bt 0) y e) i)), some (vI ((i : Int) + 1))] [] σ := by
    refine up_ind (P := fun i : Nat => V yX5_ripeYear cX5_ripeYear 4 (some .int) d (QI (fun v σ' => v = mxN (fun y => SHD B (bt 0) y e) (B 1 0).toNat ∧ σ' = σ)) 4 [some (vR 0 0), some (vI e), some (vI (mxN (fun y => SHD B (bt 0) y e) i)), some (vI ((i : Int) + 1))] [] σ) ?_ ?_
    · 
      refine V_iload_3 (pc := 4) dX5_ripeYear_4 ?_
      refine V_aload_0 (pc := 5) dX5_ripeYear_5 ?_
      refine V_getc (pc := 6) dX5_ripeYear_6 gf_X5_23 (by omega) ?_
      refine V_geti (pc := 9) dX5_ripeYear_9 gf_X5_175 (by omega) hB.s1 ?_
      refine V_icmp_gt (pc := 12) 48 dX5_ripeYear_12 (by decide) (by omega) (by omega) (fun c_12 => ?_) (fun c_12 => ?_)
      · refine V_iload_2 (pc := 48) dX5_ripeYear_48 ?_
        refine V_iretI (pc := 49) dX5_ripeYear_49 rfl ?_
        exact ⟨_, rfl, by first | rfl | omega, rfl⟩
      · exact absurd c_12 (by omega)
    · intro i hi ih
      have h0 := mxN_in (fun y => SHD B (bt 0) y e) i
      have h1 := SHD_in (r := 0) (y := (i : Int) + 1) hW he
      have h2 := SHD_in (r := 0) (y := mxN (fun y => SHD B (bt 0) y e) i) hW he
      have hS : mxN (fun y => SHD B (bt 0) y e) (i + 1) = if SHD B (bt 0) (mxN (fun y => SHD B (bt 0) y e) i) e < SHD B (bt 0) ((i : Int) + 1) e then (i : Int) + 1 else mxN (fun y => SHD B (bt 0) y e) i := rfl
      refine V_iload_3 (pc := 4) dX5_ripeYear_4 ?_
      refine V_aload_0 (pc := 5) dX5_ripeYear_5 ?_
      refine V_getc (pc := 6) dX5_ripeYear_6 gf_X5_23 (by omega) ?_
      refine V_geti (pc := 9) dX5_ripeYear_9 gf_X5_175 (by omega) hB.s1 ?_
      refine V_icmp_gt (pc := 12) 48 dX5_ripeYear_12 (by decide) (by omega) (by omega) (fun c_12 => ?_) (fun c_12 => ?_)
      · exact absurd c_12 (by omega)
      · refine V_aload_0 (pc := 15) dX5_ripeYear_15 ?_
        refine V_getc (pc := 16) dX5_ripeYear_16 gf_X5_32 (by omega) ?_
        refine V_gets (pc := 19) dX5_ripeYear_19 gf_X5_169 (by omega) ?_
        refine V_iload_3 (pc := 22) dX5_ripeYear_22 ?_
        refine V_aald_19 (pc := 23) dX5_ripeYear_23 (by omega) (by omega) ?_
        refine V_iload_1 (pc := 24) dX5_ripeYear_24 ?_
        refine V_iald (pc := 25) dX5_ripeYear_25 sh_22 (by omega) (by omega) (hC.sh (by omega) (by omega)) ?_
        refine V_aload_0 (pc := 26) dX5_ripeYear_26 ?_
        refine V_getc (pc := 27) dX5_ripeYear_27 gf_X5_32 (by omega) ?_
        refine V_gets (pc := 30) dX5_ripeYear_30 gf_X5_169 (by omega) ?_
        refine V_iload_2 (pc := 33) dX5_ripeYear_33 ?_
        refine V_aald_19 (pc := 34) dX5_ripeYear_34 (by omega) (by omega) ?_
        refine V_iload_1 (pc := 35) dX5_ripeYear_35 ?_
        refine V_iald (pc := 36) dX5_ripeYear_36 sh_22 (by omega) (by omega) (hC.sh (by omega) (by omega)) ?_
        refine V_icmp_le (pc := 37) 42 dX5_ripeYear_37 (by decide) (by omega) (by omega) (fun c_37 => ?_) (fun c_37 => ?_)
        · refine V_iinc_3 (pc := 42) dX5_ripeYear_42 ?_
          refine V_goto (pc := 45) 4 dX5_ripeYear_45 (by decide) ?_
          refine V.sub (by simp only [subL, Option.some.injEq, Sum.inl.injEq, Sum.inr.injEq, reduceCtorEq, true_or, or_true, false_or, true_and, and_true]; first | omega | (rw [hS, if_pos (by omega)]; omega) | (rw [hS, if_neg (by omega)]; omega)) ih
        · refine V_iload_3 (pc := 40) dX5_ripeYear_40 ?_
          refine V_istore_2 (pc := 41) dX5_ripeYear_41 ?_
          refine V_iinc_3 (pc := 42) dX5_ripeYear_42 ?_
          refine V_goto (pc := 45) 4 dX5_ripeYear_45 (by decide) ?_
          refine V.sub (by simp only [subL, Option.some.injEq, Sum.inl.injEq, Sum.inr.injEq, reduceCtorEq, true_or, or_true, false_or, true_and, and_true]; first | omega | (rw [hS, if_pos (by omega)]; omega) | (rw [hS, if_neg (by omega)]; omega)) ih
  refine V_iconst (pc := 0) dX5_ripeYear_0 ?_
  refine V_istore_2 (pc := 1) dX5_ripeYear_1 ?_
  refine V_iconst (pc := 2) dX5_ripeYear_2 ?_
  refine V_istore_3 (pc := 3) dX5_ripeYear_3 ?_
  exact loop 0 (by omega)

set_option maxRecDepth 20000 in
set_option maxHeartbeats 1000000 in
theorem c_X5_bothThere {d : Nat} (hd : 1 ≤ d) {σ : MM} {B : BK} {e k y : Int} (hB : CB σ 1 B) (hW : WB B) (he : 0 ≤ e ∧ e < B 6 0) (hk : 0 ≤ k ∧ k < B 6 0) (hy : IR y) : V yX5_bothThere cX5_bothThere 4 (some .boolean) d (QI (fun v σ' => v = bI (B 13 e ≤ y ∧ B 13 k ≤ y) ∧ σ' = σ)) 0 [some (vR 0 0), some (vI e), some (vI k), some (vI y)] [] σ := by
  have hs := hW.s
  refine V_aload_0 (pc := 0) dX5_bothThere_0 ?_
  refine V_getc (pc := 1) dX5_bothThere_1 gf_X5_23 (by omega) ?_
  refine V_iload_1 (pc := 4) dX5_bothThere_4 ?_
  refine V_iload_3 (pc := 5) dX5_bothThere_5 ?_
  refine V_callV2p (pc := 6) dX5_bothThere_6 kv_X5_165 rc_3 (by omega) (d - 1) (by omega) rfl (c_X1_isThere (by omega) (by omega) hB hW (by omega) (by omega)) ?_
  refine V_if_eq_b (pc := 9) 28 dX5_bothThere_9 (by decide) (fun c_9 => ?_) (fun c_9 => ?_)
  · refine V_iconst (pc := 28) dX5_bothThere_28 ?_
    refine V_iretZ (pc := 29) dX5_bothThere_29 rfl (by omega) ?_
    exact ⟨_, rfl, by first | exact (bI_t (by omega)).symm | exact (bI_f (by omega)).symm, rfl⟩
  · refine V_aload_0 (pc := 12) dX5_bothThere_12 ?_
    refine V_getc (pc := 13) dX5_bothThere_13 gf_X5_23 (by omega) ?_
    refine V_iload_2 (pc := 16) dX5_bothThere_16 ?_
    refine V_iload_3 (pc := 17) dX5_bothThere_17 ?_
    refine V_callV2p (pc := 18) dX5_bothThere_18 kv_X5_165 rc_3 (by omega) (d - 1) (by omega) rfl (c_X1_isThere (by omega) (by omega) hB hW (by omega) (by omega)) ?_
    refine V_if_eq_b (pc := 21) 28 dX5_bothThere_21 (by decide) (fun c_21 => ?_) (fun c_21 => ?_)
    · refine V_iconst (pc := 28) dX5_bothThere_28 ?_
      refine V_iretZ (pc := 29) dX5_bothThere_29 rfl (by omega) ?_
      exact ⟨_, rfl, by first | exact (bI_t (by omega)).symm | exact (bI_f (by omega)).symm, rfl⟩
    · refine V_iconst (pc := 24) dX5_bothThere_24 ?_
      refine V_goto (pc := 25) 29 dX5_bothThere_25 (by decide) ?_
      refine V_iretZ (pc := 29) dX5_bothThere_29 rfl (by omega) ?_
      exact ⟨_, rfl, by first | exact (bI_t (by omega)).symm | exact (bI_f (by omega)).symm, rfl⟩

set_option maxRecDepth 20000 in
set_option maxHeartbeats 1000000 in
theorem c_X5_compared {d : Nat} (hd : 1 ≤ d) {σ : MM} {B : BK} {e k y : Int} (hB : CB σ 1 B) (hW : WB B) (hC : CK σ 0 B (bt 0)) (he : 0 ≤ e ∧ e < B 6 0) (hk : 0 ≤ k ∧ k < B 6 0) (hy : 0 ≤ y ∧ y ≤ B 1 0) : V yX5_compared cX5_compared 4 (some .int) d (QI (fun v σ' => v = cmpI (SHD B (bt 0) y e) (SHD B (bt 0) y k) ∧ σ' = σ)) 0 [some (vR 0 0), some (vI e), some (vI k), some (vI y)] [] σ := by
  have hs := hW.s
  have h1 := SHD_in (r := 0) (y := y) hW he
  have h2 := SHD_in (r := 0) (y := y) hW hk
  refine V_aload_0 (pc := 0) dX5_compared_0 ?_
  refine V_getc (pc := 1) dX5_compared_1 gf_X5_32 (by omega) ?_
  refine V_gets (pc := 4) dX5_compared_4 gf_X5_169 (by omega) ?_
  refine V_iload_3 (pc := 7) dX5_compared_7 ?_
  refine V_aald_19 (pc := 8) dX5_compared_8 (by omega) (by omega) ?_
  refine V_iload_1 (pc := 9) dX5_compared_9 ?_
  refine V_iald (pc := 10) dX5_compared_10 sh_22 (by omega) (by omega) (hC.sh (by omega) (by omega)) ?_
  refine V_aload_0 (pc := 11) dX5_compared_11 ?_
  refine V_getc (pc := 12) dX5_compared_12 gf_X5_32 (by omega) ?_
  refine V_gets (pc := 15) dX5_compared_15 gf_X5_169 (by omega) ?_
  refine V_iload_3 (pc := 18) dX5_compared_18 ?_
  refine V_aald_19 (pc := 19) dX5_compared_19 (by omega) (by omega) ?_
  refine V_iload_2 (pc := 20) dX5_compared_20 ?_
  refine V_iald (pc := 21) dX5_compared_21 sh_22 (by omega) (by omega) (hC.sh (by omega) (by omega)) ?_
  refine V_callS2p (pc := 22) dX5_compared_22 kv_X5_352 (d - 1) (by omega) rfl (c_J6_compare_7cf53 (by omega) (by omega) (by omega)) ?_
  refine V_iretI (pc := 25) dX5_compared_25 rfl ?_
  exact ⟨_, rfl, by first | rfl | omega, rfl⟩

set_option maxRecDepth 20000 in
set_option maxHeartbeats 1000000 in
theorem c_X5_passesBy {d : Nat} (hd : 3 ≤ d) {σ : MM} {B : BK} {e i y : Int} (hB : CB σ 1 B) (hW : WB B) (hC : CK σ 0 B (bt 0)) (he : 0 ≤ e ∧ e < B 6 0) (hi : 0 ≤ i ∧ i < B 4 0) (hy : 0 ≤ y ∧ y ≤ B 1 0) : V yX5_passesBy cX5_passesBy 4 (some .boolean) d (QI (fun v σ' => v = bI (SHD B (bt 0) y e = LNE B i (B 11 e) (B 14 e) y) ∧ σ' = σ)) 0 [some (vR 0 0), some (vI e), some (vI i), some (vI y)] [] σ := by
  have hs := hW.s
  have h1 := SHD_in (r := 0) (y := y) hW he
  have h2 := hW.e he
  have h3 := LNE_in hW hi (p := B 11 e) (wr := B 14 e) (y := y)
  refine V_aload_0 (pc := 0) dX5_passesBy_0 ?_
  refine V_getc (pc := 1) dX5_passesBy_1 gf_X5_32 (by omega) ?_
  refine V_gets (pc := 4) dX5_passesBy_4 gf_X5_169 (by omega) ?_
  refine V_iload_3 (pc := 7) dX5_passesBy_7 ?_
  refine V_aald_19 (pc := 8) dX5_passesBy_8 (by omega) (by omega) ?_
  refine V_iload_1 (pc := 9) dX5_passesBy_9 ?_
  refine V_iald (pc := 10) dX5_passesBy_10 sh_22 (by omega) (by omega) (hC.sh (by omega) (by omega)) ?_
  refine V_aload_0 (pc := 11) dX5_passesBy_11 ?_
  refine V_getc (pc := 12) dX5_passesBy_12 gf_X5_23 (by omega) ?_
  refine V_iload_2 (pc := 15) dX5_passesBy_15 ?_
  refine V_aload_0 (pc := 16) dX5_passesBy_16 ?_
  refine V_getc (pc := 17) dX5_passesBy_17 gf_X5_23 (by omega) ?_
  refine V_gets (pc := 20) dX5_passesBy_20 gf_X5_128 (by omega) ?_
  refine V_iload_1 (pc := 23) dX5_passesBy_23 ?_
  refine V_iald (pc := 24) dX5_passesBy_24 sh_8 (by omega) (by omega) (hB.a8 (by omega)) ?_
  refine V_aload_0 (pc := 25) dX5_passesBy_25 ?_
  refine V_getc (pc := 26) dX5_passesBy_26 gf_X5_23 (by omega) ?_
  refine V_gets (pc := 29) dX5_passesBy_29 gf_X5_137 (by omega) ?_
  refine V_iload_1 (pc := 32) dX5_passesBy_32 ?_
  refine V_iald (pc := 33) dX5_passesBy_33 sh_11 (by omega) (by omega) (hB.a11 (by omega)) ?_
  refine V_iload_3 (pc := 34) dX5_passesBy_34 ?_
  refine V_callV4p (pc := 35) dX5_passesBy_35 kv_X5_218 rc_3 (by omega) (d - 1) (by omega) rfl (c_X1_lone (by omega) (by omega) hB hW hi h2.1 (by omega) (by omega)) ?_
  refine V_icmp_ne (pc := 38) 45 dX5_passesBy_38 (by decide) (by omega) (by omega) (fun c_38 => ?_) (fun c_38 => ?_)
  · refine V_iconst (pc := 45) dX5_passesBy_45 ?_
    refine V_iretZ (pc := 46) dX5_passesBy_46 rfl (by omega) ?_
    exact ⟨_, rfl, by first | exact (bI_t (by omega)).symm | exact (bI_f (by omega)).symm, rfl⟩
  · refine V_iconst (pc := 41) dX5_passesBy_41 ?_
    refine V_goto (pc := 42) 46 dX5_passesBy_42 (by decide) ?_
    refine V_iretZ (pc := 46) dX5_passesBy_46 rfl (by omega) ?_
    exact ⟨_, rfl, by first | exact (bI_t (by omega)).symm | exact (bI_f (by omega)).symm, rfl⟩

set_option maxRecDepth 20000 in
set_option maxHeartbeats 1000000 in
theorem c_X5_passingInks {d : Nat} (hd : 4 ≤ d) {σ : MM} {B : BK} {e y : Int} (hB : CB σ 1 B) (hW : WB B) (hC : CK σ 0 B (bt 0)) (he : 0 ≤ e ∧ e < B 6 0) (hy : 0 ≤ y ∧ y ≤ B 1 0) : V yX5_passingInks cX5_passingInks 5 (some .int) d (QI (fun v σ' => v = PSI B e y ∧ σ' = σ)) 0 [some (vR 0 0), some (vI e), some (vI y), none, none] [] σ := by
  have hs := hW.s
  have loop : ∀ i : Nat, i ≤ (B 4 0).toNat → V yX5_passingInks cX5_passingInks 5 (some .int) d (QI (fun v σ' => v = PSI B e y ∧ σ' = σ)) 5 [some (vR 0 0), some (vI e), some (vI y), some (vI (bsN (fun i => bI (SHD B (bt 0) y e = LNE B i (B 11 e) (B 14 e) y)) i)), some (vI (i : Int))] [] σ := by
    refine up_ind (P := fun i : Nat => V yX5_passingInks cX5_passingInks 5 (some .int) d (QI (fun v σ' => v = PSI B e y ∧ σ' = σ)) 5 [some (vR 0 0), some (vI e), some (vI y), some (vI (bsN (fun i => bI (SHD B (bt 0) y e = LNE B i (B 11 e) (B 14 e) y)) i)), some (vI (i : Int))] [] σ) ?_ ?_
    · 
      refine V_iload_4 (pc := 5) dX5_passingInks_5 ?_
      refine V_aload_0 (pc := 7) dX5_passingInks_7 ?_
      refine V_getc (pc := 8) dX5_passingInks_8 gf_X5_23 (by omega) ?_
      refine V_geti (pc := 11) dX5_passingInks_11 gf_X5_242 (by omega) hB.s4 ?_
      refine V_icmp_ge (pc := 14) 41 dX5_passingInks_14 (by decide) (by omega) (by omega) (fun c_14 => ?_) (fun c_14 => ?_)
      · refine V_iload_3 (pc := 41) dX5_passingInks_41 ?_
        refine V_iretI (pc := 42) dX5_passingInks_42 rfl ?_
        exact ⟨_, rfl, by first | rfl | omega, rfl⟩
      · exact absurd c_14 (by omega)
    · intro i hi ih
      have hb := bsI_in (fun i => SHD B (bt 0) y e = LNE B i (B 11 e) (B 14 e) y) i
      have hS := bsN_S (fun i => bI (SHD B (bt 0) y e = LNE B i (B 11 e) (B 14 e) y)) i
      refine V_iload_4 (pc := 5) dX5_passingInks_5 ?_
      refine V_aload_0 (pc := 7) dX5_passingInks_7 ?_
      refine V_getc (pc := 8) dX5_passingInks_8 gf_X5_23 (by omega) ?_
      refine V_geti (pc := 11) dX5_passingInks_11 gf_X5_242 (by omega) hB.s4 ?_
      refine V_icmp_ge (pc := 14) 41 dX5_passingInks_14 (by decide) (by omega) (by omega) (fun c_14 => ?_) (fun c_14 => ?_)
      · exact absurd c_14 (by omega)
      · refine V_aload_0 (pc := 17) dX5_passingInks_17 ?_
        refine V_iload_1 (pc := 18) dX5_passingInks_18 ?_
        refine V_iload_4 (pc := 19) dX5_passingInks_19 ?_
        refine V_iload_2 (pc := 21) dX5_passingInks_21 ?_
        refine V_callV3p (pc := 22) dX5_passingInks_22 kv_X5_215 rc_0 (by omega) (d - 1) (by omega) rfl (c_X5_passesBy (by omega) hB hW hC he (by omega) hy) ?_
        refine V_if_eq_b (pc := 25) 35 dX5_passingInks_25 (by decide) (fun c_25 => ?_) (fun c_25 => ?_)
        · refine V_iinc_4 (pc := 35) dX5_passingInks_35 ?_
          refine V_goto (pc := 38) 5 dX5_passingInks_38 (by decide) ?_
          refine V.sub (by simp only [subL, Option.some.injEq, Sum.inl.injEq, Sum.inr.injEq, reduceCtorEq, true_or, or_true, false_or, true_and, and_true]; first | omega | (rw [hS, bI_t (by omega)]; omega) | (rw [hS, bI_f (by omega)]; omega)) ih
        · refine V_iload_3 (pc := 28) dX5_passingInks_28 ?_
          refine V_iconst (pc := 29) dX5_passingInks_29 ?_
          refine V_iload_4 (pc := 30) dX5_passingInks_30 ?_
          refine V_ishl_1 (pc := 32) dX5_passingInks_32 (by omega) ?_
          refine V_ior_add (pc := 33) dX5_passingInks_33 (by assumption) ?_
          refine V_istore_3 (pc := 34) dX5_passingInks_34 ?_
          refine V_iinc_4 (pc := 35) dX5_passingInks_35 ?_
          refine V_goto (pc := 38) 5 dX5_passingInks_38 (by decide) ?_
          refine V.sub (by simp only [subL, Option.some.injEq, Sum.inl.injEq, Sum.inr.injEq, reduceCtorEq, true_or, or_true, false_or, true_and, and_true]; first | omega | (rw [hS, bI_t (by omega)]; omega) | (rw [hS, bI_f (by omega)]; omega)) ih
  refine V_iconst (pc := 0) dX5_passingInks_0 ?_
  refine V_istore_3 (pc := 1) dX5_passingInks_1 ?_
  refine V_iconst (pc := 2) dX5_passingInks_2 ?_
  refine V_istore_4 (pc := 3) dX5_passingInks_3 ?_
  exact loop 0 (by omega)
