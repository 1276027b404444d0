set_option maxRecDepth 20000 in
set_option maxHeartbeats 1000000 in
theorem c_X6_ink {d : Nat} (hd : 2 ≤ d) {σ : MM} {B : BK} {i w : Int} (hM : MB σ 0 B) (hG : GB B) (hi : IR i) (hw : IR w) : V yX6_ink cX6_ink 3 (some .int) d (QI (fun v σ' => v = q_ink B i w ∧ KM σ σ')) 0 [some (vR 34 0), some (vI i), some (vI w)] [] σ := by
  have hW := hG.w
  have hs := hW.s
  have hi9 : 0 ≤ i ∧ i < B 4 0 → _ := fun q => hW.i q
  refine V_aload_0 (pc := 0) dX6_ink_0 ?_
  refine V_iconst (pc := 1) dX6_ink_1 ?_
  refine V_puti (pc := 2) dX6_ink_2 gf_X6_74 (by omega) ?_
  have hM := (KM.set (σ := σ) (t := 34) (k := 0) (z := 0) (v := 0) (by unfold SCM; omega)).mb hM
  refine V_aload_0 (pc := 5) dX6_ink_5 ?_
  refine V_iload_1 (pc := 6) dX6_ink_6 ?_
  refine V_callV1p (pc := 7) dX6_ink_7 kv_X6_321 rc_34 (by omega) (d - 1) (by omega) rfl (c_X6_isInk (by omega) hM hW (by omega)) ?_
  refine V_if_eq_b (pc := 10) 38 dX6_ink_10 (by decide) (fun c_10 => ?_) (fun c_10 => ?_)
  · refine V_bipush (pc := 38) dX6_ink_38 (by decide) ?_
    refine V_iretI (pc := 40) dX6_ink_40 rfl ?_
    exact ⟨_, rfl, by unfold q_ink; (repeat' split) <;> first | rfl | omega, by first | exact (KM.set (σ := σ) (t := 34) (k := 0) (z := 0) (v := 0) (by unfold SCM; omega)).tr hK | exact (KM.set (σ := σ) (t := 34) (k := 0) (z := 0) (v := 0) (by unfold SCM; omega))⟩
  · refine V_iload_2 (pc := 13) dX6_ink_13 ?_
    refine V_i2l (pc := 14) dX6_ink_14 (by omega) ?_
    refine V_lconst (pc := 15) dX6_ink_15 (z := 0) rfl ?_
    refine V_ldc2 (pc := 16) dX6_ink_16 (z := 2) ldc_X6_324 ?_
    refine V_callS3p (pc := 19) dX6_ink_19 kv_X6_79 (d - 1) (by omega) rfl (c_X6_in (by omega) (by omega) (by omega) (by omega)) ?_
    refine V_if_eq_b (pc := 22) 38 dX6_ink_22 (by decide) (fun c_22 => ?_) (fun c_22 => ?_)
    · refine V_bipush (pc := 38) dX6_ink_38 (by decide) ?_
      refine V_iretI (pc := 40) dX6_ink_40 rfl ?_
      exact ⟨_, rfl, by unfold q_ink; (repeat' split) <;> first | rfl | omega, by first | exact (KM.set (σ := σ) (t := 34) (k := 0) (z := 0) (v := 0) (by unfold SCM; omega)).tr hK | exact (KM.set (σ := σ) (t := 34) (k := 0) (z := 0) (v := 0) (by unfold SCM; omega))⟩
    · refine V_aload_0 (pc := 25) dX6_ink_25 ?_
      refine V_getc (pc := 26) dX6_ink_26 gf_X6_37 (by omega) ?_
      refine V_iconst (pc := 29) dX6_ink_29 ?_
      refine V_iload_1 (pc := 30) dX6_ink_30 ?_
      refine V_imul (pc := 31) dX6_ink_31 ?_
      refine V_iload_2 (pc := 32) dX6_ink_32 ?_
      refine V_iadd (pc := 33) dX6_ink_33 ?_
      refine V_iald (pc := 34) dX6_ink_34 sh_42 (by omega) (by omega) (v := if w = 0 then B 7 i else if w = 1 then B 8 i else B 9 i) (by
    have hw3 : w = 0 ∨ w = 1 ∨ w = 2 := by omega
    rcases hw3 with rfl | rfl | rfl
    · rw [Int.add_zero]; exact hM.i0 (by omega)
    · exact hM.i1 (by omega)
    · exact hM.i2 (by omega)) ?_
      refine V_goto (pc := 35) 40 dX6_ink_35 (by decide) ?_
      refine V_iretI (pc := 40) dX6_ink_40 rfl ?_
      exact ⟨_, rfl, by unfold q_ink; (repeat' split) <;> first | rfl | omega, by first | exact (KM.set (σ := σ) (t := 34) (k := 0) (z := 0) (v := 0) (by unfold SCM; omega)).tr hK | exact (KM.set (σ := σ) (t := 34) (k := 0) (z := 0) (v := 0) (by unfold SCM; omega))⟩

set_option maxRecDepth 20000 in
set_option maxHeartbeats 1000000 in
theorem c_X6_page {d : Nat} (hd : 2 ≤ d) {σ : MM} {B : BK} {p : Int} (hM : MB σ 0 B) (hG : GB B) (hp : IR p) : V yX6_page cX6_page 2 (some .int) d (QI (fun v σ' => v = q_page B p ∧ KM σ σ')) 0 [some (vR 34 0), some (vI p)] [] σ := by
  have hW := hG.w
  have hs := hW.s
  refine V_aload_0 (pc := 0) dX6_page_0 ?_
  refine V_iconst (pc := 1) dX6_page_1 ?_
  refine V_puti (pc := 2) dX6_page_2 gf_X6_74 (by omega) ?_
  have hM := (KM.set (σ := σ) (t := 34) (k := 0) (z := 0) (v := 0) (by unfold SCM; omega)).mb hM
  refine V_aload_0 (pc := 5) dX6_page_5 ?_
  refine V_iload_1 (pc := 6) dX6_page_6 ?_
  refine V_callV1p (pc := 7) dX6_page_7 kv_X6_326 rc_34 (by omega) (d - 1) (by omega) rfl (c_X6_isPage (by omega) hM hW (by omega)) ?_
  refine V_if_eq_b (pc := 10) 22 dX6_page_10 (by decide) (fun c_10 => ?_) (fun c_10 => ?_)
  · refine V_bipush (pc := 22) dX6_page_22 (by decide) ?_
    refine V_iretI (pc := 24) dX6_page_24 rfl ?_
    exact ⟨_, rfl, by unfold q_page; (repeat' split) <;> first | rfl | omega, by first | exact (KM.set (σ := σ) (t := 34) (k := 0) (z := 0) (v := 0) (by unfold SCM; omega)).tr hK | exact (KM.set (σ := σ) (t := 34) (k := 0) (z := 0) (v := 0) (by unfold SCM; omega))⟩
  · refine V_aload_0 (pc := 13) dX6_page_13 ?_
    refine V_getc (pc := 14) dX6_page_14 gf_X6_40 (by omega) ?_
    refine V_iload_1 (pc := 17) dX6_page_17 ?_
    refine V_iald (pc := 18) dX6_page_18 sh_43 (by omega) (by omega) (hM.p0 (by omega)) ?_
    refine V_goto (pc := 19) 24 dX6_page_19 (by decide) ?_
    refine V_iretI (pc := 24) dX6_page_24 rfl ?_
    exact ⟨_, rfl, by unfold q_page; (repeat' split) <;> first | rfl | omega, by first | exact (KM.set (σ := σ) (t := 34) (k := 0) (z := 0) (v := 0) (by unfold SCM; omega)).tr hK | exact (KM.set (σ := σ) (t := 34) (k := 0) (z := 0) (v := 0) (by unfold SCM; omega))⟩

set_option maxRecDepth 20000 in
set_option maxHeartbeats 1000000 in
theorem c_X6_entry {d : Nat} (hd : 2 ≤ d) {σ : MM} {B : BK} {e w : Int} (hM : MB σ 0 B) (hG : GB B) (he : IR e) (hw : IR w) : V yX6_entry cX6_entry 3 (some .int) d (QI (fun v σ' => v = q_entry B e w ∧ KM σ σ')) 0 [some (vR 34 0), some (vI e), some (vI w)] [] σ := by
  have hW := hG.w
  have hs := hW.s
  refine V_aload_0 (pc := 0) dX6_entry_0 ?_
  refine V_iconst (pc := 1) dX6_entry_1 ?_
  refine V_puti (pc := 2) dX6_entry_2 gf_X6_74 (by omega) ?_
  have hM := (KM.set (σ := σ) (t := 34) (k := 0) (z := 0) (v := 0) (by unfold SCM; omega)).mb hM
  refine V_aload_0 (pc := 5) dX6_entry_5 ?_
  refine V_iload_1 (pc := 6) dX6_entry_6 ?_
  refine V_i2l (pc := 7) dX6_entry_7 (by omega) ?_
  refine V_callV1p (pc := 8) dX6_entry_8 kv_X6_246 rc_34 (by omega) (d - 1) (by omega) rfl (c_X6_isEntry (by omega) hM hW (by omega)) ?_
  refine V_if_eq_b (pc := 11) 26 dX6_entry_11 (by decide) (fun c_11 => ?_) (fun c_11 => ?_)
  · refine V_bipush (pc := 26) dX6_entry_26 (by decide) ?_
    refine V_iretI (pc := 28) dX6_entry_28 rfl ?_
    exact ⟨_, rfl, by unfold q_entry; (repeat' split) <;> first | rfl | omega, by first | exact (KM.set (σ := σ) (t := 34) (k := 0) (z := 0) (v := 0) (by unfold SCM; omega)).tr hK | exact (KM.set (σ := σ) (t := 34) (k := 0) (z := 0) (v := 0) (by unfold SCM; omega))⟩
  · refine V_iload_2 (pc := 14) dX6_entry_14 ?_
    refine V_i2l (pc := 15) dX6_entry_15 (by omega) ?_
    refine V_lconst (pc := 16) dX6_entry_16 (z := 0) rfl ?_
    refine V_ldc2 (pc := 17) dX6_entry_17 (z := 4) ldc_X6_329 ?_
    refine V_callS3p (pc := 20) dX6_entry_20 kv_X6_79 (d - 1) (by omega) rfl (c_X6_in (by omega) (by omega) (by omega) (by omega)) ?_
    refine V_if_ne_b (pc := 23) 29 dX6_entry_23 (by decide) (fun c_23 => ?_) (fun c_23 => ?_)
    · refine V_iload_2 (pc := 29) dX6_entry_29 ?_
      refine V_iconst (pc := 30) dX6_entry_30 ?_
      refine V_icmp_ne (pc := 31) 42 dX6_entry_31 (by decide) (by omega) (by omega) (fun c_31 => ?_) (fun c_31 => ?_)
      · refine V_aload_0 (pc := 42) dX6_entry_42 ?_
        refine V_getc (pc := 43) dX6_entry_43 gf_X6_43 (by omega) ?_
        refine V_iconst (pc := 46) dX6_entry_46 ?_
        refine V_iload_1 (pc := 47) dX6_entry_47 ?_
        refine V_imul (pc := 48) dX6_entry_48 ?_
        refine V_iload_2 (pc := 49) dX6_entry_49 ?_
        refine V_iadd (pc := 50) dX6_entry_50 ?_
        refine V_iald (pc := 51) dX6_entry_51 sh_44 (by omega) (by omega) (v := if w = 0 then B 11 e else if w = 1 then B 12 e else if w = 2 then B 13 e else B 14 e) (by
    have hw3 : w = 0 ∨ w = 1 ∨ w = 2 ∨ w = 3 := by omega
    rcases hw3 with rfl | rfl | rfl | rfl
    · rw [Int.add_zero]; exact hM.t0 (by omega)
    · exact hM.t1 (by omega)
    · exact hM.t2 (by omega)
    · exact hM.t3 (by omega)) ?_
        refine V_iretI (pc := 52) dX6_entry_52 rfl ?_
        exact ⟨_, rfl, by unfold q_entry; (repeat' split) <;> first | rfl | omega, by first | exact (KM.set (σ := σ) (t := 34) (k := 0) (z := 0) (v := 0) (by unfold SCM; omega)).tr hK | exact (KM.set (σ := σ) (t := 34) (k := 0) (z := 0) (v := 0) (by unfold SCM; omega))⟩
      · refine V_aload_0 (pc := 34) dX6_entry_34 ?_
        refine V_iload_1 (pc := 35) dX6_entry_35 ?_
        refine V_callV1p (pc := 36) dX6_entry_36 kv_X6_270 rc_34 (by omega) (d - 1) (by omega) rfl (c_X6_placeOf (by omega) hM hW (by omega)) ?_
        refine V_goto (pc := 39) 52 dX6_entry_39 (by decide) ?_
        refine V_iretI (pc := 52) dX6_entry_52 rfl ?_
        exact ⟨_, rfl, by unfold q_entry; (repeat' split) <;> first | rfl | omega, by first | exact (KM.set (σ := σ) (t := 34) (k := 0) (z := 0) (v := 0) (by unfold SCM; omega)).tr hK | exact (KM.set (σ := σ) (t := 34) (k := 0) (z := 0) (v := 0) (by unfold SCM; omega))⟩
    · refine V_bipush (pc := 26) dX6_entry_26 (by decide) ?_
      refine V_iretI (pc := 28) dX6_entry_28 rfl ?_
      exact ⟨_, rfl, by unfold q_entry; (repeat' split) <;> first | rfl | omega, by first | exact (KM.set (σ := σ) (t := 34) (k := 0) (z := 0) (v := 0) (by unfold SCM; omega)).tr hK | exact (KM.set (σ := σ) (t := 34) (k := 0) (z := 0) (v := 0) (by unfold SCM; omega))⟩

set_option maxRecDepth 20000 in
set_option maxHeartbeats 1000000 in
theorem c_X6_faces {d : Nat} (hd : 2 ≤ d) {σ : MM} {B : BK} {e : Int} (hM : MB σ 0 B) (hG : GB B) (he : IR e) : V yX6_faces cX6_faces 2 (some .int) d (QI (fun v σ' => v = q_faces B e ∧ KM σ σ')) 0 [some (vR 34 0), some (vI e)] [] σ := by
  have hW := hG.w
  have hs := hW.s
  refine V_aload_0 (pc := 0) dX6_faces_0 ?_
  refine V_iconst (pc := 1) dX6_faces_1 ?_
  refine V_puti (pc := 2) dX6_faces_2 gf_X6_74 (by omega) ?_
  have hM := (KM.set (σ := σ) (t := 34) (k := 0) (z := 0) (v := 0) (by unfold SCM; omega)).mb hM
  refine V_aload_0 (pc := 5) dX6_faces_5 ?_
  refine V_iload_1 (pc := 6) dX6_faces_6 ?_
  refine V_i2l (pc := 7) dX6_faces_7 (by omega) ?_
  refine V_callV1p (pc := 8) dX6_faces_8 kv_X6_246 rc_34 (by omega) (d - 1) (by omega) rfl (c_X6_isEntry (by omega) hM hW (by omega)) ?_
  refine V_if_eq_b (pc := 11) 22 dX6_faces_11 (by decide) (fun c_11 => ?_) (fun c_11 => ?_)
  · refine V_bipush (pc := 22) dX6_faces_22 (by decide) ?_
    refine V_iretI (pc := 24) dX6_faces_24 rfl ?_
    exact ⟨_, rfl, by unfold q_faces; (repeat' split) <;> first | rfl | omega, by first | exact (KM.set (σ := σ) (t := 34) (k := 0) (z := 0) (v := 0) (by unfold SCM; omega)).tr hK | exact (KM.set (σ := σ) (t := 34) (k := 0) (z := 0) (v := 0) (by unfold SCM; omega))⟩
  · refine V_aload_0 (pc := 14) dX6_faces_14 ?_
    refine V_iload_1 (pc := 15) dX6_faces_15 ?_
    refine V_callV1p (pc := 16) dX6_faces_16 kv_X6_290 rc_34 (by omega) (d - 1) (by omega) rfl (c_X6_facing (by omega) hM hW (by omega)) ?_
    refine V_goto (pc := 19) 24 dX6_faces_19 (by decide) ?_
    refine V_iretI (pc := 24) dX6_faces_24 rfl ?_
    exact ⟨_, rfl, by unfold q_faces; (repeat' split) <;> first | rfl | omega, by first | exact (KM.set (σ := σ) (t := 34) (k := 0) (z := 0) (v := 0) (by unfold SCM; omega)).tr hK | exact (KM.set (σ := σ) (t := 34) (k := 0) (z := 0) (v := 0) (by unfold SCM; omega))⟩

set_option maxRecDepth 20000 in
set_option maxHeartbeats 1000000 in
theorem c_X6_there {d : Nat} (hd : 3 ≤ d) {σ : MM} {B : BK} {y : Int} (hM : MB σ 0 B) (hG : GB B) (hy : IR y) : V yX6_there cX6_there 2 (some .int) d (QI (fun v σ' => v = q_there B y ∧ KM σ σ')) 0 [some (vR 34 0), some (vI y)] [] σ := by
  have hW := hG.w
  have hs := hW.s
  refine V_aload_0 (pc := 0) dX6_there_0 ?_
  refine V_iconst (pc := 1) dX6_there_1 ?_
  refine V_puti (pc := 2) dX6_there_2 gf_X6_74 (by omega) ?_
  have hM := (KM.set (σ := σ) (t := 34) (k := 0) (z := 0) (v := 0) (by unfold SCM; omega)).mb hM
  refine V_aload_0 (pc := 5) dX6_there_5 ?_
  refine V_iload_1 (pc := 6) dX6_there_6 ?_
  refine V_i2l (pc := 7) dX6_there_7 (by omega) ?_
  refine V_callV1p (pc := 8) dX6_there_8 kv_X6_249 rc_34 (by omega) (d - 1) (by omega) rfl (c_X6_isYear (by omega) hM hW (by omega)) ?_
  refine V_if_ne_b (pc := 11) 17 dX6_there_11 (by decide) (fun c_11 => ?_) (fun c_11 => ?_)
  · refine V_aload_0 (pc := 17) dX6_there_17 ?_
    refine V_callV0z (pc := 18) dX6_there_18 kv_X6_315 rc_34 (by omega) (d - 1) (by omega) rfl (c_X6_lays (by omega) hM hW) (fun σ_18 h_18 => ?_)
    obtain ⟨hL, hK⟩ := h_18
    have hM := hK.mb hM
    refine V_aload_0 (pc := 21) dX6_there_21 ?_
    refine V_iload_1 (pc := 22) dX6_there_22 ?_
    refine V_callV1p (pc := 23) dX6_there_23 kv_X6_331 rc_34 (by omega) (d - 1) (by omega) rfl (c_X6_thereAt (by omega) hM hW hL (by omega)) ?_
    refine V_iretI (pc := 26) dX6_there_26 rfl ?_
    exact ⟨_, rfl, by unfold q_there; (repeat' split) <;> first | rfl | omega, by first | exact (KM.set (σ := σ) (t := 34) (k := 0) (z := 0) (v := 0) (by unfold SCM; omega)).tr hK | exact (KM.set (σ := σ) (t := 34) (k := 0) (z := 0) (v := 0) (by unfold SCM; omega))⟩
  · refine V_bipush (pc := 14) dX6_there_14 (by decide) ?_
    refine V_iretI (pc := 16) dX6_there_16 rfl ?_
    exact ⟨_, rfl, by unfold q_there; (repeat' split) <;> first | rfl | omega, by first | exact (KM.set (σ := σ) (t := 34) (k := 0) (z := 0) (v := 0) (by unfold SCM; omega)).tr hK | exact (KM.set (σ := σ) (t := 34) (k := 0) (z := 0) (v := 0) (by unfold SCM; omega))⟩

set_option maxRecDepth 20000 in
set_option maxHeartbeats 1000000 in
theorem c_X6_shade {d : Nat} (hd : 5 ≤ d) {σ : MM} {B : BK} {e y : Int} (hM : MB σ 0 B) (hG : GB B) (he : IR e) (hy : IR y) : V yX6_shade cX6_shade 3 (some .int) d (QI (fun v σ' => v = q_shade B e y ∧ KM σ σ')) 0 [some (vR 34 0), some (vI e), some (vI y)] [] σ := by
  have hW := hG.w
  have hs := hW.s
  refine V_aload_0 (pc := 0) dX6_shade_0 ?_
  refine V_iconst (pc := 1) dX6_shade_1 ?_
  refine V_puti (pc := 2) dX6_shade_2 gf_X6_74 (by omega) ?_
  have hM := (KM.set (σ := σ) (t := 34) (k := 0) (z := 0) (v := 0) (by unfold SCM; omega)).mb hM
  refine V_aload_0 (pc := 5) dX6_shade_5 ?_
  refine V_iload_1 (pc := 6) dX6_shade_6 ?_
  refine V_iload_2 (pc := 7) dX6_shade_7 ?_
  refine V_callV2p (pc := 8) dX6_shade_8 kv_X6_334 rc_34 (by omega) (d - 1) (by omega) rfl (c_X6_isThen (by omega) hM hW (by omega) (by omega)) ?_
  refine V_if_ne_b (pc := 11) 17 dX6_shade_11 (by decide) (fun c_11 => ?_) (fun c_11 => ?_)
  · refine V_aload_0 (pc := 17) dX6_shade_17 ?_
    refine V_callV0z (pc := 18) dX6_shade_18 kv_X6_337 rc_34 (by omega) (d - 1) (by omega) rfl (c_X6_laysNow (by omega) hM hW) (fun σ_18 h_18 => ?_)
    obtain ⟨hL, hS, hK⟩ := h_18
    have hM := hK.mb hM
    refine V_aload_0 (pc := 21) dX6_shade_21 ?_
    refine V_iload_1 (pc := 22) dX6_shade_22 ?_
    refine V_iload_2 (pc := 23) dX6_shade_23 ?_
    refine V_callV2p (pc := 24) dX6_shade_24 kv_X6_283 rc_34 (by omega) (d - 1) (by omega) rfl (c_X6_shadeOf (by omega) (by omega) (by omega) (hS.s (by omega) (by omega))) ?_
    refine V_iretI (pc := 27) dX6_shade_27 rfl ?_
    exact ⟨_, rfl, by unfold q_shade; (repeat' split) <;> first | rfl | omega, by first | exact (KM.set (σ := σ) (t := 34) (k := 0) (z := 0) (v := 0) (by unfold SCM; omega)).tr hK | exact (KM.set (σ := σ) (t := 34) (k := 0) (z := 0) (v := 0) (by unfold SCM; omega))⟩
  · refine V_bipush (pc := 14) dX6_shade_14 (by decide) ?_
    refine V_iretI (pc := 16) dX6_shade_16 rfl ?_
    exact ⟨_, rfl, by unfold q_shade; (repeat' split) <;> first | rfl | omega, by first | exact (KM.set (σ := σ) (t := 34) (k := 0) (z := 0) (v := 0) (by unfold SCM; omega)).tr hK | exact (KM.set (σ := σ) (t := 34) (k := 0) (z := 0) (v := 0) (by unfold SCM; omega))⟩

set_option maxRecDepth 20000 in
set_option maxHeartbeats 1000000 in
theorem c_X6_peak {d : Nat} (hd : 5 ≤ d) {σ : MM} {B : BK} {e : Int} (hM : MB σ 0 B) (hG : GB B) (he : IR e) : V yX6_peak cX6_peak 2 (some .int) d (QI (fun v σ' => v = q_peak B e ∧ KM σ σ')) 0 [some (vR 34 0), some (vI e)] [] σ := by
  have hW := hG.w
  have hs := hW.s
  have hM9 := mxN_in (fun y => SHD B (bt 0) y e) (B 1 0).toNat
  refine V_aload_0 (pc := 0) dX6_peak_0 ?_
  refine V_iconst (pc := 1) dX6_peak_1 ?_
  refine V_puti (pc := 2) dX6_peak_2 gf_X6_74 (by omega) ?_
  have hM := (KM.set (σ := σ) (t := 34) (k := 0) (z := 0) (v := 0) (by unfold SCM; omega)).mb hM
  refine V_aload_0 (pc := 5) dX6_peak_5 ?_
  refine V_iload_1 (pc := 6) dX6_peak_6 ?_
  refine V_i2l (pc := 7) dX6_peak_7 (by omega) ?_
  refine V_callV1p (pc := 8) dX6_peak_8 kv_X6_246 rc_34 (by omega) (d - 1) (by omega) rfl (c_X6_isEntry (by omega) hM hW (by omega)) ?_
  refine V_if_ne_b (pc := 11) 17 dX6_peak_11 (by decide) (fun c_11 => ?_) (fun c_11 => ?_)
  · refine V_aload_0 (pc := 17) dX6_peak_17 ?_
    refine V_callV0z (pc := 18) dX6_peak_18 kv_X6_337 rc_34 (by omega) (d - 1) (by omega) rfl (c_X6_laysNow (by omega) hM hW) (fun σ_18 h_18 => ?_)
    obtain ⟨hL, hS, hK⟩ := h_18
    have hM := hK.mb hM
    refine V_aload_0 (pc := 21) dX6_peak_21 ?_
    refine V_iload_1 (pc := 22) dX6_peak_22 ?_
    refine V_aload_0 (pc := 23) dX6_peak_23 ?_
    refine V_iload_1 (pc := 24) dX6_peak_24 ?_
    refine V_callV1p (pc := 25) dX6_peak_25 kv_X6_340 rc_34 (by omega) (d - 1) (by omega) rfl (c_X6_ripeOf (by omega) hM hW hL hS (by omega)) ?_
    refine V_callV2p (pc := 28) dX6_peak_28 kv_X6_283 rc_34 (by omega) (d - 1) (by omega) rfl (c_X6_shadeOf (by omega) (by omega) (by omega) (hS.s (by omega) (by omega))) ?_
    refine V_iretI (pc := 31) dX6_peak_31 rfl ?_
    exact ⟨_, rfl, by unfold q_peak; (repeat' split) <;> first | rfl | omega, by first | exact (KM.set (σ := σ) (t := 34) (k := 0) (z := 0) (v := 0) (by unfold SCM; omega)).tr hK | exact (KM.set (σ := σ) (t := 34) (k := 0) (z := 0) (v := 0) (by unfold SCM; omega))⟩
  · refine V_bipush (pc := 14) dX6_peak_14 (by decide) ?_
    refine V_iretI (pc := 16) dX6_peak_16 rfl ?_
    exact ⟨_, rfl, by unfold q_peak; (repeat' split) <;> first | rfl | omega, by first | exact (KM.set (σ := σ) (t := 34) (k := 0) (z := 0) (v := 0) (by unfold SCM; omega)).tr hK | exact (KM.set (σ := σ) (t := 34) (k := 0) (z := 0) (v := 0) (by unfold SCM; omega))⟩

set_option maxRecDepth 20000 in
set_option maxHeartbeats 1000000 in
theorem c_X6_ripe {d : Nat} (hd : 5 ≤ d) {σ : MM} {B : BK} {e : Int} (hM : MB σ 0 B) (hG : GB B) (he : IR e) : V yX6_ripe cX6_ripe 2 (some .int) d (QI (fun v σ' => v = q_ripe B e ∧ KM σ σ')) 0 [some (vR 34 0), some (vI e)] [] σ := by
  have hW := hG.w
  have hs := hW.s
  refine V_aload_0 (pc := 0) dX6_ripe_0 ?_
  refine V_iconst (pc := 1) dX6_ripe_1 ?_
  refine V_puti (pc := 2) dX6_ripe_2 gf_X6_74 (by omega) ?_
  have hM := (KM.set (σ := σ) (t := 34) (k := 0) (z := 0) (v := 0) (by unfold SCM; omega)).mb hM
  refine V_aload_0 (pc := 5) dX6_ripe_5 ?_
  refine V_iload_1 (pc := 6) dX6_ripe_6 ?_
  refine V_i2l (pc := 7) dX6_ripe_7 (by omega) ?_
  refine V_callV1p (pc := 8) dX6_ripe_8 kv_X6_246 rc_34 (by omega) (d - 1) (by omega) rfl (c_X6_isEntry (by omega) hM hW (by omega)) ?_
  refine V_if_ne_b (pc := 11) 17 dX6_ripe_11 (by decide) (fun c_11 => ?_) (fun c_11 => ?_)
  · refine V_aload_0 (pc := 17) dX6_ripe_17 ?_
    refine V_callV0z (pc := 18) dX6_ripe_18 kv_X6_337 rc_34 (by omega) (d - 1) (by omega) rfl (c_X6_laysNow (by omega) hM hW) (fun σ_18 h_18 => ?_)
    obtain ⟨hL, hS, hK⟩ := h_18
    have hM := hK.mb hM
    refine V_aload_0 (pc := 21) dX6_ripe_21 ?_
    refine V_iload_1 (pc := 22) dX6_ripe_22 ?_
    refine V_callV1p (pc := 23) dX6_ripe_23 kv_X6_340 rc_34 (by omega) (d - 1) (by omega) rfl (c_X6_ripeOf (by omega) hM hW hL hS (by omega)) ?_
    refine V_iretI (pc := 26) dX6_ripe_26 rfl ?_
    exact ⟨_, rfl, by unfold q_ripe; (repeat' split) <;> first | rfl | omega, by first | exact (KM.set (σ := σ) (t := 34) (k := 0) (z := 0) (v := 0) (by unfold SCM; omega)).tr hK | exact (KM.set (σ := σ) (t := 34) (k := 0) (z := 0) (v := 0) (by unfold SCM; omega))⟩
  · refine V_bipush (pc := 14) dX6_ripe_14 (by decide) ?_
    refine V_iretI (pc := 16) dX6_ripe_16 rfl ?_
    exact ⟨_, rfl, by unfold q_ripe; (repeat' split) <;> first | rfl | omega, by first | exact (KM.set (σ := σ) (t := 34) (k := 0) (z := 0) (v := 0) (by unfold SCM; omega)).tr hK | exact (KM.set (σ := σ) (t := 34) (k := 0) (z := 0) (v := 0) (by unfold SCM; omega))⟩

set_option maxRecDepth 20000 in
set_option maxHeartbeats 1000000 in
theorem c_X6_clear {d : Nat} (hd : 5 ≤ d) {σ : MM} {B : BK} {y : Int} (hM : MB σ 0 B) (hG : GB B) (hy : IR y) : V yX6_clear cX6_clear 2 (some .int) d (QI (fun v σ' => v = q_clear B y ∧ KM σ σ')) 0 [some (vR 34 0), some (vI y)] [] σ := by
  have hW := hG.w
  have hs := hW.s
  refine V_aload_0 (pc := 0) dX6_clear_0 ?_
  refine V_iconst (pc := 1) dX6_clear_1 ?_
  refine V_puti (pc := 2) dX6_clear_2 gf_X6_74 (by omega) ?_
  have hM := (KM.set (σ := σ) (t := 34) (k := 0) (z := 0) (v := 0) (by unfold SCM; omega)).mb hM
  refine V_aload_0 (pc := 5) dX6_clear_5 ?_
  refine V_iload_1 (pc := 6) dX6_clear_6 ?_
  refine V_i2l (pc := 7) dX6_clear_7 (by omega) ?_
  refine V_callV1p (pc := 8) dX6_clear_8 kv_X6_249 rc_34 (by omega) (d - 1) (by omega) rfl (c_X6_isYear (by omega) hM hW (by omega)) ?_
  refine V_if_ne_b (pc := 11) 17 dX6_clear_11 (by decide) (fun c_11 => ?_) (fun c_11 => ?_)
  · refine V_aload_0 (pc := 17) dX6_clear_17 ?_
    refine V_callV0z (pc := 18) dX6_clear_18 kv_X6_337 rc_34 (by omega) (d - 1) (by omega) rfl (c_X6_laysNow (by omega) hM hW) (fun σ_18 h_18 => ?_)
    obtain ⟨hL, hS, hK⟩ := h_18
    have hM := hK.mb hM
    refine V_aload_0 (pc := 21) dX6_clear_21 ?_
    refine V_iload_1 (pc := 22) dX6_clear_22 ?_
    refine V_callV1p (pc := 23) dX6_clear_23 kv_X6_343 rc_34 (by omega) (d - 1) (by omega) rfl (c_X6_clearAt (by omega) hM hW hL hS (by omega)) ?_
    refine V_iretI (pc := 26) dX6_clear_26 rfl ?_
    exact ⟨_, rfl, by unfold q_clear; (repeat' split) <;> first | rfl | omega, by first | exact (KM.set (σ := σ) (t := 34) (k := 0) (z := 0) (v := 0) (by unfold SCM; omega)).tr hK | exact (KM.set (σ := σ) (t := 34) (k := 0) (z := 0) (v := 0) (by unfold SCM; omega))⟩
  · refine V_bipush (pc := 14) dX6_clear_14 (by decide) ?_
    refine V_iretI (pc := 16) dX6_clear_16 rfl ?_
    exact ⟨_, rfl, by unfold q_clear; (repeat' split) <;> first | rfl | omega, by first | exact (KM.set (σ := σ) (t := 34) (k := 0) (z := 0) (v := 0) (by unfold SCM; omega)).tr hK | exact (KM.set (σ := σ) (t := 34) (k := 0) (z := 0) (v := 0) (by unfold SCM; omega))⟩

set_option maxRecDepth 20000 in
set_option maxHeartbeats 1000000 in
theorem c_X6_all {d : Nat} (hd : 5 ≤ d) {σ : MM} {B : BK} {y : Int} (hM : MB σ 0 B) (hG : GB B) (hy : IR y) : V yX6_all cX6_all 2 (some .int) d (QI (fun v σ' => v = q_all B y ∧ KM σ σ')) 0 [some (vR 34 0), some (vI y)] [] σ := by
  have hW := hG.w
  have hs := hW.s
  refine V_aload_0 (pc := 0) dX6_all_0 ?_
  refine V_iconst (pc := 1) dX6_all_1 ?_
  refine V_puti (pc := 2) dX6_all_2 gf_X6_74 (by omega) ?_
  have hM := (KM.set (σ := σ) (t := 34) (k := 0) (z := 0) (v := 0) (by unfold SCM; omega)).mb hM
  refine V_aload_0 (pc := 5) dX6_all_5 ?_
  refine V_iload_1 (pc := 6) dX6_all_6 ?_
  refine V_i2l (pc := 7) dX6_all_7 (by omega) ?_
  refine V_callV1p (pc := 8) dX6_all_8 kv_X6_249 rc_34 (by omega) (d - 1) (by omega) rfl (c_X6_isYear (by omega) hM hW (by omega)) ?_
  refine V_if_ne_b (pc := 11) 17 dX6_all_11 (by decide) (fun c_11 => ?_) (fun c_11 => ?_)
  · refine V_aload_0 (pc := 17) dX6_all_17 ?_
    refine V_callV0z (pc := 18) dX6_all_18 kv_X6_337 rc_34 (by omega) (d - 1) (by omega) rfl (c_X6_laysNow (by omega) hM hW) (fun σ_18 h_18 => ?_)
    obtain ⟨hL, hS, hK⟩ := h_18
    have hM := hK.mb hM
    refine V_aload_0 (pc := 21) dX6_all_21 ?_
    refine V_iload_1 (pc := 22) dX6_all_22 ?_
    refine V_callV1p (pc := 23) dX6_all_23 kv_X6_346 rc_34 (by omega) (d - 1) (by omega) rfl (c_X6_allAt (by omega) hM hW hL hS (by omega)) ?_
    refine V_iretI (pc := 26) dX6_all_26 rfl ?_
    exact ⟨_, rfl, by unfold q_all; (repeat' split) <;> first | rfl | omega, by first | exact (KM.set (σ := σ) (t := 34) (k := 0) (z := 0) (v := 0) (by unfold SCM; omega)).tr hK | exact (KM.set (σ := σ) (t := 34) (k := 0) (z := 0) (v := 0) (by unfold SCM; omega))⟩
  · refine V_bipush (pc := 14) dX6_all_14 (by decide) ?_
    refine V_iretI (pc := 16) dX6_all_16 rfl ?_
    exact ⟨_, rfl, by unfold q_all; (repeat' split) <;> first | rfl | omega, by first | exact (KM.set (σ := σ) (t := 34) (k := 0) (z := 0) (v := 0) (by unfold SCM; omega)).tr hK | exact (KM.set (σ := σ) (t := 34) (k := 0) (z := 0) (v := 0) (by unfold SCM; omega))⟩

set_option maxRecDepth 20000 in
set_option maxHeartbeats 1000000 in
theorem c_X6_darkest {d : Nat} (hd : 5 ≤ d) {σ : MM} {B : BK} {y : Int} (hM : MB σ 0 B) (hG : GB B) (hy : IR y) : V yX6_darkest cX6_darkest 2 (some .int) d (QI (fun v σ' => v = q_darkest B y ∧ KM σ σ')) 0 [some (vR 34 0), some (vI y)] [] σ := by
  have hW := hG.w
  have hs := hW.s
  refine V_aload_0 (pc := 0) dX6_darkest_0 ?_
  refine V_iconst (pc := 1) dX6_darkest_1 ?_
  refine V_puti (pc := 2) dX6_darkest_2 gf_X6_74 (by omega) ?_
  have hM := (KM.set (σ := σ) (t := 34) (k := 0) (z := 0) (v := 0) (by unfold SCM; omega)).mb hM
  refine V_aload_0 (pc := 5) dX6_darkest_5 ?_
  refine V_iload_1 (pc := 6) dX6_darkest_6 ?_
  refine V_i2l (pc := 7) dX6_darkest_7 (by omega) ?_
  refine V_callV1p (pc := 8) dX6_darkest_8 kv_X6_249 rc_34 (by omega) (d - 1) (by omega) rfl (c_X6_isYear (by omega) hM hW (by omega)) ?_
  refine V_if_ne_b (pc := 11) 17 dX6_darkest_11 (by decide) (fun c_11 => ?_) (fun c_11 => ?_)
  · refine V_aload_0 (pc := 17) dX6_darkest_17 ?_
    refine V_callV0z (pc := 18) dX6_darkest_18 kv_X6_337 rc_34 (by omega) (d - 1) (by omega) rfl (c_X6_laysNow (by omega) hM hW) (fun σ_18 h_18 => ?_)
    obtain ⟨hL, hS, hK⟩ := h_18
    have hM := hK.mb hM
    refine V_aload_0 (pc := 21) dX6_darkest_21 ?_
    refine V_iload_1 (pc := 22) dX6_darkest_22 ?_
    refine V_iconst (pc := 23) dX6_darkest_23 ?_
    refine V_callV2p (pc := 24) dX6_darkest_24 kv_X6_349 rc_34 (by omega) (d - 1) (by omega) rfl (c_X6_oneBy (by omega) hM hW hL hS (by omega) (by omega)) ?_
    refine V_iretI (pc := 27) dX6_darkest_27 rfl ?_
    exact ⟨_, rfl, by unfold q_darkest; (repeat' split) <;> first | rfl | omega | exact bst_1 _ _ _, by first | exact (KM.set (σ := σ) (t := 34) (k := 0) (z := 0) (v := 0) (by unfold SCM; omega)).tr hK | exact (KM.set (σ := σ) (t := 34) (k := 0) (z := 0) (v := 0) (by unfold SCM; omega))⟩
  · refine V_bipush (pc := 14) dX6_darkest_14 (by decide) ?_
    refine V_iretI (pc := 16) dX6_darkest_16 rfl ?_
    exact ⟨_, rfl, by unfold q_darkest; (repeat' split) <;> first | rfl | omega | exact bst_1 _ _ _, by first | exact (KM.set (σ := σ) (t := 34) (k := 0) (z := 0) (v := 0) (by unfold SCM; omega)).tr hK | exact (KM.set (σ := σ) (t := 34) (k := 0) (z := 0) (v := 0) (by unfold SCM; omega))⟩

set_option maxRecDepth 20000 in
set_option maxHeartbeats 1000000 in
theorem c_X6_palest {d : Nat} (hd : 5 ≤ d) {σ : MM} {B : BK} {y : Int} (hM : MB σ 0 B) (hG : GB B) (hy : IR y) : V yX6_palest cX6_palest 2 (some .int) d (QI (fun v σ' => v = q_palest B y ∧ KM σ σ')) 0 [some (vR 34 0), some (vI y)] [] σ := by
  have hW := hG.w
  have hs := hW.s
  refine V_aload_0 (pc := 0) dX6_palest_0 ?_
  refine V_iconst (pc := 1) dX6_palest_1 ?_
  refine V_puti (pc := 2) dX6_palest_2 gf_X6_74 (by omega) ?_
  have hM := (KM.set (σ := σ) (t := 34) (k := 0) (z := 0) (v := 0) (by unfold SCM; omega)).mb hM
  refine V_aload_0 (pc := 5) dX6_palest_5 ?_
  refine V_iload_1 (pc := 6) dX6_palest_6 ?_
  refine V_i2l (pc := 7) dX6_palest_7 (by omega) ?_
  refine V_callV1p (pc := 8) dX6_palest_8 kv_X6_249 rc_34 (by omega) (d - 1) (by omega) rfl (c_X6_isYear (by omega) hM hW (by omega)) ?_
  refine V_if_ne_b (pc := 11) 17 dX6_palest_11 (by decide) (fun c_11 => ?_) (fun c_11 => ?_)
  · refine V_aload_0 (pc := 17) dX6_palest_17 ?_
    refine V_callV0z (pc := 18) dX6_palest_18 kv_X6_337 rc_34 (by omega) (d - 1) (by omega) rfl (c_X6_laysNow (by omega) hM hW) (fun σ_18 h_18 => ?_)
    obtain ⟨hL, hS, hK⟩ := h_18
    have hM := hK.mb hM
    refine V_aload_0 (pc := 21) dX6_palest_21 ?_
    refine V_iload_1 (pc := 22) dX6_palest_22 ?_
    refine V_iconst (pc := 23) dX6_palest_23 ?_
    refine V_callV2p (pc := 24) dX6_palest_24 kv_X6_349 rc_34 (by omega) (d - 1) (by omega) rfl (c_X6_oneBy (by omega) hM hW hL hS (by omega) (by omega)) ?_
    refine V_iretI (pc := 27) dX6_palest_27 rfl ?_
    exact ⟨_, rfl, by unfold q_palest; (repeat' split) <;> first | rfl | omega | exact bst_m1 _ _ _, by first | exact (KM.set (σ := σ) (t := 34) (k := 0) (z := 0) (v := 0) (by unfold SCM; omega)).tr hK | exact (KM.set (σ := σ) (t := 34) (k := 0) (z := 0) (v := 0) (by unfold SCM; omega))⟩
  · refine V_bipush (pc := 14) dX6_palest_14 (by decide) ?_
    refine V_iretI (pc := 16) dX6_palest_16 rfl ?_
    exact ⟨_, rfl, by unfold q_palest; (repeat' split) <;> first | rfl | omega | exact bst_m1 _ _ _, by first | exact (KM.set (σ := σ) (t := 34) (k := 0) (z := 0) (v := 0) (by unfold SCM; omega)).tr hK | exact (KM.set (σ := σ) (t := 34) (k := 0) (z := 0) (v := 0) (by unfold SCM; omega))⟩

set_option maxRecDepth 20000 in
set_option maxHeartbeats 1000000 in
theorem c_X6_newest {d : Nat} (hd : 3 ≤ d) {σ : MM} {B : BK} {y : Int} (hM : MB σ 0 B) (hG : GB B) (hy : IR y) : V yX6_newest cX6_newest 2 (some .int) d (QI (fun v σ' => v = q_newest B y ∧ KM σ σ')) 0 [some (vR 34 0), some (vI y)] [] σ := by
  have hW := hG.w
  have hs := hW.s
  refine V_aload_0 (pc := 0) dX6_newest_0 ?_
  refine V_iconst (pc := 1) dX6_newest_1 ?_
  refine V_puti (pc := 2) dX6_newest_2 gf_X6_74 (by omega) ?_
  have hM := (KM.set (σ := σ) (t := 34) (k := 0) (z := 0) (v := 0) (by unfold SCM; omega)).mb hM
  refine V_aload_0 (pc := 5) dX6_newest_5 ?_
  refine V_iload_1 (pc := 6) dX6_newest_6 ?_
  refine V_i2l (pc := 7) dX6_newest_7 (by omega) ?_
  refine V_callV1p (pc := 8) dX6_newest_8 kv_X6_249 rc_34 (by omega) (d - 1) (by omega) rfl (c_X6_isYear (by omega) hM hW (by omega)) ?_
  refine V_if_ne_b (pc := 11) 17 dX6_newest_11 (by decide) (fun c_11 => ?_) (fun c_11 => ?_)
  · refine V_aload_0 (pc := 17) dX6_newest_17 ?_
    refine V_callV0z (pc := 18) dX6_newest_18 kv_X6_315 rc_34 (by omega) (d - 1) (by omega) rfl (c_X6_lays (by omega) hM hW) (fun σ_18 h_18 => ?_)
    obtain ⟨hL, hK⟩ := h_18
    have hM := hK.mb hM
    refine V_aload_0 (pc := 21) dX6_newest_21 ?_
    refine V_iload_1 (pc := 22) dX6_newest_22 ?_
    refine V_iconst (pc := 23) dX6_newest_23 ?_
    refine V_callV2p (pc := 24) dX6_newest_24 kv_X6_393 rc_34 (by omega) (d - 1) (by omega) rfl (c_X6_writtenBy (by omega) hM hW hL (hL.w47 hG.n99) (by omega) (by omega)) ?_
    refine V_iretI (pc := 27) dX6_newest_27 rfl ?_
    exact ⟨_, rfl, by unfold q_newest; (repeat' split) <;> first | rfl | omega | exact bst_1 _ _ _, by first | exact (KM.set (σ := σ) (t := 34) (k := 0) (z := 0) (v := 0) (by unfold SCM; omega)).tr hK | exact (KM.set (σ := σ) (t := 34) (k := 0) (z := 0) (v := 0) (by unfold SCM; omega))⟩
  · refine V_bipush (pc := 14) dX6_newest_14 (by decide) ?_
    refine V_iretI (pc := 16) dX6_newest_16 rfl ?_
    exact ⟨_, rfl, by unfold q_newest; (repeat' split) <;> first | rfl | omega | exact bst_1 _ _ _, by first | exact (KM.set (σ := σ) (t := 34) (k := 0) (z := 0) (v := 0) (by unfold SCM; omega)).tr hK | exact (KM.set (σ := σ) (t := 34) (k := 0) (z := 0) (v := 0) (by unfold SCM; omega))⟩

set_option maxRecDepth 20000 in
set_option maxHeartbeats 1000000 in
theorem c_X6_oldest {d : Nat} (hd : 3 ≤ d) {σ : MM} {B : BK} {y : Int} (hM : MB σ 0 B) (hG : GB B) (hy : IR y) : V yX6_oldest cX6_oldest 2 (some .int) d (QI (fun v σ' => v = q_oldest B y ∧ KM σ σ')) 0 [some (vR 34 0), some (vI y)] [] σ := by
  have hW := hG.w
  have hs := hW.s
  refine V_aload_0 (pc := 0) dX6_oldest_0 ?_
  refine V_iconst (pc := 1) dX6_oldest_1 ?_
  refine V_puti (pc := 2) dX6_oldest_2 gf_X6_74 (by omega) ?_
  have hM := (KM.set (σ := σ) (t := 34) (k := 0) (z := 0) (v := 0) (by unfold SCM; omega)).mb hM
  refine V_aload_0 (pc := 5) dX6_oldest_5 ?_
  refine V_iload_1 (pc := 6) dX6_oldest_6 ?_
  refine V_i2l (pc := 7) dX6_oldest_7 (by omega) ?_
  refine V_callV1p (pc := 8) dX6_oldest_8 kv_X6_249 rc_34 (by omega) (d - 1) (by omega) rfl (c_X6_isYear (by omega) hM hW (by omega)) ?_
  refine V_if_ne_b (pc := 11) 17 dX6_oldest_11 (by decide) (fun c_11 => ?_) (fun c_11 => ?_)
  · refine V_aload_0 (pc := 17) dX6_oldest_17 ?_
    refine V_callV0z (pc := 18) dX6_oldest_18 kv_X6_315 rc_34 (by omega) (d - 1) (by omega) rfl (c_X6_lays (by omega) hM hW) (fun σ_18 h_18 => ?_)
    obtain ⟨hL, hK⟩ := h_18
    have hM := hK.mb hM
    refine V_aload_0 (pc := 21) dX6_oldest_21 ?_
    refine V_iload_1 (pc := 22) dX6_oldest_22 ?_
    refine V_iconst (pc := 23) dX6_oldest_23 ?_
    refine V_callV2p (pc := 24) dX6_oldest_24 kv_X6_393 rc_34 (by omega) (d - 1) (by omega) rfl (c_X6_writtenBy (by omega) hM hW hL (hL.w47 hG.n99) (by omega) (by omega)) ?_
    refine V_iretI (pc := 27) dX6_oldest_27 rfl ?_
    exact ⟨_, rfl, by unfold q_oldest; (repeat' split) <;> first | rfl | omega | exact bst_m1 _ _ _, by first | exact (KM.set (σ := σ) (t := 34) (k := 0) (z := 0) (v := 0) (by unfold SCM; omega)).tr hK | exact (KM.set (σ := σ) (t := 34) (k := 0) (z := 0) (v := 0) (by unfold SCM; omega))⟩
  · refine V_bipush (pc := 14) dX6_oldest_14 (by decide) ?_
    refine V_iretI (pc := 16) dX6_oldest_16 rfl ?_
    exact ⟨_, rfl, by unfold q_oldest; (repeat' split) <;> first | rfl | omega | exact bst_m1 _ _ _, by first | exact (KM.set (σ := σ) (t := 34) (k := 0) (z := 0) (v := 0) (by unfold SCM; omega)).tr hK | exact (KM.set (σ := σ) (t := 34) (k := 0) (z := 0) (v := 0) (by unfold SCM; omega))⟩

set_option maxRecDepth 20000 in
set_option maxHeartbeats 1000000 in
theorem c_X6_sorts {d : Nat} (hd : 5 ≤ d) {σ : MM} {B : BK} {y : Int} (hM : MB σ 0 B) (hG : GB B) (hy : IR y) : V yX6_sorts cX6_sorts 2 (some .int) d (QI (fun v σ' => v = q_sorts B y ∧ KM σ σ')) 0 [some (vR 34 0), some (vI y)] [] σ := by
  have hW := hG.w
  have hs := hW.s
  refine V_aload_0 (pc := 0) dX6_sorts_0 ?_
  refine V_iconst (pc := 1) dX6_sorts_1 ?_
  refine V_puti (pc := 2) dX6_sorts_2 gf_X6_74 (by omega) ?_
  have hM := (KM.set (σ := σ) (t := 34) (k := 0) (z := 0) (v := 0) (by unfold SCM; omega)).mb hM
  refine V_aload_0 (pc := 5) dX6_sorts_5 ?_
  refine V_iload_1 (pc := 6) dX6_sorts_6 ?_
  refine V_i2l (pc := 7) dX6_sorts_7 (by omega) ?_
  refine V_callV1p (pc := 8) dX6_sorts_8 kv_X6_249 rc_34 (by omega) (d - 1) (by omega) rfl (c_X6_isYear (by omega) hM hW (by omega)) ?_
  refine V_if_ne_b (pc := 11) 17 dX6_sorts_11 (by decide) (fun c_11 => ?_) (fun c_11 => ?_)
  · refine V_aload_0 (pc := 17) dX6_sorts_17 ?_
    refine V_callV0z (pc := 18) dX6_sorts_18 kv_X6_337 rc_34 (by omega) (d - 1) (by omega) rfl (c_X6_laysNow (by omega) hM hW) (fun σ_18 h_18 => ?_)
    obtain ⟨hL, hS, hK⟩ := h_18
    have hM := hK.mb hM
    refine V_aload_0 (pc := 21) dX6_sorts_21 ?_
    refine V_bipush (pc := 22) dX6_sorts_22 (by decide) ?_
    refine V_iload_1 (pc := 24) dX6_sorts_24 ?_
    refine V_callV2p (pc := 25) dX6_sorts_25 kv_X6_352 rc_34 (by omega) (d - 1) (by omega) rfl (c_X6_sortsOf (by omega) hM hW hL hS (by omega) (by omega)) ?_
    refine V_iretI (pc := 28) dX6_sorts_28 rfl ?_
    exact ⟨_, rfl, by unfold q_sorts; (repeat' split) <;> first | rfl | omega | exact q_sorts_m hs, by first | exact (KM.set (σ := σ) (t := 34) (k := 0) (z := 0) (v := 0) (by unfold SCM; omega)).tr hK | exact (KM.set (σ := σ) (t := 34) (k := 0) (z := 0) (v := 0) (by unfold SCM; omega))⟩
  · refine V_bipush (pc := 14) dX6_sorts_14 (by decide) ?_
    refine V_iretI (pc := 16) dX6_sorts_16 rfl ?_
    exact ⟨_, rfl, by unfold q_sorts; (repeat' split) <;> first | rfl | omega | exact q_sorts_m hs, by first | exact (KM.set (σ := σ) (t := 34) (k := 0) (z := 0) (v := 0) (by unfold SCM; omega)).tr hK | exact (KM.set (σ := σ) (t := 34) (k := 0) (z := 0) (v := 0) (by unfold SCM; omega))⟩

set_option maxRecDepth 20000 in
set_option maxHeartbeats 1000000 in
theorem c_X6_passes {d : Nat} (hd : 5 ≤ d) {σ : MM} {B : BK} {e y : Int} (hM : MB σ 0 B) (hG : GB B) (he : IR e) (hy : IR y) : V yX6_passes cX6_passes 3 (some .int) d (QI (fun v σ' => v = q_passes B e y ∧ KM σ σ')) 0 [some (vR 34 0), some (vI e), some (vI y)] [] σ := by
  have hW := hG.w
  have hs := hW.s
  refine V_aload_0 (pc := 0) dX6_passes_0 ?_
  refine V_iconst (pc := 1) dX6_passes_1 ?_
  refine V_puti (pc := 2) dX6_passes_2 gf_X6_74 (by omega) ?_
  have hM := (KM.set (σ := σ) (t := 34) (k := 0) (z := 0) (v := 0) (by unfold SCM; omega)).mb hM
  refine V_aload_0 (pc := 5) dX6_passes_5 ?_
  refine V_iload_1 (pc := 6) dX6_passes_6 ?_
  refine V_iload_2 (pc := 7) dX6_passes_7 ?_
  refine V_callV2p (pc := 8) dX6_passes_8 kv_X6_334 rc_34 (by omega) (d - 1) (by omega) rfl (c_X6_isThen (by omega) hM hW (by omega) (by omega)) ?_
  refine V_if_ne_b (pc := 11) 17 dX6_passes_11 (by decide) (fun c_11 => ?_) (fun c_11 => ?_)
  · refine V_aload_0 (pc := 17) dX6_passes_17 ?_
    refine V_callV0z (pc := 18) dX6_passes_18 kv_X6_337 rc_34 (by omega) (d - 1) (by omega) rfl (c_X6_laysNow (by omega) hM hW) (fun σ_18 h_18 => ?_)
    obtain ⟨hL, hS, hK⟩ := h_18
    have hM := hK.mb hM
    refine V_aload_0 (pc := 21) dX6_passes_21 ?_
    refine V_iload_1 (pc := 22) dX6_passes_22 ?_
    refine V_iload_2 (pc := 23) dX6_passes_23 ?_
    refine V_callV2p (pc := 24) dX6_passes_24 kv_X6_363 rc_34 (by omega) (d - 1) (by omega) rfl (c_X6_passesOf (by omega) hM hW hL hS (by omega) (by omega)) ?_
    refine V_iretI (pc := 27) dX6_passes_27 rfl ?_
    exact ⟨_, rfl, by unfold q_passes; (repeat' split) <;> first | rfl | omega, by first | exact (KM.set (σ := σ) (t := 34) (k := 0) (z := 0) (v := 0) (by unfold SCM; omega)).tr hK | exact (KM.set (σ := σ) (t := 34) (k := 0) (z := 0) (v := 0) (by unfold SCM; omega))⟩
  · refine V_bipush (pc := 14) dX6_passes_14 (by decide) ?_
    refine V_iretI (pc := 16) dX6_passes_16 rfl ?_
    exact ⟨_, rfl, by unfold q_passes; (repeat' split) <;> first | rfl | omega, by first | exact (KM.set (σ := σ) (t := 34) (k := 0) (z := 0) (v := 0) (by unfold SCM; omega)).tr hK | exact (KM.set (σ := σ) (t := 34) (k := 0) (z := 0) (v := 0) (by unfold SCM; omega))⟩

set_option maxRecDepth 20000 in
set_option maxHeartbeats 1000000 in
theorem c_X6_age {d : Nat} (hd : 3 ≤ d) {σ : MM} {B : BK} {e y : Int} (hM : MB σ 0 B) (hG : GB B) (he : IR e) (hy : IR y) : V yX6_age cX6_age 3 (some .int) d (QI (fun v σ' => v = q_age B e y ∧ KM σ σ')) 0 [some (vR 34 0), some (vI e), some (vI y)] [] σ := by
  have hW := hG.w
  have hs := hW.s
  have hX : 0 ≤ e ∧ e < B 6 0 → _ := fun q => hW.e (i := e) q
  refine V_aload_0 (pc := 0) dX6_age_0 ?_
  refine V_iconst (pc := 1) dX6_age_1 ?_
  refine V_puti (pc := 2) dX6_age_2 gf_X6_74 (by omega) ?_
  have hM := (KM.set (σ := σ) (t := 34) (k := 0) (z := 0) (v := 0) (by unfold SCM; omega)).mb hM
  refine V_aload_0 (pc := 5) dX6_age_5 ?_
  refine V_iload_1 (pc := 6) dX6_age_6 ?_
  refine V_iload_2 (pc := 7) dX6_age_7 ?_
  refine V_callV2p (pc := 8) dX6_age_8 kv_X6_334 rc_34 (by omega) (d - 1) (by omega) rfl (c_X6_isThen (by omega) hM hW (by omega) (by omega)) ?_
  refine V_if_ne_b (pc := 11) 17 dX6_age_11 (by decide) (fun c_11 => ?_) (fun c_11 => ?_)
  · refine V_aload_0 (pc := 17) dX6_age_17 ?_
    refine V_callV0z (pc := 18) dX6_age_18 kv_X6_315 rc_34 (by omega) (d - 1) (by omega) rfl (c_X6_lays (by omega) hM hW) (fun σ_18 h_18 => ?_)
    obtain ⟨hL, hK⟩ := h_18
    have hM := hK.mb hM
    refine V_aload_0 (pc := 21) dX6_age_21 ?_
    refine V_iload_1 (pc := 22) dX6_age_22 ?_
    refine V_iload_2 (pc := 23) dX6_age_23 ?_
    refine V_callV2p (pc := 24) dX6_age_24 kv_X6_293 rc_34 (by omega) (d - 1) (by omega) rfl (c_X6_isThere (by omega) hM hW hL (by omega) (by omega)) ?_
    refine V_if_eq_b (pc := 27) 41 dX6_age_27 (by decide) (fun c_27 => ?_) (fun c_27 => ?_)
    · refine V_iconst (pc := 41) dX6_age_41 ?_
      refine V_iretI (pc := 42) dX6_age_42 rfl ?_
      exact ⟨_, rfl, by unfold q_age; (repeat' split) <;> first | rfl | omega, by first | exact (KM.set (σ := σ) (t := 34) (k := 0) (z := 0) (v := 0) (by unfold SCM; omega)).tr hK | exact (KM.set (σ := σ) (t := 34) (k := 0) (z := 0) (v := 0) (by unfold SCM; omega))⟩
    · refine V_iload_2 (pc := 30) dX6_age_30 ?_
      refine V_aload_0 (pc := 31) dX6_age_31 ?_
      refine V_getc (pc := 32) dX6_age_32 gf_X6_53 (by omega) ?_
      refine V_iload_1 (pc := 35) dX6_age_35 ?_
      refine V_iald (pc := 36) dX6_age_36 sh_47 (by omega) (by omega) (hL.w47 hG.n99 _ (by omega)) ?_
      refine V_isub (pc := 37) dX6_age_37 ?_
      refine V_goto (pc := 38) 42 dX6_age_38 (by decide) ?_
      refine V_iretI (pc := 42) dX6_age_42 rfl ?_
      exact ⟨_, rfl, by unfold q_age; (repeat' split) <;> first | rfl | omega, by first | exact (KM.set (σ := σ) (t := 34) (k := 0) (z := 0) (v := 0) (by unfold SCM; omega)).tr hK | exact (KM.set (σ := σ) (t := 34) (k := 0) (z := 0) (v := 0) (by unfold SCM; omega))⟩
  · refine V_bipush (pc := 14) dX6_age_14 (by decide) ?_
    refine V_iretI (pc := 16) dX6_age_16 rfl ?_
    exact ⟨_, rfl, by unfold q_age; (repeat' split) <;> first | rfl | omega, by first | exact (KM.set (σ := σ) (t := 34) (k := 0) (z := 0) (v := 0) (by unfold SCM; omega)).tr hK | exact (KM.set (σ := σ) (t := 34) (k := 0) (z := 0) (v := 0) (by unfold SCM; omega))⟩

set_option maxRecDepth 20000 in
set_option maxHeartbeats 1000000 in
theorem c_X6_worth {d : Nat} (hd : 5 ≤ d) {σ : MM} {B : BK} {s : Int} (hM : MB σ 0 B) (hG : GB B) (hs : IR s) : V yX6_worth cX6_worth 2 (some .int) d (QI (fun v σ' => v = q_worth B s ∧ KM σ σ')) 0 [some (vR 34 0), some (vI s)] [] σ := by
  have hW := hG.w
  have hs := hW.s
  have hp7 := p2_32 (z := B 6 0) (by omega)
  refine V_aload_0 (pc := 0) dX6_worth_0 ?_
  refine V_iconst (pc := 1) dX6_worth_1 ?_
  refine V_puti (pc := 2) dX6_worth_2 gf_X6_74 (by omega) ?_
  have hM := (KM.set (σ := σ) (t := 34) (k := 0) (z := 0) (v := 0) (by unfold SCM; omega)).mb hM
  refine V_aload_0 (pc := 5) dX6_worth_5 ?_
  refine V_callV0p (pc := 6) dX6_worth_6 kv_X6_240 rc_34 (by omega) (d - 1) (by omega) rfl (c_X6_isBook (by omega) hM hW) ?_
  refine V_if_eq_b (pc := 9) 30 dX6_worth_9 (by decide) (fun c_9 => ?_) (fun c_9 => ?_)
  · refine V_bipush (pc := 30) dX6_worth_30 (by decide) ?_
    refine V_iretI (pc := 32) dX6_worth_32 rfl ?_
    exact ⟨_, rfl, by unfold q_worth; (repeat' split) <;> first | rfl | omega, by first | exact (KM.set (σ := σ) (t := 34) (k := 0) (z := 0) (v := 0) (by unfold SCM; omega)).tr hK | exact (KM.set (σ := σ) (t := 34) (k := 0) (z := 0) (v := 0) (by unfold SCM; omega))⟩
  · refine V_iload_1 (pc := 12) dX6_worth_12 ?_
    refine V_i2l (pc := 13) dX6_worth_13 (by omega) ?_
    refine V_lconst (pc := 14) dX6_worth_14 (z := 0) rfl ?_
    refine V_iconst (pc := 15) dX6_worth_15 ?_
    refine V_aload_0 (pc := 16) dX6_worth_16 ?_
    refine V_callV0p (pc := 17) dX6_worth_17 kv_X6_236 rc_34 (by omega) (d - 1) (by omega) rfl (c_X6_entries (by omega) hM hW) ?_
    refine V_ishl_1 (pc := 20) dX6_worth_20 (by omega) ?_
    refine V_i2l (pc := 21) dX6_worth_21 (by omega) ?_
    refine V_lconst (pc := 22) dX6_worth_22 (z := 1) rfl ?_
    refine V_lsub (pc := 23) dX6_worth_23 ?_
    refine V_callS3p (pc := 24) dX6_worth_24 kv_X6_79 (d - 1) (by omega) rfl (c_X6_in (by omega) (by omega) (by omega) (by omega)) ?_
    refine V_if_ne_b (pc := 27) 33 dX6_worth_27 (by decide) (fun c_27 => ?_) (fun c_27 => ?_)
    · refine V_aload_0 (pc := 33) dX6_worth_33 ?_
      refine V_callV0z (pc := 34) dX6_worth_34 kv_X6_337 rc_34 (by omega) (d - 1) (by omega) rfl (c_X6_laysNow (by omega) hM hW) (fun σ_34 h_34 => ?_)
      obtain ⟨hL, hS, hK⟩ := h_34
      have hM := hK.mb hM
      refine V_aload_0 (pc := 37) dX6_worth_37 ?_
      refine V_iload_1 (pc := 38) dX6_worth_38 ?_
      refine V_aload_0 (pc := 39) dX6_worth_39 ?_
      refine V_callV0p (pc := 40) dX6_worth_40 kv_X6_243 rc_34 (by omega) (d - 1) (by omega) rfl (c_X6_years (by omega) hM hW) ?_
      refine V_callV2p (pc := 43) dX6_worth_43 kv_X6_352 rc_34 (by omega) (d - 1) (by omega) rfl (c_X6_sortsOf (by omega) hM hW hL hS (by omega) (by omega)) ?_
      refine V_iretI (pc := 46) dX6_worth_46 rfl ?_
      exact ⟨_, rfl, by unfold q_worth; (repeat' split) <;> first | rfl | omega, by first | exact (KM.set (σ := σ) (t := 34) (k := 0) (z := 0) (v := 0) (by unfold SCM; omega)).tr hK | exact (KM.set (σ := σ) (t := 34) (k := 0) (z := 0) (v := 0) (by unfold SCM; omega))⟩
    · refine V_bipush (pc := 30) dX6_worth_30 (by decide) ?_
      refine V_iretI (pc := 32) dX6_worth_32 rfl ?_
      exact ⟨_, rfl, by unfold q_worth; (repeat' split) <;> first | rfl | omega, by first | exact (KM.set (σ := σ) (t := 34) (k := 0) (z := 0) (v := 0) (by unfold SCM; omega)).tr hK | exact (KM.set (σ := σ) (t := 34) (k := 0) (z := 0) (v := 0) (by unfold SCM; omega))⟩

set_option maxRecDepth 20000 in
set_option maxHeartbeats 1000000 in
theorem c_X6_spread {d : Nat} (hd : 5 ≤ d) {σ : MM} {B : BK} {y : Int} (hM : MB σ 0 B) (hG : GB B) (hy : IR y) : V yX6_spread cX6_spread 2 (some .int) d (QI (fun v σ' => v = q_spread B y ∧ KM σ σ')) 0 [some (vR 34 0), some (vI y)] [] σ := by
  have hW := hG.w
  have hs := hW.s
  refine V_aload_0 (pc := 0) dX6_spread_0 ?_
  refine V_iconst (pc := 1) dX6_spread_1 ?_
  refine V_puti (pc := 2) dX6_spread_2 gf_X6_74 (by omega) ?_
  have hM := (KM.set (σ := σ) (t := 34) (k := 0) (z := 0) (v := 0) (by unfold SCM; omega)).mb hM
  refine V_aload_0 (pc := 5) dX6_spread_5 ?_
  refine V_iload_1 (pc := 6) dX6_spread_6 ?_
  refine V_i2l (pc := 7) dX6_spread_7 (by omega) ?_
  refine V_callV1p (pc := 8) dX6_spread_8 kv_X6_249 rc_34 (by omega) (d - 1) (by omega) rfl (c_X6_isYear (by omega) hM hW (by omega)) ?_
  refine V_if_ne_b (pc := 11) 17 dX6_spread_11 (by decide) (fun c_11 => ?_) (fun c_11 => ?_)
  · refine V_aload_0 (pc := 17) dX6_spread_17 ?_
    refine V_callV0z (pc := 18) dX6_spread_18 kv_X6_337 rc_34 (by omega) (d - 1) (by omega) rfl (c_X6_laysNow (by omega) hM hW) (fun σ_18 h_18 => ?_)
    obtain ⟨hL, hS, hK⟩ := h_18
    have hM := hK.mb hM
    refine V_aload_0 (pc := 21) dX6_spread_21 ?_
    refine V_iload_1 (pc := 22) dX6_spread_22 ?_
    refine V_callV1p (pc := 23) dX6_spread_23 kv_X6_331 rc_34 (by omega) (d - 1) (by omega) rfl (c_X6_thereAt (by omega) hM hW hL (by omega)) ?_
    have hd1 := THR_dp (B := B) (y := y)
    have hd2 := THR_pp (B := B) (y := y)
    have hd3 := DRK_in B y
    have hd4 := PAL_in B y
    have hd5 : (bst (fun e => B 13 e ≤ y) (fun e => 1 * SHD B (bt 0) y e) (B 6 0).toNat) = DRK B y := bst_1 _ _ _
    have hd6 : (bst (fun e => B 13 e ≤ y) (fun e => -1 * SHD B (bt 0) y e) (B 6 0).toNat) = PAL B y := bst_m1 _ _ _
    have hd7 := bsI_in (fun e => B 13 e ≤ y) (B 6 0).toNat
    have hd8 := p2_32 (z := (((B 6 0).toNat : Nat) : Int)) (by omega)
    refine V_if_ne (pc := 26) 33 dX6_spread_26 (by decide) (by omega) (fun c_26 => ?_) (fun c_26 => ?_)
    · refine V_aload_0 (pc := 33) dX6_spread_33 ?_
      refine V_aload_0 (pc := 34) dX6_spread_34 ?_
      refine V_iload_1 (pc := 35) dX6_spread_35 ?_
      refine V_iconst (pc := 36) dX6_spread_36 ?_
      refine V_callV2p (pc := 37) dX6_spread_37 kv_X6_349 rc_34 (by omega) (d - 1) (by omega) rfl (c_X6_oneBy (by omega) hM hW hL hS (by omega) (by omega)) ?_
      refine V_iload_1 (pc := 40) dX6_spread_40 ?_
      refine V_callV2p (pc := 41) dX6_spread_41 kv_X6_283 rc_34 (by omega) (d - 1) (by omega) rfl (c_X6_shadeOf (by omega) (by omega) (by omega) (hS.s (by omega) (by omega))) ?_
      refine V_aload_0 (pc := 44) dX6_spread_44 ?_
      refine V_aload_0 (pc := 45) dX6_spread_45 ?_
      refine V_iload_1 (pc := 46) dX6_spread_46 ?_
      refine V_iconst (pc := 47) dX6_spread_47 ?_
      refine V_callV2p (pc := 48) dX6_spread_48 kv_X6_349 rc_34 (by omega) (d - 1) (by omega) rfl (c_X6_oneBy (by omega) hM hW hL hS (by omega) (by omega)) ?_
      refine V_iload_1 (pc := 51) dX6_spread_51 ?_
      refine V_callV2p (pc := 52) dX6_spread_52 kv_X6_283 rc_34 (by omega) (d - 1) (by omega) rfl (c_X6_shadeOf (by omega) (by omega) (by omega) (hS.s (by omega) (by omega))) ?_
      refine V_isub (pc := 55) dX6_spread_55 ?_
      refine V_iretI (pc := 56) dX6_spread_56 rfl ?_
      exact ⟨_, rfl, by unfold q_spread; first | rw [if_pos (by omega)] | (rw [if_neg (by omega), if_pos (by omega)]) | (rw [if_neg (by omega), if_neg (by omega), hd5, hd6]), by first | exact (KM.set (σ := σ) (t := 34) (k := 0) (z := 0) (v := 0) (by unfold SCM; omega)).tr hK | exact (KM.set (σ := σ) (t := 34) (k := 0) (z := 0) (v := 0) (by unfold SCM; omega))⟩
    · refine V_iconst (pc := 29) dX6_spread_29 ?_
      refine V_goto (pc := 30) 56 dX6_spread_30 (by decide) ?_
      refine V_iretI (pc := 56) dX6_spread_56 rfl ?_
      exact ⟨_, rfl, by unfold q_spread; first | rw [if_pos (by omega)] | (rw [if_neg (by omega), if_pos (by omega)]) | (rw [if_neg (by omega), if_neg (by omega), hd5, hd6]), by first | exact (KM.set (σ := σ) (t := 34) (k := 0) (z := 0) (v := 0) (by unfold SCM; omega)).tr hK | exact (KM.set (σ := σ) (t := 34) (k := 0) (z := 0) (v := 0) (by unfold SCM; omega))⟩
  · refine V_bipush (pc := 14) dX6_spread_14 (by decide) ?_
    refine V_iretI (pc := 16) dX6_spread_16 rfl ?_
    exact ⟨_, rfl, by unfold q_spread; first | rw [if_pos (by omega)] | (rw [if_neg (by omega), if_pos (by omega)]) | (rw [if_neg (by omega), if_neg (by omega), hd5, hd6]), by first | exact (KM.set (σ := σ) (t := 34) (k := 0) (z := 0) (v := 0) (by unfold SCM; omega)).tr hK | exact (KM.set (σ := σ) (t := 34) (k := 0) (z := 0) (v := 0) (by unfold SCM; omega))⟩
