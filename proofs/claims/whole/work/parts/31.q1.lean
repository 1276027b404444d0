set_option maxRecDepth 20000 in
set_option maxHeartbeats 1000000 in
theorem c_X5_ink {d : Nat} (hd : 1 ≤ d) {σ : MM} {B : BK} {i w : Int} (hB : CB σ 1 B) (hW : WB B) (hC : CK σ 0 B (bt 0)) (hi : IR i) (hw : IR w) : V yX5_ink cX5_ink 3 (some .int) d (QI (fun v σ' => v = q_ink B i w ∧ σ' = σ)) 0 [some (vR 0 0), some (vI i), some (vI w)] [] σ := by
  have hs := hW.s
  refine V_aload_0 (pc := 0) dX5_ink_0 ?_
  refine V_iload_1 (pc := 1) dX5_ink_1 ?_
  refine V_callV1p (pc := 2) dX5_ink_2 kv_X5_106 rc_0 (by omega) (d - 1) (by omega) rfl (c_X5_noInk (by omega) hB hs (by omega)) ?_
  refine V_if_eq_b (pc := 5) 11 dX5_ink_5 (by decide) (fun c_5 => ?_) (fun c_5 => ?_)
  · refine V_iload_2 (pc := 11) dX5_ink_11 ?_
    rcases (show w = 0 ∨ w = 1 ∨ w = 2 ∨ (w < 0 ∨ 2 < w) by omega) with c_12 | c_12 | c_12 | c_12
    · refine V_tsw_in (pc := 12) (off := 28) 40 dX5_ink_12 (by decide) (by omega) (by omega) (by rw [c_12]; rfl) ?_
      refine V_aload_0 (pc := 40) dX5_ink_40 ?_
      refine V_getc (pc := 41) dX5_ink_41 gf_X5_23 (by omega) ?_
      refine V_gets (pc := 44) dX5_ink_44 gf_X5_110 (by omega) ?_
      refine V_iload_1 (pc := 47) dX5_ink_47 ?_
      refine V_iald (pc := 48) dX5_ink_48 sh_4 (by omega) (by omega) (hB.a4 (by omega)) ?_
      refine V_iretI (pc := 49) dX5_ink_49 rfl ?_
      exact ⟨_, rfl, by unfold q_ink; (repeat' split) <;> first | rfl | omega, rfl⟩
    · refine V_tsw_in (pc := 12) (off := 38) 50 dX5_ink_12 (by decide) (by omega) (by omega) (by rw [c_12]; rfl) ?_
      refine V_aload_0 (pc := 50) dX5_ink_50 ?_
      refine V_getc (pc := 51) dX5_ink_51 gf_X5_23 (by omega) ?_
      refine V_gets (pc := 54) dX5_ink_54 gf_X5_113 (by omega) ?_
      refine V_iload_1 (pc := 57) dX5_ink_57 ?_
      refine V_iald (pc := 58) dX5_ink_58 sh_5 (by omega) (by omega) (hB.a5 (by omega)) ?_
      refine V_iretI (pc := 59) dX5_ink_59 rfl ?_
      exact ⟨_, rfl, by unfold q_ink; (repeat' split) <;> first | rfl | omega, rfl⟩
    · refine V_tsw_in (pc := 12) (off := 48) 60 dX5_ink_12 (by decide) (by omega) (by omega) (by rw [c_12]; rfl) ?_
      refine V_aload_0 (pc := 60) dX5_ink_60 ?_
      refine V_getc (pc := 61) dX5_ink_61 gf_X5_23 (by omega) ?_
      refine V_gets (pc := 64) dX5_ink_64 gf_X5_116 (by omega) ?_
      refine V_iload_1 (pc := 67) dX5_ink_67 ?_
      refine V_iald (pc := 68) dX5_ink_68 sh_6 (by omega) (by omega) (hB.a6 (by omega)) ?_
      refine V_iretI (pc := 69) dX5_ink_69 rfl ?_
      exact ⟨_, rfl, by unfold q_ink; (repeat' split) <;> first | rfl | omega, rfl⟩
    · refine V_tsw_out (pc := 12) 70 dX5_ink_12 (by decide) (by omega) c_12 ?_
      refine V_bipush (pc := 70) dX5_ink_70 (by decide) ?_
      refine V_iretI (pc := 72) dX5_ink_72 rfl ?_
      exact ⟨_, rfl, by unfold q_ink; (repeat' split) <;> first | rfl | omega, rfl⟩
  · refine V_bipush (pc := 8) dX5_ink_8 (by decide) ?_
    refine V_iretI (pc := 10) dX5_ink_10 rfl ?_
    exact ⟨_, rfl, by unfold q_ink; (repeat' split) <;> first | rfl | omega, rfl⟩

set_option maxRecDepth 20000 in
set_option maxHeartbeats 1000000 in
theorem c_X5_page {d : Nat} (hd : 1 ≤ d) {σ : MM} {B : BK} {p : Int} (hB : CB σ 1 B) (hW : WB B) (hC : CK σ 0 B (bt 0)) (hp : IR p) : V yX5_page cX5_page 2 (some .int) d (QI (fun v σ' => v = q_page B p ∧ σ' = σ)) 0 [some (vR 0 0), some (vI p)] [] σ := by
  have hs := hW.s
  refine V_aload_0 (pc := 0) dX5_page_0 ?_
  refine V_iload_1 (pc := 1) dX5_page_1 ?_
  refine V_callV1p (pc := 2) dX5_page_2 kv_X5_119 rc_0 (by omega) (d - 1) (by omega) rfl (c_X5_noPage (by omega) hB hs (by omega)) ?_
  refine V_if_eq_b (pc := 5) 13 dX5_page_5 (by decide) (fun c_5 => ?_) (fun c_5 => ?_)
  · refine V_aload_0 (pc := 13) dX5_page_13 ?_
    refine V_getc (pc := 14) dX5_page_14 gf_X5_23 (by omega) ?_
    refine V_gets (pc := 17) dX5_page_17 gf_X5_122 (by omega) ?_
    refine V_iload_1 (pc := 20) dX5_page_20 ?_
    refine V_iald (pc := 21) dX5_page_21 sh_7 (by omega) (by omega) (hB.a7 (by omega)) ?_
    refine V_iretI (pc := 22) dX5_page_22 rfl ?_
    exact ⟨_, rfl, by unfold q_page; (repeat' split) <;> first | rfl | omega, rfl⟩
  · refine V_bipush (pc := 8) dX5_page_8 (by decide) ?_
    refine V_goto (pc := 10) 22 dX5_page_10 (by decide) ?_
    refine V_iretI (pc := 22) dX5_page_22 rfl ?_
    exact ⟨_, rfl, by unfold q_page; (repeat' split) <;> first | rfl | omega, rfl⟩

set_option maxRecDepth 20000 in
set_option maxHeartbeats 1000000 in
theorem c_X5_entry {d : Nat} (hd : 1 ≤ d) {σ : MM} {B : BK} {e w : Int} (hB : CB σ 1 B) (hW : WB B) (hC : CK σ 0 B (bt 0)) (he : IR e) (hw : IR w) : V yX5_entry cX5_entry 3 (some .int) d (QI (fun v σ' => v = q_entry B e w ∧ σ' = σ)) 0 [some (vR 0 0), some (vI e), some (vI w)] [] σ := by
  have hs := hW.s
  refine V_aload_0 (pc := 0) dX5_entry_0 ?_
  refine V_iload_1 (pc := 1) dX5_entry_1 ?_
  refine V_callV1p (pc := 2) dX5_entry_2 kv_X5_125 rc_0 (by omega) (d - 1) (by omega) rfl (c_X5_noEntry (by omega) hB hs (by omega)) ?_
  refine V_if_eq_b (pc := 5) 11 dX5_entry_5 (by decide) (fun c_5 => ?_) (fun c_5 => ?_)
  · refine V_iload_2 (pc := 11) dX5_entry_11 ?_
    rcases (show w = 0 ∨ w = 1 ∨ w = 2 ∨ w = 3 ∨ w = 4 ∨ (w < 0 ∨ 4 < w) by omega) with c_12 | c_12 | c_12 | c_12 | c_12 | c_12
    · refine V_tsw_in (pc := 12) (off := 36) 48 dX5_entry_12 (by decide) (by omega) (by omega) (by rw [c_12]; rfl) ?_
      refine V_aload_0 (pc := 48) dX5_entry_48 ?_
      refine V_getc (pc := 49) dX5_entry_49 gf_X5_23 (by omega) ?_
      refine V_gets (pc := 52) dX5_entry_52 gf_X5_128 (by omega) ?_
      refine V_iload_1 (pc := 55) dX5_entry_55 ?_
      refine V_iald (pc := 56) dX5_entry_56 sh_8 (by omega) (by omega) (hB.a8 (by omega)) ?_
      refine V_iretI (pc := 57) dX5_entry_57 rfl ?_
      exact ⟨_, rfl, by unfold q_entry; (repeat' split) <;> first | rfl | omega, rfl⟩
    · refine V_tsw_in (pc := 12) (off := 46) 58 dX5_entry_12 (by decide) (by omega) (by omega) (by rw [c_12]; rfl) ?_
      refine V_aload_0 (pc := 58) dX5_entry_58 ?_
      refine V_getc (pc := 59) dX5_entry_59 gf_X5_23 (by omega) ?_
      refine V_gets (pc := 62) dX5_entry_62 gf_X5_131 (by omega) ?_
      refine V_iload_1 (pc := 65) dX5_entry_65 ?_
      refine V_iald (pc := 66) dX5_entry_66 sh_9 (by omega) (by omega) (hB.a9 (by omega)) ?_
      refine V_iretI (pc := 67) dX5_entry_67 rfl ?_
      exact ⟨_, rfl, by unfold q_entry; (repeat' split) <;> first | rfl | omega, rfl⟩
    · refine V_tsw_in (pc := 12) (off := 56) 68 dX5_entry_12 (by decide) (by omega) (by omega) (by rw [c_12]; rfl) ?_
      refine V_aload_0 (pc := 68) dX5_entry_68 ?_
      refine V_getc (pc := 69) dX5_entry_69 gf_X5_23 (by omega) ?_
      refine V_gets (pc := 72) dX5_entry_72 gf_X5_134 (by omega) ?_
      refine V_iload_1 (pc := 75) dX5_entry_75 ?_
      refine V_iald (pc := 76) dX5_entry_76 sh_10 (by omega) (by omega) (hB.a10 (by omega)) ?_
      refine V_iretI (pc := 77) dX5_entry_77 rfl ?_
      exact ⟨_, rfl, by unfold q_entry; (repeat' split) <;> first | rfl | omega, rfl⟩
    · refine V_tsw_in (pc := 12) (off := 66) 78 dX5_entry_12 (by decide) (by omega) (by omega) (by rw [c_12]; rfl) ?_
      refine V_aload_0 (pc := 78) dX5_entry_78 ?_
      refine V_getc (pc := 79) dX5_entry_79 gf_X5_23 (by omega) ?_
      refine V_gets (pc := 82) dX5_entry_82 gf_X5_137 (by omega) ?_
      refine V_iload_1 (pc := 85) dX5_entry_85 ?_
      refine V_iald (pc := 86) dX5_entry_86 sh_11 (by omega) (by omega) (hB.a11 (by omega)) ?_
      refine V_iretI (pc := 87) dX5_entry_87 rfl ?_
      exact ⟨_, rfl, by unfold q_entry; (repeat' split) <;> first | rfl | omega, rfl⟩
    · refine V_tsw_in (pc := 12) (off := 76) 88 dX5_entry_12 (by decide) (by omega) (by omega) (by rw [c_12]; rfl) ?_
      refine V_aload_0 (pc := 88) dX5_entry_88 ?_
      refine V_getc (pc := 89) dX5_entry_89 gf_X5_23 (by omega) ?_
      refine V_gets (pc := 92) dX5_entry_92 gf_X5_140 (by omega) ?_
      refine V_iload_1 (pc := 95) dX5_entry_95 ?_
      refine V_iald (pc := 96) dX5_entry_96 sh_12 (by omega) (by omega) (hB.a12 (by omega)) ?_
      refine V_iretI (pc := 97) dX5_entry_97 rfl ?_
      exact ⟨_, rfl, by unfold q_entry; (repeat' split) <;> first | rfl | omega, rfl⟩
    · refine V_tsw_out (pc := 12) 98 dX5_entry_12 (by decide) (by omega) c_12 ?_
      refine V_bipush (pc := 98) dX5_entry_98 (by decide) ?_
      refine V_iretI (pc := 100) dX5_entry_100 rfl ?_
      exact ⟨_, rfl, by unfold q_entry; (repeat' split) <;> first | rfl | omega, rfl⟩
  · refine V_bipush (pc := 8) dX5_entry_8 (by decide) ?_
    refine V_iretI (pc := 10) dX5_entry_10 rfl ?_
    exact ⟨_, rfl, by unfold q_entry; (repeat' split) <;> first | rfl | omega, rfl⟩

set_option maxRecDepth 20000 in
set_option maxHeartbeats 1000000 in
theorem c_X5_on {d : Nat} (hd : 1 ≤ d) {σ : MM} {B : BK} {p : Int} (hB : CB σ 1 B) (hW : WB B) (hC : CK σ 0 B (bt 0)) (hp : IR p) : V yX5_on cX5_on 2 (some .int) d (QI (fun v σ' => v = q_on B p ∧ σ' = σ)) 0 [some (vR 0 0), some (vI p)] [] σ := by
  have hs := hW.s
  refine V_aload_0 (pc := 0) dX5_on_0 ?_
  refine V_iload_1 (pc := 1) dX5_on_1 ?_
  refine V_callV1p (pc := 2) dX5_on_2 kv_X5_119 rc_0 (by omega) (d - 1) (by omega) rfl (c_X5_noPage (by omega) hB hs (by omega)) ?_
  refine V_if_eq_b (pc := 5) 13 dX5_on_5 (by decide) (fun c_5 => ?_) (fun c_5 => ?_)
  · refine V_aload_0 (pc := 13) dX5_on_13 ?_
    refine V_iload_1 (pc := 14) dX5_on_14 ?_
    refine V_callV1p (pc := 15) dX5_on_15 kv_X5_142 rc_0 (by omega) (d - 1) (by omega) rfl (c_X5_bitsOn (by omega) hB hW (by omega)) ?_
    refine V_iretI (pc := 18) dX5_on_18 rfl ?_
    exact ⟨_, rfl, by unfold q_on; (repeat' split) <;> first | rfl | omega, rfl⟩
  · refine V_bipush (pc := 8) dX5_on_8 (by decide) ?_
    refine V_goto (pc := 10) 18 dX5_on_10 (by decide) ?_
    refine V_iretI (pc := 18) dX5_on_18 rfl ?_
    exact ⟨_, rfl, by unfold q_on; (repeat' split) <;> first | rfl | omega, rfl⟩

set_option maxRecDepth 20000 in
set_option maxHeartbeats 1000000 in
theorem c_X5_faces {d : Nat} (hd : 1 ≤ d) {σ : MM} {B : BK} {e : Int} (hB : CB σ 1 B) (hW : WB B) (hC : CK σ 0 B (bt 0)) (he : IR e) : V yX5_faces cX5_faces 2 (some .int) d (QI (fun v σ' => v = q_faces B e ∧ σ' = σ)) 0 [some (vR 0 0), some (vI e)] [] σ := by
  have hs := hW.s
  refine V_aload_0 (pc := 0) dX5_faces_0 ?_
  refine V_iload_1 (pc := 1) dX5_faces_1 ?_
  refine V_callV1p (pc := 2) dX5_faces_2 kv_X5_125 rc_0 (by omega) (d - 1) (by omega) rfl (c_X5_noEntry (by omega) hB hs (by omega)) ?_
  refine V_if_eq_b (pc := 5) 13 dX5_faces_5 (by decide) (fun c_5 => ?_) (fun c_5 => ?_)
  · refine V_aload_0 (pc := 13) dX5_faces_13 ?_
    refine V_getc (pc := 14) dX5_faces_14 gf_X5_23 (by omega) ?_
    refine V_gets (pc := 17) dX5_faces_17 gf_X5_146 (by omega) ?_
    refine V_iload_1 (pc := 20) dX5_faces_20 ?_
    refine V_iald (pc := 21) dX5_faces_21 sh_13 (by omega) (by omega) (hB.a13 (by omega)) ?_
    refine V_iretI (pc := 22) dX5_faces_22 rfl ?_
    exact ⟨_, rfl, by unfold q_faces; (repeat' split) <;> first | rfl | omega, rfl⟩
  · refine V_bipush (pc := 8) dX5_faces_8 (by decide) ?_
    refine V_goto (pc := 10) 22 dX5_faces_10 (by decide) ?_
    refine V_iretI (pc := 22) dX5_faces_22 rfl ?_
    exact ⟨_, rfl, by unfold q_faces; (repeat' split) <;> first | rfl | omega, rfl⟩

set_option maxRecDepth 20000 in
set_option maxHeartbeats 1000000 in
theorem c_X5_there {d : Nat} (hd : 2 ≤ d) {σ : MM} {B : BK} {y : Int} (hB : CB σ 1 B) (hW : WB B) (hC : CK σ 0 B (bt 0)) (hy : IR y) : V yX5_there cX5_there 2 (some .int) d (QI (fun v σ' => v = q_there B y ∧ σ' = σ)) 0 [some (vR 0 0), some (vI y)] [] σ := by
  have hs := hW.s
  refine V_aload_0 (pc := 0) dX5_there_0 ?_
  refine V_iload_1 (pc := 1) dX5_there_1 ?_
  refine V_callV1p (pc := 2) dX5_there_2 kv_X5_149 rc_0 (by omega) (d - 1) (by omega) rfl (c_X5_noYear (by omega) hB hs (by omega)) ?_
  refine V_if_eq_b (pc := 5) 13 dX5_there_5 (by decide) (fun c_5 => ?_) (fun c_5 => ?_)
  · refine V_aload_0 (pc := 13) dX5_there_13 ?_
    refine V_iload_1 (pc := 14) dX5_there_14 ?_
    refine V_callV1p (pc := 15) dX5_there_15 kv_X5_152 rc_0 (by omega) (d - 1) (by omega) rfl (c_X5_bitsThere (by omega) hB hW (by omega)) ?_
    refine V_iretI (pc := 18) dX5_there_18 rfl ?_
    exact ⟨_, rfl, by unfold q_there; (repeat' split) <;> first | rfl | omega, rfl⟩
  · refine V_bipush (pc := 8) dX5_there_8 (by decide) ?_
    refine V_goto (pc := 10) 18 dX5_there_10 (by decide) ?_
    refine V_iretI (pc := 18) dX5_there_18 rfl ?_
    exact ⟨_, rfl, by unfold q_there; (repeat' split) <;> first | rfl | omega, rfl⟩

set_option maxRecDepth 20000 in
set_option maxHeartbeats 1000000 in
theorem c_X5_age {d : Nat} (hd : 2 ≤ d) {σ : MM} {B : BK} {e y : Int} (hB : CB σ 1 B) (hW : WB B) (hC : CK σ 0 B (bt 0)) (he : IR e) (hy : IR y) : V yX5_age cX5_age 3 (some .int) d (QI (fun v σ' => v = q_age B e y ∧ σ' = σ)) 0 [some (vR 0 0), some (vI e), some (vI y)] [] σ := by
  have hs := hW.s
  have hX : ¬ (e < 0 ∨ B 6 0 ≤ e) → _ := fun q => hW.e (i := e) (by omega)
  refine V_aload_0 (pc := 0) dX5_age_0 ?_
  refine V_iload_1 (pc := 1) dX5_age_1 ?_
  refine V_callV1p (pc := 2) dX5_age_2 kv_X5_125 rc_0 (by omega) (d - 1) (by omega) rfl (c_X5_noEntry (by omega) hB hs (by omega)) ?_
  refine V_if_ne_b (pc := 5) 16 dX5_age_5 (by decide) (fun c_5 => ?_) (fun c_5 => ?_)
  · refine V_bipush (pc := 16) dX5_age_16 (by decide) ?_
    refine V_iretI (pc := 18) dX5_age_18 rfl ?_
    exact ⟨_, rfl, by unfold q_age; (repeat' split) <;> first | rfl | omega, rfl⟩
  · refine V_aload_0 (pc := 8) dX5_age_8 ?_
    refine V_iload_2 (pc := 9) dX5_age_9 ?_
    refine V_callV1p (pc := 10) dX5_age_10 kv_X5_149 rc_0 (by omega) (d - 1) (by omega) rfl (c_X5_noYear (by omega) hB hs (by omega)) ?_
    refine V_if_eq_b (pc := 13) 19 dX5_age_13 (by decide) (fun c_13 => ?_) (fun c_13 => ?_)
    · refine V_aload_0 (pc := 19) dX5_age_19 ?_
      refine V_getc (pc := 20) dX5_age_20 gf_X5_23 (by omega) ?_
      refine V_iload_1 (pc := 23) dX5_age_23 ?_
      refine V_iload_2 (pc := 24) dX5_age_24 ?_
      refine V_callV2p (pc := 25) dX5_age_25 kv_X5_165 rc_3 (by omega) (d - 1) (by omega) rfl (c_X1_isThere (by omega) (by omega) hB hW (by omega) (by omega)) ?_
      refine V_if_eq_b (pc := 28) 45 dX5_age_28 (by decide) (fun c_28 => ?_) (fun c_28 => ?_)
      · refine V_iconst (pc := 45) dX5_age_45 ?_
        refine V_iretI (pc := 46) dX5_age_46 rfl ?_
        exact ⟨_, rfl, by unfold q_age; (repeat' split) <;> first | rfl | omega, rfl⟩
      · refine V_iload_2 (pc := 31) dX5_age_31 ?_
        refine V_aload_0 (pc := 32) dX5_age_32 ?_
        refine V_getc (pc := 33) dX5_age_33 gf_X5_23 (by omega) ?_
        refine V_gets (pc := 36) dX5_age_36 gf_X5_134 (by omega) ?_
        refine V_iload_1 (pc := 39) dX5_age_39 ?_
        refine V_iald (pc := 40) dX5_age_40 sh_10 (by omega) (by omega) (hB.a10 (by omega)) ?_
        refine V_isub (pc := 41) dX5_age_41 ?_
        refine V_goto (pc := 42) 46 dX5_age_42 (by decide) ?_
        refine V_iretI (pc := 46) dX5_age_46 rfl ?_
        exact ⟨_, rfl, by unfold q_age; (repeat' split) <;> first | rfl | omega, rfl⟩
    · refine V_bipush (pc := 16) dX5_age_16 (by decide) ?_
      refine V_iretI (pc := 18) dX5_age_18 rfl ?_
      exact ⟨_, rfl, by unfold q_age; (repeat' split) <;> first | rfl | omega, rfl⟩

set_option maxRecDepth 20000 in
set_option maxHeartbeats 1000000 in
theorem c_X5_shade {d : Nat} (hd : 2 ≤ d) {σ : MM} {B : BK} {e y : Int} (hB : CB σ 1 B) (hW : WB B) (hC : CK σ 0 B (bt 0)) (he : IR e) (hy : IR y) : V yX5_shade cX5_shade 3 (some .int) d (QI (fun v σ' => v = q_shade B e y ∧ σ' = σ)) 0 [some (vR 0 0), some (vI e), some (vI y)] [] σ := by
  have hs := hW.s
  refine V_aload_0 (pc := 0) dX5_shade_0 ?_
  refine V_iload_1 (pc := 1) dX5_shade_1 ?_
  refine V_callV1p (pc := 2) dX5_shade_2 kv_X5_125 rc_0 (by omega) (d - 1) (by omega) rfl (c_X5_noEntry (by omega) hB hs (by omega)) ?_
  refine V_if_ne_b (pc := 5) 16 dX5_shade_5 (by decide) (fun c_5 => ?_) (fun c_5 => ?_)
  · refine V_bipush (pc := 16) dX5_shade_16 (by decide) ?_
    refine V_goto (pc := 18) 32 dX5_shade_18 (by decide) ?_
    refine V_iretI (pc := 32) dX5_shade_32 rfl ?_
    exact ⟨_, rfl, by unfold q_shade; (repeat' split) <;> first | rfl | omega, rfl⟩
  · refine V_aload_0 (pc := 8) dX5_shade_8 ?_
    refine V_iload_2 (pc := 9) dX5_shade_9 ?_
    refine V_callV1p (pc := 10) dX5_shade_10 kv_X5_149 rc_0 (by omega) (d - 1) (by omega) rfl (c_X5_noYear (by omega) hB hs (by omega)) ?_
    refine V_if_eq_b (pc := 13) 21 dX5_shade_13 (by decide) (fun c_13 => ?_) (fun c_13 => ?_)
    · refine V_aload_0 (pc := 21) dX5_shade_21 ?_
      refine V_getc (pc := 22) dX5_shade_22 gf_X5_32 (by omega) ?_
      refine V_gets (pc := 25) dX5_shade_25 gf_X5_169 (by omega) ?_
      refine V_iload_2 (pc := 28) dX5_shade_28 ?_
      refine V_aald_19 (pc := 29) dX5_shade_29 (by omega) (by omega) ?_
      refine V_iload_1 (pc := 30) dX5_shade_30 ?_
      refine V_iald (pc := 31) dX5_shade_31 sh_22 (by omega) (by omega) (hC.sh (by omega) (by omega)) ?_
      refine V_iretI (pc := 32) dX5_shade_32 rfl ?_
      exact ⟨_, rfl, by unfold q_shade; (repeat' split) <;> first | rfl | omega, rfl⟩
    · refine V_bipush (pc := 16) dX5_shade_16 (by decide) ?_
      refine V_goto (pc := 18) 32 dX5_shade_18 (by decide) ?_
      refine V_iretI (pc := 32) dX5_shade_32 rfl ?_
      exact ⟨_, rfl, by unfold q_shade; (repeat' split) <;> first | rfl | omega, rfl⟩

set_option maxRecDepth 20000 in
set_option maxHeartbeats 1000000 in
theorem c_X5_peak {d : Nat} (hd : 1 ≤ d) {σ : MM} {B : BK} {e : Int} (hB : CB σ 1 B) (hW : WB B) (hC : CK σ 0 B (bt 0)) (he : IR e) : V yX5_peak cX5_peak 2 (some .int) d (QI (fun v σ' => v = q_peak B e ∧ σ' = σ)) 0 [some (vR 0 0), some (vI e)] [] σ := by
  have hs := hW.s
  have hM := mxN_in (fun y => SHD B (bt 0) y e) (B 1 0).toNat
  refine V_aload_0 (pc := 0) dX5_peak_0 ?_
  refine V_iload_1 (pc := 1) dX5_peak_1 ?_
  refine V_callV1p (pc := 2) dX5_peak_2 kv_X5_125 rc_0 (by omega) (d - 1) (by omega) rfl (c_X5_noEntry (by omega) hB hs (by omega)) ?_
  refine V_if_eq_b (pc := 5) 13 dX5_peak_5 (by decide) (fun c_5 => ?_) (fun c_5 => ?_)
  · refine V_aload_0 (pc := 13) dX5_peak_13 ?_
    refine V_getc (pc := 14) dX5_peak_14 gf_X5_32 (by omega) ?_
    refine V_gets (pc := 17) dX5_peak_17 gf_X5_169 (by omega) ?_
    refine V_aload_0 (pc := 20) dX5_peak_20 ?_
    refine V_iload_1 (pc := 21) dX5_peak_21 ?_
    refine V_callV1p (pc := 22) dX5_peak_22 kv_X5_172 rc_0 (by omega) (d - 1) (by omega) rfl (c_X5_ripeYear (by omega) hB hW hC (by omega)) ?_
    refine V_aald_19 (pc := 25) dX5_peak_25 (by omega) (by omega) ?_
    refine V_iload_1 (pc := 26) dX5_peak_26 ?_
    refine V_iald (pc := 27) dX5_peak_27 sh_22 (by omega) (by omega) (hC.sh (y := mxN (fun y => SHD B (bt 0) y e) (B 1 0).toNat) (by omega) (by omega)) ?_
    refine V_iretI (pc := 28) dX5_peak_28 rfl ?_
    exact ⟨_, rfl, by unfold q_peak; (repeat' split) <;> first | rfl | omega, rfl⟩
  · refine V_bipush (pc := 8) dX5_peak_8 (by decide) ?_
    refine V_goto (pc := 10) 28 dX5_peak_10 (by decide) ?_
    refine V_iretI (pc := 28) dX5_peak_28 rfl ?_
    exact ⟨_, rfl, by unfold q_peak; (repeat' split) <;> first | rfl | omega, rfl⟩

set_option maxRecDepth 20000 in
set_option maxHeartbeats 1000000 in
theorem c_X5_ripe {d : Nat} (hd : 1 ≤ d) {σ : MM} {B : BK} {e : Int} (hB : CB σ 1 B) (hW : WB B) (hC : CK σ 0 B (bt 0)) (he : IR e) : V yX5_ripe cX5_ripe 2 (some .int) d (QI (fun v σ' => v = q_ripe B e ∧ σ' = σ)) 0 [some (vR 0 0), some (vI e)] [] σ := by
  have hs := hW.s
  refine V_aload_0 (pc := 0) dX5_ripe_0 ?_
  refine V_iload_1 (pc := 1) dX5_ripe_1 ?_
  refine V_callV1p (pc := 2) dX5_ripe_2 kv_X5_125 rc_0 (by omega) (d - 1) (by omega) rfl (c_X5_noEntry (by omega) hB hs (by omega)) ?_
  refine V_if_eq_b (pc := 5) 13 dX5_ripe_5 (by decide) (fun c_5 => ?_) (fun c_5 => ?_)
  · refine V_aload_0 (pc := 13) dX5_ripe_13 ?_
    refine V_iload_1 (pc := 14) dX5_ripe_14 ?_
    refine V_callV1p (pc := 15) dX5_ripe_15 kv_X5_172 rc_0 (by omega) (d - 1) (by omega) rfl (c_X5_ripeYear (by omega) hB hW hC (by omega)) ?_
    refine V_iretI (pc := 18) dX5_ripe_18 rfl ?_
    exact ⟨_, rfl, by unfold q_ripe; (repeat' split) <;> first | rfl | omega, rfl⟩
  · refine V_bipush (pc := 8) dX5_ripe_8 (by decide) ?_
    refine V_goto (pc := 10) 18 dX5_ripe_10 (by decide) ?_
    refine V_iretI (pc := 18) dX5_ripe_18 rfl ?_
    exact ⟨_, rfl, by unfold q_ripe; (repeat' split) <;> first | rfl | omega, rfl⟩

set_option maxRecDepth 20000 in
set_option maxHeartbeats 1000000 in
theorem c_X5_clear {d : Nat} (hd : 2 ≤ d) {σ : MM} {B : BK} {y : Int} (hB : CB σ 1 B) (hW : WB B) (hC : CK σ 0 B (bt 0)) (hy : IR y) : V yX5_clear cX5_clear 2 (some .int) d (QI (fun v σ' => v = q_clear B y ∧ σ' = σ)) 0 [some (vR 0 0), some (vI y)] [] σ := by
  have hs := hW.s
  refine V_aload_0 (pc := 0) dX5_clear_0 ?_
  refine V_iload_1 (pc := 1) dX5_clear_1 ?_
  refine V_callV1p (pc := 2) dX5_clear_2 kv_X5_149 rc_0 (by omega) (d - 1) (by omega) rfl (c_X5_noYear (by omega) hB hs (by omega)) ?_
  refine V_if_eq_b (pc := 5) 13 dX5_clear_5 (by decide) (fun c_5 => ?_) (fun c_5 => ?_)
  · refine V_aload_0 (pc := 13) dX5_clear_13 ?_
    refine V_aload_0 (pc := 14) dX5_clear_14 ?_
    refine V_getc (pc := 15) dX5_clear_15 gf_X5_32 (by omega) ?_
    refine V_iload_1 (pc := 18) dX5_clear_18 ?_
    refine V_callV2p (pc := 19) dX5_clear_19 kv_X5_192 rc_0 (by omega) (d - 1) (by omega) rfl (c_X5_clearBits (by omega) (r := 0) hB hW (by omega) hC (by omega)) ?_
    refine V_iretI (pc := 22) dX5_clear_22 rfl ?_
    exact ⟨_, rfl, by unfold q_clear; (repeat' split) <;> first | rfl | omega, rfl⟩
  · refine V_bipush (pc := 8) dX5_clear_8 (by decide) ?_
    refine V_goto (pc := 10) 22 dX5_clear_10 (by decide) ?_
    refine V_iretI (pc := 22) dX5_clear_22 rfl ?_
    exact ⟨_, rfl, by unfold q_clear; (repeat' split) <;> first | rfl | omega, rfl⟩

set_option maxRecDepth 20000 in
set_option maxHeartbeats 1000000 in
theorem c_X5_all {d : Nat} (hd : 2 ≤ d) {σ : MM} {B : BK} {y : Int} (hB : CB σ 1 B) (hW : WB B) (hC : CK σ 0 B (bt 0)) (hy : IR y) : V yX5_all cX5_all 2 (some .int) d (QI (fun v σ' => v = q_all B y ∧ σ' = σ)) 0 [some (vR 0 0), some (vI y)] [] σ := by
  have hs := hW.s
  refine V_aload_0 (pc := 0) dX5_all_0 ?_
  refine V_iload_1 (pc := 1) dX5_all_1 ?_
  refine V_callV1p (pc := 2) dX5_all_2 kv_X5_149 rc_0 (by omega) (d - 1) (by omega) rfl (c_X5_noYear (by omega) hB hs (by omega)) ?_
  refine V_if_eq_b (pc := 5) 13 dX5_all_5 (by decide) (fun c_5 => ?_) (fun c_5 => ?_)
  · refine V_aload_0 (pc := 13) dX5_all_13 ?_
    refine V_getc (pc := 14) dX5_all_14 gf_X5_32 (by omega) ?_
    refine V_aload_0 (pc := 17) dX5_all_17 ?_
    refine V_getc (pc := 18) dX5_all_18 gf_X5_23 (by omega) ?_
    refine V_iload_1 (pc := 21) dX5_all_21 ?_
    refine V_callV2p (pc := 22) dX5_all_22 kv_X5_196 rc_18 (by omega) (d - 1) (by omega) rfl (c_X2_total (by omega) (T := YS B (bt 0) y.toNat) (by omega) (by omega) hB hW (by omega) (by have := hC y.toNat (by omega); rw [show ((y.toNat : Nat) : Int) = y by omega] at this; exact this)) ?_
    refine V_iretI (pc := 25) dX5_all_25 rfl ?_
    exact ⟨_, rfl, by unfold q_all; (repeat' split) <;> first | rfl | omega, rfl⟩
  · refine V_bipush (pc := 8) dX5_all_8 (by decide) ?_
    refine V_goto (pc := 10) 25 dX5_all_10 (by decide) ?_
    refine V_iretI (pc := 25) dX5_all_25 rfl ?_
    exact ⟨_, rfl, by unfold q_all; (repeat' split) <;> first | rfl | omega, rfl⟩

set_option maxRecDepth 20000 in
set_option maxHeartbeats 1000000 in
theorem c_X5_rising {d : Nat} (hd : 2 ≤ d) {σ : MM} {B : BK} {y : Int} (hB : CB σ 1 B) (hW : WB B) (hC : CK σ 0 B (bt 0)) (hy : IR y) : V yX5_rising cX5_rising 2 (some .int) d (QI (fun v σ' => v = q_rising B y ∧ σ' = σ)) 0 [some (vR 0 0), some (vI y)] [] σ := by
  have hs := hW.s
  refine V_aload_0 (pc := 0) dX5_rising_0 ?_
  refine V_iload_1 (pc := 1) dX5_rising_1 ?_
  refine V_callV1p (pc := 2) dX5_rising_2 kv_X5_149 rc_0 (by omega) (d - 1) (by omega) rfl (c_X5_noYear (by omega) hB hs (by omega)) ?_
  refine V_if_eq_b (pc := 5) 13 dX5_rising_5 (by decide) (fun c_5 => ?_) (fun c_5 => ?_)
  · refine V_aload_0 (pc := 13) dX5_rising_13 ?_
    refine V_getc (pc := 14) dX5_rising_14 gf_X5_32 (by omega) ?_
    refine V_gets (pc := 17) dX5_rising_17 gf_X5_209 (by omega) ?_
    refine V_iload_1 (pc := 20) dX5_rising_20 ?_
    refine V_iald (pc := 21) dX5_rising_21 sh_21 (by omega) (by omega) (hC.ri hs (by omega)) ?_
    refine V_iretI (pc := 22) dX5_rising_22 rfl ?_
    exact ⟨_, rfl, by unfold q_rising; (repeat' split) <;> first | rfl | omega, rfl⟩
  · refine V_bipush (pc := 8) dX5_rising_8 (by decide) ?_
    refine V_goto (pc := 10) 22 dX5_rising_10 (by decide) ?_
    refine V_iretI (pc := 22) dX5_rising_22 rfl ?_
    exact ⟨_, rfl, by unfold q_rising; (repeat' split) <;> first | rfl | omega, rfl⟩

set_option maxRecDepth 20000 in
set_option maxHeartbeats 1000000 in
theorem c_X5_passes {d : Nat} (hd : 5 ≤ d) {σ : MM} {B : BK} {e y : Int} (hB : CB σ 1 B) (hW : WB B) (hC : CK σ 0 B (bt 0)) (he : IR e) (hy : IR y) : V yX5_passes cX5_passes 3 (some .int) d (QI (fun v σ' => v = q_passes B e y ∧ σ' = σ)) 0 [some (vR 0 0), some (vI e), some (vI y)] [] σ := by
  have hs := hW.s
  refine V_aload_0 (pc := 0) dX5_passes_0 ?_
  refine V_iload_1 (pc := 1) dX5_passes_1 ?_
  refine V_callV1p (pc := 2) dX5_passes_2 kv_X5_125 rc_0 (by omega) (d - 1) (by omega) rfl (c_X5_noEntry (by omega) hB hs (by omega)) ?_
  refine V_if_ne_b (pc := 5) 16 dX5_passes_5 (by decide) (fun c_5 => ?_) (fun c_5 => ?_)
  · refine V_bipush (pc := 16) dX5_passes_16 (by decide) ?_
    refine V_goto (pc := 18) 27 dX5_passes_18 (by decide) ?_
    refine V_iretI (pc := 27) dX5_passes_27 rfl ?_
    exact ⟨_, rfl, by unfold q_passes; (repeat' split) <;> first | rfl | omega, rfl⟩
  · refine V_aload_0 (pc := 8) dX5_passes_8 ?_
    refine V_iload_2 (pc := 9) dX5_passes_9 ?_
    refine V_callV1p (pc := 10) dX5_passes_10 kv_X5_149 rc_0 (by omega) (d - 1) (by omega) rfl (c_X5_noYear (by omega) hB hs (by omega)) ?_
    refine V_if_eq_b (pc := 13) 21 dX5_passes_13 (by decide) (fun c_13 => ?_) (fun c_13 => ?_)
    · refine V_aload_0 (pc := 21) dX5_passes_21 ?_
      refine V_iload_1 (pc := 22) dX5_passes_22 ?_
      refine V_iload_2 (pc := 23) dX5_passes_23 ?_
      refine V_callV2p (pc := 24) dX5_passes_24 kv_X5_212 rc_0 (by omega) (d - 1) (by omega) rfl (c_X5_passingInks (by omega) hB hW hC (by omega) (by omega)) ?_
      refine V_iretI (pc := 27) dX5_passes_27 rfl ?_
      exact ⟨_, rfl, by unfold q_passes; (repeat' split) <;> first | rfl | omega, rfl⟩
    · refine V_bipush (pc := 16) dX5_passes_16 (by decide) ?_
      refine V_goto (pc := 18) 27 dX5_passes_18 (by decide) ?_
      refine V_iretI (pc := 27) dX5_passes_27 rfl ?_
      exact ⟨_, rfl, by unfold q_passes; (repeat' split) <;> first | rfl | omega, rfl⟩
