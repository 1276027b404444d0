/-! THE CONSTRUCTORS -/
theorem oi_im : Cond.instanceMethod objectInit ∈ lwG := lwG_of (tb_1 (mem_drop (j := 21) rfl)) (by decide +kernel)
theorem oi_cd : Cond.code objectInit ⟨#[0xb1]⟩ 1 none ∈ lwG := lwG_of (tb_1 (mem_drop (j := 22) rfl)) (by decide +kernel)
theorem ac_int : Cond.arrayClass (newarray.typeOf .int) ∈ lwG := lwG_of (tb_1 (mem_drop (j := 89) rfl)) (by decide +kernel)
theorem ac_long : Cond.arrayClass (newarray.typeOf .long) ∈ lwG := lwG_of (tb_1 (mem_drop (j := 226) rfl)) (by decide +kernel)
theorem ac_byte : Cond.arrayClass (newarray.typeOf .byte) ∈ lwG := lwG_of (tb_1 (mem_drop (j := 57) rfl)) (by decide +kernel)
theorem ac_boolean : Cond.arrayClass (newarray.typeOf .boolean) ∈ lwG := lwG_of (tb_1 (mem_drop (j := 225) rfl)) (by decide +kernel)
def FX0 (ca : FieldType → ClassId) (b : Nat) : Nat → va_E := (eS 0 (.inr (0, (List.set [.ref (b + 1), .ref (b + 2), .ref (b + 3), .int 0] 3 (.int 0)))) (eS 0 (.inr (0, (List.set [.ref (b + 1), .ref (b + 2), .null, .int 0] 2 (.ref (b + 3))))) (eP 3 (.inl (ca .int, (40, .inl (fun _ => 0)))) (eS 0 (.inr (0, (List.set [.ref (b + 1), .null, .null, .int 0] 1 (.ref (b + 2))))) (eP 2 (.inl (ca .int, (40, .inl (fun _ => 0)))) (eS 0 (.inr (0, (List.set [.null, .null, .null, .int 0] 0 (.ref (b + 1))))) (eP 1 (.inl (ca .int, (40, .inl (fun _ => 0)))) (fun _ => .inr (0, [.null, .null, .null, .int 0])))))))))
theorem kc_X0_init : KC yX0_init cX0_init 1 none 0 := ⟨lwG_of (tb_1 (mem_drop (j := 68) rfl)) (by decide +kernel), lwG_of (tb_1 (mem_drop (j := 4) rfl)) (by decide +kernel), by decide +kernel, by decide +kernel, by decide +kernel, by decide +kernel, by decide⟩
set_option maxRecDepth 100000 in
set_option maxHeartbeats 4000000 in
theorem mk_X0 (l : Launch) : MK l yX0_init cX0_init 1 1 0 4 120 [.null, .null, .null, .int 0] FX0 := by
  refine MK.of (by decide +kernel) rfl (by decide) ?_
  intro p e R s m args below meth c D ca b ls hRf hRl hRc hRs hr hlocks hin hs0 C G hl
  have hb0 : b ≤ s.heap.size := by omega
  refine lv_aload_n C.x C.cd dX0_init_0 rfl (lv_at hl 0 rfl) ?_
  refine W.objInit C.x C.cd C.ow (C.ts (.methodLink RX0 3 objectInit) (lwG_of (tb_1 (mem_drop (j := 69) rfl)) (by decide +kernel))) (C.ts _ oi_im) (C.ts _ oi_cd) rfl (by rw [C.ml]; exact hl.1) rfl dX0_init_1 (by rw [hRf]; decide) (by rw [hRl]; exact Nat.le_of_ble_eq_true rfl) ?_
  refine W.eq (g2 := F0 m 4 ls []) rfl ?_
  refine lv_aload_n C.x C.cd dX0_init_4 rfl (lv_at hl 0 rfl) ?_
  refine lv_bipush (v := 40) C.x C.cd dX0_init_5 (by decide) ?_
  refine G_newa (atype := .int) (ty := .int) (t0 := 0) (a0 := (40, .inl (fun _ => 0))) (N := 40) C G hb0 (by omega) rfl rfl ac_int (fun _ => rfl) (by decide) rfl (Nat.le_of_ble_eq_true rfl) (by rw [hRc]; exact Nat.le_of_ble_eq_true rfl) (by rw [hRs]; exact Nat.le_of_ble_eq_true rfl) dX0_init_7 (fun H1 G => ?_)
  replace G : GH D b 2 _ s H1 _ := G
  refine G_putF (ci := 0) (j := 0) (T := TX0) (N := 4) (ty0 := tyX0) (fs := [.null, .null, .null, .int 0]) (v := .ref (b + 1)) (ty := (.array .int)) C hin G (by decide) (by omega) rfl inG0 tyX0_ok nmX0 rfl (by decide) (lwG_of (tb_1 (mem_drop (j := 70) rfl)) (by decide +kernel)) rfl rfl (by decide +kernel) rfl rfl (Nat.le_of_ble_eq_true rfl) dX0_init_9 (fun H1 locs1 G => ?_)
  refine lv_aload_n C.x C.cd dX0_init_12 rfl (lv_at hl 0 rfl) ?_
  refine lv_bipush (v := 40) C.x C.cd dX0_init_13 (by decide) ?_
  refine G_newa (atype := .int) (ty := .int) (t0 := 0) (a0 := (40, .inl (fun _ => 0))) (N := 40) C G hb0 (by omega) rfl rfl ac_int (fun _ => rfl) (by decide) rfl (Nat.le_of_ble_eq_true rfl) (by rw [hRc]; exact Nat.le_of_ble_eq_true rfl) (by rw [hRs]; exact Nat.le_of_ble_eq_true rfl) dX0_init_15 (fun H1 G => ?_)
  replace G : GH D b 3 _ s H1 _ := G
  refine G_putF (ci := 0) (j := 1) (T := TX0) (N := 4) (ty0 := tyX0) (fs := [.ref (b + 1), .null, .null, .int 0]) (v := .ref (b + 2)) (ty := (.array .int)) C hin G (by decide) (by omega) rfl inG0 tyX0_ok nmX0 rfl (by decide) (lwG_of (tb_1 (mem_drop (j := 72) rfl)) (by decide +kernel)) rfl rfl (by decide +kernel) rfl rfl (Nat.le_of_ble_eq_true rfl) dX0_init_17 (fun H1 locs1 G => ?_)
  refine lv_aload_n C.x C.cd dX0_init_20 rfl (lv_at hl 0 rfl) ?_
  refine lv_bipush (v := 40) C.x C.cd dX0_init_21 (by decide) ?_
  refine G_newa (atype := .int) (ty := .int) (t0 := 0) (a0 := (40, .inl (fun _ => 0))) (N := 40) C G hb0 (by omega) rfl rfl ac_int (fun _ => rfl) (by decide) rfl (Nat.le_of_ble_eq_true rfl) (by rw [hRc]; exact Nat.le_of_ble_eq_true rfl) (by rw [hRs]; exact Nat.le_of_ble_eq_true rfl) dX0_init_23 (fun H1 G => ?_)
  replace G : GH D b 4 _ s H1 _ := G
  refine G_putF (ci := 0) (j := 2) (T := TX0) (N := 4) (ty0 := tyX0) (fs := [.ref (b + 1), .ref (b + 2), .null, .int 0]) (v := .ref (b + 3)) (ty := (.array .int)) C hin G (by decide) (by omega) rfl inG0 tyX0_ok nmX0 rfl (by decide) (lwG_of (tb_1 (mem_drop (j := 74) rfl)) (by decide +kernel)) rfl rfl (by decide +kernel) rfl rfl (Nat.le_of_ble_eq_true rfl) dX0_init_25 (fun H1 locs1 G => ?_)
  refine lv_aload_n C.x C.cd dX0_init_28 rfl (lv_at hl 0 rfl) ?_
  refine lv_iconst (v := 0) C.x C.cd dX0_init_29 (by decide) ?_
  refine G_put (ci := 0) (j := 3) (T := TX0) (N := 4) (ty0 := tyX0) (fs := [.ref (b + 1), .ref (b + 2), .ref (b + 3), .int 0]) (v := .int 0) (ty := .int) C G (by decide) (by omega) rfl inG0 tyX0_ok nmX0 rfl (by decide) (lwG_of (tb_1 (mem_drop (j := 76) rfl)) (by decide +kernel)) rfl (by decide +kernel) rfl rfl (Nat.le_of_ble_eq_true rfl) dX0_init_30 (fun H1 locs1 G => ?_)
  refine W.widen (k := 3) (n := 120) (Nat.le_of_ble_eq_true rfl) (Nat.le_of_ble_eq_true rfl) ?_
  exact W.vret C.x C.cd hr (fun t ht hW => ⟨⟨(), rfl, trivial, by rw [ht]; exact G.2.2, fun i hi => by rw [ht]; exact WL_at G.1 hi⟩, G.2.1.F ht⟩) G.2.1.2.2 dX0_init_33

def FX3 (ca : FieldType → ClassId) (b : Nat) : Nat → va_E := (eS 0 (.inr (3, (List.set [.ref (b + 1), .int 0, .int 0, .int (-1), .int 0, .int 0, .int 0, .int 0] 7 (.int 0)))) (eS 0 (.inr (3, (List.set [.ref (b + 1), .int 0, .int 0, .int (-1), .int 0, .int 0, .int 0, .int 0] 6 (.int 0)))) (eS 0 (.inr (3, (List.set [.ref (b + 1), .int 0, .int 0, .int (-1), .int 0, .int 0, .int 0, .int 0] 5 (.int 0)))) (eS 0 (.inr (3, (List.set [.ref (b + 1), .int 0, .int 0, .int (-1), .int 0, .int 0, .int 0, .int 0] 4 (.int 0)))) (eS 0 (.inr (3, (List.set [.ref (b + 1), .int 0, .int 0, .int 0, .int 0, .int 0, .int 0, .int 0] 3 (.int (-1))))) (eS 0 (.inr (3, (List.set [.ref (b + 1), .int 0, .int 0, .int 0, .int 0, .int 0, .int 0, .int 0] 2 (.int 0)))) (eS 0 (.inr (3, (List.set [.ref (b + 1), .int 0, .int 0, .int 0, .int 0, .int 0, .int 0, .int 0] 1 (.int 0)))) (eS 0 (.inr (3, (List.set [.null, .int 0, .int 0, .int 0, .int 0, .int 0, .int 0, .int 0] 0 (.ref (b + 1))))) (eP 1 (.inl (ca .byte, (700, .inl (fun _ => 0)))) (fun _ => .inr (3, [.null, .int 0, .int 0, .int 0, .int 0, .int 0, .int 0, .int 0])))))))))))
theorem kc_X3_init : KC yX3_init cX3_init 1 none 0 := ⟨lwG_of (tb_1 (mem_drop (j := 27) rfl)) (by decide +kernel), lwG_of (tb_1 (mem_drop (j := 2) rfl)) (by decide +kernel), by decide +kernel, by decide +kernel, by decide +kernel, by decide +kernel, by decide⟩
set_option maxRecDepth 100000 in
set_option maxHeartbeats 4000000 in
theorem mk_X3 (l : Launch) : MK l yX3_init cX3_init 1 1 3 2 700 [.null, .int 0, .int 0, .int 0, .int 0, .int 0, .int 0, .int 0] FX3 := by
  refine MK.of (by decide +kernel) rfl (by decide) ?_
  intro p e R s m args below meth c D ca b ls hRf hRl hRc hRs hr hlocks hin hs0 C G hl
  have hb0 : b ≤ s.heap.size := by omega
  refine lv_aload_n C.x C.cd dX3_init_0 rfl (lv_at hl 0 rfl) ?_
  refine W.objInit C.x C.cd C.ow (C.ts (.methodLink RX3 3 objectInit) (lwG_of (tb_1 (mem_drop (j := 28) rfl)) (by decide +kernel))) (C.ts _ oi_im) (C.ts _ oi_cd) rfl (by rw [C.ml]; exact hl.1) rfl dX3_init_1 (by rw [hRf]; decide) (by rw [hRl]; exact Nat.le_of_ble_eq_true rfl) ?_
  refine W.eq (g2 := F0 m 4 ls []) rfl ?_
  refine lv_aload_n C.x C.cd dX3_init_4 rfl (lv_at hl 0 rfl) ?_
  refine lv_sipush (v := 700) C.x C.cd dX3_init_5 (by decide) ?_
  refine G_newa (atype := .byte) (ty := .byte) (t0 := 2) (a0 := (700, .inl (fun _ => 0))) (N := 700) C G hb0 (by omega) rfl rfl ac_byte (fun _ => rfl) (by decide) rfl (Nat.le_of_ble_eq_true rfl) (by rw [hRc]; exact Nat.le_of_ble_eq_true rfl) (by rw [hRs]; exact Nat.le_of_ble_eq_true rfl) dX3_init_8 (fun H1 G => ?_)
  replace G : GH D b 2 _ s H1 _ := G
  refine G_putF (ci := 3) (j := 0) (T := TX3) (N := 8) (ty0 := tyX3) (fs := [.null, .int 0, .int 0, .int 0, .int 0, .int 0, .int 0, .int 0]) (v := .ref (b + 1)) (ty := (.array .byte)) C hin G (by decide) (by omega) rfl inG3 tyX3_ok nmX3 rfl (by decide) (lwG_of (tb_1 (mem_drop (j := 29) rfl)) (by decide +kernel)) rfl rfl (by decide +kernel) rfl rfl (Nat.le_of_ble_eq_true rfl) dX3_init_10 (fun H1 locs1 G => ?_)
  refine lv_aload_n C.x C.cd dX3_init_13 rfl (lv_at hl 0 rfl) ?_
  refine lv_iconst (v := 0) C.x C.cd dX3_init_14 (by decide) ?_
  refine G_put (ci := 3) (j := 1) (T := TX3) (N := 8) (ty0 := tyX3) (fs := [.ref (b + 1), .int 0, .int 0, .int 0, .int 0, .int 0, .int 0, .int 0]) (v := .int 0) (ty := .int) C G (by decide) (by omega) rfl inG3 tyX3_ok nmX3 rfl (by decide) (lwG_of (tb_1 (mem_drop (j := 30) rfl)) (by decide +kernel)) rfl (by decide +kernel) rfl rfl (Nat.le_of_ble_eq_true rfl) dX3_init_15 (fun H1 locs1 G => ?_)
  refine lv_aload_n C.x C.cd dX3_init_18 rfl (lv_at hl 0 rfl) ?_
  refine lv_iconst (v := 0) C.x C.cd dX3_init_19 (by decide) ?_
  refine G_put (ci := 3) (j := 2) (T := TX3) (N := 8) (ty0 := tyX3) (fs := [.ref (b + 1), .int 0, .int 0, .int 0, .int 0, .int 0, .int 0, .int 0]) (v := .int 0) (ty := .int) C G (by decide) (by omega) rfl inG3 tyX3_ok nmX3 rfl (by decide) (lwG_of (tb_1 (mem_drop (j := 32) rfl)) (by decide +kernel)) rfl (by decide +kernel) rfl rfl (Nat.le_of_ble_eq_true rfl) dX3_init_20 (fun H1 locs1 G => ?_)
  refine lv_aload_n C.x C.cd dX3_init_23 rfl (lv_at hl 0 rfl) ?_
  refine lv_iconst (v := (-1)) C.x C.cd dX3_init_24 (by decide) ?_
  refine G_put (ci := 3) (j := 3) (T := TX3) (N := 8) (ty0 := tyX3) (fs := [.ref (b + 1), .int 0, .int 0, .int 0, .int 0, .int 0, .int 0, .int 0]) (v := .int (-1)) (ty := .int) C G (by decide) (by omega) rfl inG3 tyX3_ok nmX3 rfl (by decide) (lwG_of (tb_1 (mem_drop (j := 34) rfl)) (by decide +kernel)) rfl (by decide +kernel) rfl rfl (Nat.le_of_ble_eq_true rfl) dX3_init_25 (fun H1 locs1 G => ?_)
  refine lv_aload_n C.x C.cd dX3_init_28 rfl (lv_at hl 0 rfl) ?_
  refine lv_iconst (v := 0) C.x C.cd dX3_init_29 (by decide) ?_
  refine G_put (ci := 3) (j := 4) (T := TX3) (N := 8) (ty0 := tyX3) (fs := [.ref (b + 1), .int 0, .int 0, .int (-1), .int 0, .int 0, .int 0, .int 0]) (v := .int 0) (ty := .int) C G (by decide) (by omega) rfl inG3 tyX3_ok nmX3 rfl (by decide) (lwG_of (tb_1 (mem_drop (j := 36) rfl)) (by decide +kernel)) rfl (by decide +kernel) rfl rfl (Nat.le_of_ble_eq_true rfl) dX3_init_30 (fun H1 locs1 G => ?_)
  refine lv_aload_n C.x C.cd dX3_init_33 rfl (lv_at hl 0 rfl) ?_
  refine lv_iconst (v := 0) C.x C.cd dX3_init_34 (by decide) ?_
  refine G_put (ci := 3) (j := 5) (T := TX3) (N := 8) (ty0 := tyX3) (fs := [.ref (b + 1), .int 0, .int 0, .int (-1), .int 0, .int 0, .int 0, .int 0]) (v := .int 0) (ty := .int) C G (by decide) (by omega) rfl inG3 tyX3_ok nmX3 rfl (by decide) (lwG_of (tb_1 (mem_drop (j := 37) rfl)) (by decide +kernel)) rfl (by decide +kernel) rfl rfl (Nat.le_of_ble_eq_true rfl) dX3_init_35 (fun H1 locs1 G => ?_)
  refine lv_aload_n C.x C.cd dX3_init_38 rfl (lv_at hl 0 rfl) ?_
  refine lv_iconst (v := 0) C.x C.cd dX3_init_39 (by decide) ?_
  refine G_put (ci := 3) (j := 6) (T := TX3) (N := 8) (ty0 := tyX3) (fs := [.ref (b + 1), .int 0, .int 0, .int (-1), .int 0, .int 0, .int 0, .int 0]) (v := .int 0) (ty := .int) C G (by decide) (by omega) rfl inG3 tyX3_ok nmX3 rfl (by decide) (lwG_of (tb_1 (mem_drop (j := 38) rfl)) (by decide +kernel)) rfl (by decide +kernel) rfl rfl (Nat.le_of_ble_eq_true rfl) dX3_init_40 (fun H1 locs1 G => ?_)
  refine lv_aload_n C.x C.cd dX3_init_43 rfl (lv_at hl 0 rfl) ?_
  refine lv_iconst (v := 0) C.x C.cd dX3_init_44 (by decide) ?_
  refine G_put (ci := 3) (j := 7) (T := TX3) (N := 8) (ty0 := tyX3) (fs := [.ref (b + 1), .int 0, .int 0, .int (-1), .int 0, .int 0, .int 0, .int 0]) (v := .int 0) (ty := .int) C G (by decide) (by omega) rfl inG3 tyX3_ok nmX3 rfl (by decide) (lwG_of (tb_1 (mem_drop (j := 39) rfl)) (by decide +kernel)) rfl (by decide +kernel) rfl rfl (Nat.le_of_ble_eq_true rfl) dX3_init_45 (fun H1 locs1 G => ?_)
  refine W.widen (k := 1) (n := 700) (Nat.le_of_ble_eq_true rfl) (Nat.le_of_ble_eq_true rfl) ?_
  exact W.vret C.x C.cd hr (fun t ht hW => ⟨⟨(), rfl, trivial, by rw [ht]; exact G.2.2, fun i hi => by rw [ht]; exact WL_at G.1 hi⟩, G.2.1.F ht⟩) G.2.1.2.2 dX3_init_48

def FX4 (ca : FieldType → ClassId) (b : Nat) : Nat → va_E := (eS 0 (.inr (4, (List.set [.ref (b + 1), .int 0, .int 0, .int 0] 3 (.int 0)))) (eS 0 (.inr (4, (List.set [.ref (b + 1), .int 0, .int 0, .int 0] 2 (.int 0)))) (eS 0 (.inr (4, (List.set [.ref (b + 1), .int 0, .int 0, .int 0] 1 (.int 0)))) (eS 0 (.inr (4, (List.set [.null, .int 0, .int 0, .int 0] 0 (.ref (b + 1))))) (eP 1 (.inl (ca .long, (60, .inr (.inl (fun _ => 0))))) (fun _ => .inr (4, [.null, .int 0, .int 0, .int 0])))))))
theorem kc_X4_init : KC yX4_init cX4_init 1 none 0 := ⟨lwG_of (tb_1 (mem_drop (j := 206) rfl)) (by decide +kernel), lwG_of (tb_1 (mem_drop (j := 6) rfl)) (by decide +kernel), by decide +kernel, by decide +kernel, by decide +kernel, by decide +kernel, by decide⟩
set_option maxRecDepth 100000 in
set_option maxHeartbeats 4000000 in
theorem mk_X4 (l : Launch) : MK l yX4_init cX4_init 1 1 4 2 60 [.null, .int 0, .int 0, .int 0] FX4 := by
  refine MK.of (by decide +kernel) rfl (by decide) ?_
  intro p e R s m args below meth c D ca b ls hRf hRl hRc hRs hr hlocks hin hs0 C G hl
  have hb0 : b ≤ s.heap.size := by omega
  refine lv_aload_n C.x C.cd dX4_init_0 rfl (lv_at hl 0 rfl) ?_
  refine W.objInit C.x C.cd C.ow (C.ts (.methodLink RX4 3 objectInit) (lwG_of (tb_1 (mem_drop (j := 207) rfl)) (by decide +kernel))) (C.ts _ oi_im) (C.ts _ oi_cd) rfl (by rw [C.ml]; exact hl.1) rfl dX4_init_1 (by rw [hRf]; decide) (by rw [hRl]; exact Nat.le_of_ble_eq_true rfl) ?_
  refine W.eq (g2 := F0 m 4 ls []) rfl ?_
  refine lv_aload_n C.x C.cd dX4_init_4 rfl (lv_at hl 0 rfl) ?_
  refine lv_bipush (v := 60) C.x C.cd dX4_init_5 (by decide) ?_
  refine G_newa (atype := .long) (ty := .long) (t0 := 1) (a0 := (60, .inr (.inl (fun _ => 0)))) (N := 60) C G hb0 (by omega) rfl rfl ac_long (fun _ => rfl) (by decide) rfl (Nat.le_of_ble_eq_true rfl) (by rw [hRc]; exact Nat.le_of_ble_eq_true rfl) (by rw [hRs]; exact Nat.le_of_ble_eq_true rfl) dX4_init_7 (fun H1 G => ?_)
  replace G : GH D b 2 _ s H1 _ := G
  refine G_putF (ci := 4) (j := 0) (T := TX4) (N := 4) (ty0 := tyX4) (fs := [.null, .int 0, .int 0, .int 0]) (v := .ref (b + 1)) (ty := (.array .long)) C hin G (by decide) (by omega) rfl inG4 tyX4_ok nmX4 rfl (by decide) (lwG_of (tb_1 (mem_drop (j := 208) rfl)) (by decide +kernel)) rfl rfl (by decide +kernel) rfl rfl (Nat.le_of_ble_eq_true rfl) dX4_init_9 (fun H1 locs1 G => ?_)
  refine lv_aload_n C.x C.cd dX4_init_12 rfl (lv_at hl 0 rfl) ?_
  refine lv_iconst (v := 0) C.x C.cd dX4_init_13 (by decide) ?_
  refine G_put (ci := 4) (j := 1) (T := TX4) (N := 4) (ty0 := tyX4) (fs := [.ref (b + 1), .int 0, .int 0, .int 0]) (v := .int 0) (ty := .boolean) C G (by decide) (by omega) rfl inG4 tyX4_ok nmX4 rfl (by decide) (lwG_of (tb_1 (mem_drop (j := 210) rfl)) (by decide +kernel)) rfl (by decide +kernel) rfl rfl (Nat.le_of_ble_eq_true rfl) dX4_init_14 (fun H1 locs1 G => ?_)
  refine lv_aload_n C.x C.cd dX4_init_17 rfl (lv_at hl 0 rfl) ?_
  refine lv_iconst (v := 0) C.x C.cd dX4_init_18 (by decide) ?_
  refine G_put (ci := 4) (j := 2) (T := TX4) (N := 4) (ty0 := tyX4) (fs := [.ref (b + 1), .int 0, .int 0, .int 0]) (v := .int 0) (ty := .int) C G (by decide) (by omega) rfl inG4 tyX4_ok nmX4 rfl (by decide) (lwG_of (tb_1 (mem_drop (j := 212) rfl)) (by decide +kernel)) rfl (by decide +kernel) rfl rfl (Nat.le_of_ble_eq_true rfl) dX4_init_19 (fun H1 locs1 G => ?_)
  refine lv_aload_n C.x C.cd dX4_init_22 rfl (lv_at hl 0 rfl) ?_
  refine lv_iconst (v := 0) C.x C.cd dX4_init_23 (by decide) ?_
  refine G_put (ci := 4) (j := 3) (T := TX4) (N := 4) (ty0 := tyX4) (fs := [.ref (b + 1), .int 0, .int 0, .int 0]) (v := .int 0) (ty := .int) C G (by decide) (by omega) rfl inG4 tyX4_ok nmX4 rfl (by decide) (lwG_of (tb_1 (mem_drop (j := 214) rfl)) (by decide +kernel)) rfl (by decide +kernel) rfl rfl (Nat.le_of_ble_eq_true rfl) dX4_init_24 (fun H1 locs1 G => ?_)
  refine W.widen (k := 1) (n := 60) (Nat.le_of_ble_eq_true rfl) (Nat.le_of_ble_eq_true rfl) ?_
  exact W.vret C.x C.cd hr (fun t ht hW => ⟨⟨(), rfl, trivial, by rw [ht]; exact G.2.2, fun i hi => by rw [ht]; exact WL_at G.1 hi⟩, G.2.1.F ht⟩) G.2.1.2.2 dX4_init_27

