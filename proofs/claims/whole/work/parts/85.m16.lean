/-! THE REFERENCE reads lines -/
theorem COD_e0 : (50717 : Int) = COD 0 := COD_v.1.symm
theorem COD_e1 : (6950 : Int) = COD 1 := COD_v.2.1.symm
theorem COD_e2 : (315851 : Int) = COD 2 := COD_v.2.2.1.symm
theorem COD_e3 : (2947858 : Int) = COD 3 := COD_v.2.2.2.1.symm
theorem COD_e4 : (13385674 : Int) = COD 4 := COD_v.2.2.2.2.1.symm
theorem COD_e5 : (8798 : Int) = COD 5 := COD_v.2.2.2.2.2.1.symm
theorem COD_e6 : (298288 : Int) = COD 6 := COD_v.2.2.2.2.2.2.1.symm
theorem COD_e7 : (361373 : Int) = COD 7 := COD_v.2.2.2.2.2.2.2.1.symm
theorem COD_e8 : (15001 : Int) = COD 8 := COD_v.2.2.2.2.2.2.2.2.1.symm
theorem COD_e9 : (118940 : Int) = COD 9 := COD_v.2.2.2.2.2.2.2.2.2.1.symm
theorem COD_e10 : (79828 : Int) = COD 10 := COD_v.2.2.2.2.2.2.2.2.2.2.1.symm
theorem COD_e11 : (419 : Int) = COD 11 := COD_v.2.2.2.2.2.2.2.2.2.2.2.1.symm
theorem COD_e12 : (257 : Int) = COD 12 := COD_v.2.2.2.2.2.2.2.2.2.2.2.2.1.symm
theorem COD_e13 : (12588917 : Int) = COD 13 := COD_v.2.2.2.2.2.2.2.2.2.2.2.2.2.1.symm
theorem COD_e14 : (375400 : Int) = COD 14 := COD_v.2.2.2.2.2.2.2.2.2.2.2.2.2.2.symm
theorem MB_if {σ : MM} {c : Prop} [Decidable c] {A B : BK} (h : c) (hm : MB σ 4 A) : MB σ 4 (if c then A else B) := by rw [if_pos h]; exact hm
theorem WRD_ne {T : Int → Int} {n p : Int} {v w : Nat} (hp : 0 ≤ p ∧ p ≤ n) (hv : v < 15) (hw : w < 15) (hc : COD v ≠ COD w) (h : WRD T n p v) : ¬ WRD T n p w := fun q => hc (((WC_wrd hp hv h.1).mpr h).symm.trans ((WC_wrd hp hw h.1).mpr q))
def RMS (T : Int → Int) (n p b x m : Int) : Int × Int := if b = 1 then (if x = m then (3, TS T n p) else (0, TE T n p)) else (0, p)
theorem RMS_1 {T : Int → Int} {n p b x m : Int} (h : b ≠ 1) : RMS T n p b x m = (0, p) := if_neg h
theorem RMS_2 {T : Int → Int} {n p b x m : Int} (h : b = 1) (h2 : x = m) : RMS T n p b x m = (3, TS T n p) := by unfold RMS; rw [if_pos h, if_pos h2]
theorem RMS_3 {T : Int → Int} {n p b x m : Int} (h : b = 1) (h2 : x ≠ m) : RMS T n p b x m = (0, TE T n p) := by unfold RMS; rw [if_pos h, if_neg h2]

set_option maxRecDepth 20000 in
set_option maxHeartbeats 1000000 in
theorem c_X6_inkLine {d : Nat} (hd : 5 ≤ d) {σ : MM} {T : Int → Int} {n : Int} {s : Int × Int} {B : BK} (hT : TPE σ T n) (hn : 0 ≤ n ∧ n ≤ 700) (hTr : ∀ x : Int, 0 ≤ x ∧ x < n → -128 ≤ T x ∧ T x ≤ 127) (hR : RSM σ T n s) (hM : MB σ 4 B) (hD : DB B) (h4 : B 4 0 < 4) : V yX6_inkLine cX6_inkLine 2 none d (QZ (fun σ' => RSM σ' T n (NBF T n 9 0 9 (NBF T n 8 1 60 (NBF T n 7 1 20 s).1).1).1 ∧ ((NBF T n 9 0 9 (NBF T n 8 1 60 (NBF T n 7 1 20 s).1).1).1.1 = 0 → MB σ' 4 (iB B (NBF T n 7 1 20 s).2 (NBF T n 8 1 60 (NBF T n 7 1 20 s).1).2 (NBF T n 9 0 9 (NBF T n 8 1 60 (NBF T n 7 1 20 s).1).1).2)) ∧ OffL σ σ')) 0 [some (vR 34 0), none] [] σ := by
  have hR1 := hR.2.1
  have hR2 := hR.2.2.1
  have hS := TS_in (T := T) hR2
  have hE := TE_in (T := T) hR2
  have hs := hD.1.s
  refine V_iconst (pc := 0) dX6_inkLine_0 ?_
  refine V_bipush (pc := 1) dX6_inkLine_1 (by decide) ?_
  refine V_aload_0 (pc := 3) dX6_inkLine_3 ?_
  refine V_iconst (pc := 4) dX6_inkLine_4 ?_
  refine V_callV1p (pc := 5) dX6_inkLine_5 kv_X6_156 rc_34 (by omega) (d - 1) (by omega) rfl (c_X6_hasRead (by omega) (x := B 4 0) (by omega) (hM.r3.1)) ?_
  refine V_iadd (pc := 8) dX6_inkLine_8 ?_
  refine V_imul (pc := 9) dX6_inkLine_9 ?_
  refine V_istore_1 (pc := 10) dX6_inkLine_10 ?_
  refine V_aload_0 (pc := 11) dX6_inkLine_11 ?_
  refine V_getc (pc := 12) dX6_inkLine_12 gf_X6_37 (by omega) ?_
  refine V_iload_1 (pc := 15) dX6_inkLine_15 ?_
  refine V_aload_0 (pc := 16) dX6_inkLine_16 ?_
  refine V_ldc2 (pc := 17) dX6_inkLine_17 (z := 361373) ldc_X6_160 ?_
  refine V_iconst (pc := 20) dX6_inkLine_20 ?_
  refine V_bipush (pc := 21) dX6_inkLine_21 (by decide) ?_
  refine V_callV3i (pc := 23) dX6_inkLine_23 kv_X6_162 rc_34 (by omega) (d - 1) (by omega) rfl (c_X6_number_ (by omega) hT hn hTr hR (w := 7) (by decide) COD_e7 (by omega) (by omega) (by omega)) (fun v_23 σ_23 h_23 => ?_)
  refine V_iast (pc := 26) dX6_inkLine_26 sh_42 (by omega) (by omega) ?_
  have o1 : OffL σ (setI σ_23 42 0 (3 * (16 + B 4 0)) v_23) := h_23.2.2.l.tr (OffL.set (by unfold ISL; omega))
  refine V_aload_0 (pc := 27) dX6_inkLine_27 ?_
  refine V_getc (pc := 28) dX6_inkLine_28 gf_X6_37 (by omega) ?_
  refine V_iload_1 (pc := 31) dX6_inkLine_31 ?_
  refine V_iconst (pc := 32) dX6_inkLine_32 ?_
  refine V_iadd (pc := 33) dX6_inkLine_33 ?_
  refine V_aload_0 (pc := 34) dX6_inkLine_34 ?_
  refine V_ldc2 (pc := 35) dX6_inkLine_35 (z := 15001) ldc_X6_165 ?_
  refine V_iconst (pc := 38) dX6_inkLine_38 ?_
  refine V_bipush (pc := 39) dX6_inkLine_39 (by decide) ?_
  refine V_callV3i (pc := 41) dX6_inkLine_41 kv_X6_162 rc_34 (by omega) (d - 1) (by omega) rfl (c_X6_number_ (by omega) (o1.tpe hT) hn hTr (h_23.2.1.set (by decide)) (w := 8) (by decide) COD_e8 (by omega) (by omega) (by omega)) (fun v_41 σ_41 h_41 => ?_)
  refine V_iast (pc := 44) dX6_inkLine_44 sh_42 (by omega) (by omega) ?_
  have o2 : OffL σ (setI σ_41 42 0 (3 * (16 + B 4 0) + 1) v_41) := o1.tr (h_41.2.2.l.tr (OffL.set (by unfold ISL; omega)))
  refine V_aload_0 (pc := 45) dX6_inkLine_45 ?_
  refine V_getc (pc := 46) dX6_inkLine_46 gf_X6_37 (by omega) ?_
  refine V_iload_1 (pc := 49) dX6_inkLine_49 ?_
  refine V_iconst (pc := 50) dX6_inkLine_50 ?_
  refine V_iadd (pc := 51) dX6_inkLine_51 ?_
  refine V_aload_0 (pc := 52) dX6_inkLine_52 ?_
  refine V_ldc2 (pc := 53) dX6_inkLine_53 (z := 118940) ldc_X6_167 ?_
  refine V_iconst (pc := 56) dX6_inkLine_56 ?_
  refine V_bipush (pc := 57) dX6_inkLine_57 (by decide) ?_
  refine V_callV3i (pc := 59) dX6_inkLine_59 kv_X6_162 rc_34 (by omega) (d - 1) (by omega) rfl (c_X6_number_ (by omega) (o2.tpe hT) hn hTr (h_41.2.1.set (by decide)) (w := 9) (by decide) COD_e9 (by omega) (by omega) (by omega)) (fun v_59 σ_59 h_59 => ?_)
  refine V_iast (pc := 62) dX6_inkLine_62 sh_42 (by omega) (by omega) ?_
  have o3 : OffL σ (setI σ_59 42 0 (3 * (16 + B 4 0) + 2) v_59) := o2.tr (h_59.2.2.l.tr (OffL.set (by unfold ISL; omega)))
  refine V_aload_0 (pc := 63) dX6_inkLine_63 ?_
  refine V_iconst (pc := 64) dX6_inkLine_64 ?_
  refine V_aload_0 (pc := 65) dX6_inkLine_65 ?_
  refine V_iconst (pc := 66) dX6_inkLine_66 ?_
  refine V_callV1p (pc := 67) dX6_inkLine_67 kv_X6_156 rc_34 (by omega) (d - 1) (by omega) rfl (c_X6_hasRead (by omega) (x := B 4 0) (by omega) (by rw [setI_tag (by decide), OffG_x h_59.2.2 (by decide), setI_tag (by decide), OffG_x h_41.2.2 (by decide), setI_tag (by decide), OffG_x h_23.2.2 (by decide)]; exact hM.r3.1)) ?_
  refine V_iconst (pc := 70) dX6_inkLine_70 ?_
  refine V_iadd (pc := 71) dX6_inkLine_71 ?_
  refine V_callV2z (pc := 72) dX6_inkLine_72 kv_X6_169 rc_34 (by omega) (d - 1) (by omega) rfl (c_X6_tells (by omega) (by omega)) (fun σ_72 h_72 => ?_)
  subst h_72
  refine V_vret (pc := 75) dX6_inkLine_75 rfl ?_
  refine ⟨rfl, (h_59.2.1.set (by decide)).set (by decide), fun q3 => ?_, o3.tr (OffL.set (by unfold ISL; omega))⟩
  have q2 := ((NBF_in (T := T) (n := n) (lo := 0) (hi := 9) (w := 9) h_41.2.1.2.2.1 h_41.2.1.2.1).2.2 q3).2.2.1
  have q1 := ((NBF_in (T := T) (n := n) (lo := 1) (hi := 60) (w := 8) h_23.2.1.2.2.1 h_23.2.1.2.1).2.2 q2).2.2.1
  refine MB4.ink hM hD (fun t x a b c => ?_) (setI_same _ _ _ _ _) ?_ ?_ ?_
  · rw [setI_at, if_neg (by omega), setI_at, if_neg (by omega), h_59.2.2 t 0 x (by omega), setI_at, if_neg (by omega), h_41.2.2 t 0 x (by omega), setI_at, if_neg (by omega), h_23.2.2 t 0 x (by omega)]
  · rw [setI_at, if_neg (by omega), setI_at, if_neg (by omega), h_59.2.2 42 0 _ (by omega), setI_at, if_neg (by omega), h_41.2.2 42 0 _ (by omega), setI_same]; exact h_23.1 q1
  · rw [setI_at, if_neg (by omega), setI_at, if_neg (by omega), h_59.2.2 42 0 _ (by omega), setI_same]; exact h_41.1 q2
  · rw [setI_at, if_neg (by omega), setI_same]; exact h_59.1 q3

set_option maxRecDepth 20000 in
set_option maxHeartbeats 1000000 in
theorem c_X6_entryLine {d : Nat} (hd : 5 ≤ d) {σ : MM} {T : Int → Int} {n : Int} {s : Int × Int} {B : BK} (hT : TPE σ T n) (hn : 0 ≤ n ∧ n ≤ 700) (hTr : ∀ x : Int, 0 ≤ x ∧ x < n → -128 ≤ T x ∧ T x ≤ 127) (hR : RSM σ T n s) (hM : MB σ 4 B) (hD : DB B) (h6 : B 6 0 < 7) : V yX6_entryLine cX6_entryLine 2 none d (QZ (fun σ' => RSM σ' T n (NBF T n 14 0 20 (NBF T n 13 0 20 (NBF T n 12 0 (B 4 0 - 1) (NBF T n 11 0 (B 5 0 - 1) s).1).1).1).1 ∧ ((NBF T n 14 0 20 (NBF T n 13 0 20 (NBF T n 12 0 (B 4 0 - 1) (NBF T n 11 0 (B 5 0 - 1) s).1).1).1).1.1 = 0 → MB σ' 4 (eB B (NBF T n 11 0 (B 5 0 - 1) s).2 (NBF T n 12 0 (B 4 0 - 1) (NBF T n 11 0 (B 5 0 - 1) s).1).2 (NBF T n 13 0 20 (NBF T n 12 0 (B 4 0 - 1) (NBF T n 11 0 (B 5 0 - 1) s).1).1).2 (NBF T n 14 0 20 (NBF T n 13 0 20 (NBF T n 12 0 (B 4 0 - 1) (NBF T n 11 0 (B 5 0 - 1) s).1).1).1).2)) ∧ OffL σ σ')) 0 [some (vR 34 0), none] [] σ := by
  have hR1 := hR.2.1
  have hR2 := hR.2.2.1
  have hS := TS_in (T := T) hR2
  have hE := TE_in (T := T) hR2
  have hs := hD.1.s
  refine V_iconst (pc := 0) dX6_entryLine_0 ?_
  refine V_bipush (pc := 1) dX6_entryLine_1 (by decide) ?_
  refine V_aload_0 (pc := 3) dX6_entryLine_3 ?_
  refine V_iconst (pc := 4) dX6_entryLine_4 ?_
  refine V_callV1p (pc := 5) dX6_entryLine_5 kv_X6_156 rc_34 (by omega) (d - 1) (by omega) rfl (c_X6_hasRead (by omega) (x := B 6 0) (by omega) (hM.r3.2.2.1)) ?_
  refine V_iadd (pc := 8) dX6_entryLine_8 ?_
  refine V_imul (pc := 9) dX6_entryLine_9 ?_
  refine V_istore_1 (pc := 10) dX6_entryLine_10 ?_
  refine V_aload_0 (pc := 11) dX6_entryLine_11 ?_
  refine V_getc (pc := 12) dX6_entryLine_12 gf_X6_43 (by omega) ?_
  refine V_iload_1 (pc := 15) dX6_entryLine_15 ?_
  refine V_aload_0 (pc := 16) dX6_entryLine_16 ?_
  refine V_ldc2 (pc := 17) dX6_entryLine_17 (z := 419) ldc_X6_175 ?_
  refine V_iconst (pc := 20) dX6_entryLine_20 ?_
  refine V_aload_0 (pc := 21) dX6_entryLine_21 ?_
  refine V_iconst (pc := 22) dX6_entryLine_22 ?_
  refine V_callV1p (pc := 23) dX6_entryLine_23 kv_X6_156 rc_34 (by omega) (d - 1) (by omega) rfl (c_X6_hasRead (by omega) (x := B 5 0) (by omega) (hM.r3.2.1)) ?_
  refine V_iconst (pc := 26) dX6_entryLine_26 ?_
  refine V_isub (pc := 27) dX6_entryLine_27 ?_
  refine V_callV3i (pc := 28) dX6_entryLine_28 kv_X6_162 rc_34 (by omega) (d - 1) (by omega) rfl (c_X6_number_ (by omega) hT hn hTr hR (w := 11) (by decide) COD_e11 (by omega) (by omega) (by omega)) (fun v_28 σ_28 h_28 => ?_)
  refine V_iast (pc := 31) dX6_entryLine_31 sh_44 (by omega) (by omega) ?_
  have o1 : OffL σ (setI σ_28 44 0 (4 * (28 + B 6 0)) v_28) := h_28.2.2.l.tr (OffL.set (by unfold ISL; omega))
  refine V_aload_0 (pc := 32) dX6_entryLine_32 ?_
  refine V_getc (pc := 33) dX6_entryLine_33 gf_X6_43 (by omega) ?_
  refine V_iload_1 (pc := 36) dX6_entryLine_36 ?_
  refine V_iconst (pc := 37) dX6_entryLine_37 ?_
  refine V_iadd (pc := 38) dX6_entryLine_38 ?_
  refine V_aload_0 (pc := 39) dX6_entryLine_39 ?_
  refine V_ldc2 (pc := 40) dX6_entryLine_40 (z := 257) ldc_X6_177 ?_
  refine V_iconst (pc := 43) dX6_entryLine_43 ?_
  refine V_aload_0 (pc := 44) dX6_entryLine_44 ?_
  refine V_iconst (pc := 45) dX6_entryLine_45 ?_
  refine V_callV1p (pc := 46) dX6_entryLine_46 kv_X6_156 rc_34 (by omega) (d - 1) (by omega) rfl (c_X6_hasRead (by omega) (x := B 4 0) (by omega) (by rw [setI_tag (by decide), OffG_x h_28.2.2 (by decide)]; exact hM.r3.1)) ?_
  refine V_iconst (pc := 49) dX6_entryLine_49 ?_
  refine V_isub (pc := 50) dX6_entryLine_50 ?_
  refine V_callV3i (pc := 51) dX6_entryLine_51 kv_X6_162 rc_34 (by omega) (d - 1) (by omega) rfl (c_X6_number_ (by omega) (o1.tpe hT) hn hTr (h_28.2.1.set (by decide)) (w := 12) (by decide) COD_e12 (by omega) (by omega) (by omega)) (fun v_51 σ_51 h_51 => ?_)
  refine V_iast (pc := 54) dX6_entryLine_54 sh_44 (by omega) (by omega) ?_
  have o2 : OffL σ (setI σ_51 44 0 (4 * (28 + B 6 0) + 1) v_51) := o1.tr (h_51.2.2.l.tr (OffL.set (by unfold ISL; omega)))
  refine V_aload_0 (pc := 55) dX6_entryLine_55 ?_
  refine V_getc (pc := 56) dX6_entryLine_56 gf_X6_43 (by omega) ?_
  refine V_iload_1 (pc := 59) dX6_entryLine_59 ?_
  refine V_iconst (pc := 60) dX6_entryLine_60 ?_
  refine V_iadd (pc := 61) dX6_entryLine_61 ?_
  refine V_aload_0 (pc := 62) dX6_entryLine_62 ?_
  refine V_ldc2 (pc := 63) dX6_entryLine_63 (z := 12588917) ldc_X6_179 ?_
  refine V_iconst (pc := 66) dX6_entryLine_66 ?_
  refine V_bipush (pc := 67) dX6_entryLine_67 (by decide) ?_
  refine V_callV3i (pc := 69) dX6_entryLine_69 kv_X6_162 rc_34 (by omega) (d - 1) (by omega) rfl (c_X6_number_ (by omega) (o2.tpe hT) hn hTr (h_51.2.1.set (by decide)) (w := 13) (by decide) COD_e13 (by omega) (by omega) (by omega)) (fun v_69 σ_69 h_69 => ?_)
  refine V_iast (pc := 72) dX6_entryLine_72 sh_44 (by omega) (by omega) ?_
  have o3 : OffL σ (setI σ_69 44 0 (4 * (28 + B 6 0) + 2) v_69) := o2.tr (h_69.2.2.l.tr (OffL.set (by unfold ISL; omega)))
  refine V_aload_0 (pc := 73) dX6_entryLine_73 ?_
  refine V_getc (pc := 74) dX6_entryLine_74 gf_X6_43 (by omega) ?_
  refine V_iload_1 (pc := 77) dX6_entryLine_77 ?_
  refine V_iconst (pc := 78) dX6_entryLine_78 ?_
  refine V_iadd (pc := 79) dX6_entryLine_79 ?_
  refine V_aload_0 (pc := 80) dX6_entryLine_80 ?_
  refine V_ldc2 (pc := 81) dX6_entryLine_81 (z := 375400) ldc_X6_181 ?_
  refine V_iconst (pc := 84) dX6_entryLine_84 ?_
  refine V_bipush (pc := 85) dX6_entryLine_85 (by decide) ?_
  refine V_callV3i (pc := 87) dX6_entryLine_87 kv_X6_162 rc_34 (by omega) (d - 1) (by omega) rfl (c_X6_number_ (by omega) (o3.tpe hT) hn hTr (h_69.2.1.set (by decide)) (w := 14) (by decide) COD_e14 (by omega) (by omega) (by omega)) (fun v_87 σ_87 h_87 => ?_)
  refine V_iast (pc := 90) dX6_entryLine_90 sh_44 (by omega) (by omega) ?_
  have o4 : OffL σ (setI σ_87 44 0 (4 * (28 + B 6 0) + 3) v_87) := o3.tr (h_87.2.2.l.tr (OffL.set (by unfold ISL; omega)))
  refine V_aload_0 (pc := 91) dX6_entryLine_91 ?_
  refine V_iconst (pc := 92) dX6_entryLine_92 ?_
  refine V_aload_0 (pc := 93) dX6_entryLine_93 ?_
  refine V_iconst (pc := 94) dX6_entryLine_94 ?_
  refine V_callV1p (pc := 95) dX6_entryLine_95 kv_X6_156 rc_34 (by omega) (d - 1) (by omega) rfl (c_X6_hasRead (by omega) (x := B 6 0) (by omega) (by rw [setI_tag (by decide), OffG_x h_87.2.2 (by decide), setI_tag (by decide), OffG_x h_69.2.2 (by decide), setI_tag (by decide), OffG_x h_51.2.2 (by decide), setI_tag (by decide), OffG_x h_28.2.2 (by decide)]; exact hM.r3.2.2.1)) ?_
  refine V_iconst (pc := 98) dX6_entryLine_98 ?_
  refine V_iadd (pc := 99) dX6_entryLine_99 ?_
  refine V_callV2z (pc := 100) dX6_entryLine_100 kv_X6_169 rc_34 (by omega) (d - 1) (by omega) rfl (c_X6_tells (by omega) (by omega)) (fun σ_100 h_100 => ?_)
  subst h_100
  refine V_vret (pc := 103) dX6_entryLine_103 rfl ?_
  refine ⟨rfl, (h_87.2.1.set (by decide)).set (by decide), fun q4 => ?_, o4.tr (OffL.set (by unfold ISL; omega))⟩
  have q3 := ((NBF_in (T := T) (n := n) (lo := 0) (hi := 20) (w := 14) h_69.2.1.2.2.1 h_69.2.1.2.1).2.2 q4).2.2.1
  have q2 := ((NBF_in (T := T) (n := n) (lo := 0) (hi := 20) (w := 13) h_51.2.1.2.2.1 h_51.2.1.2.1).2.2 q3).2.2.1
  have q1 := ((NBF_in (T := T) (n := n) (lo := 0) (hi := (B 4 0 - 1)) (w := 12) h_28.2.1.2.2.1 h_28.2.1.2.1).2.2 q2).2.2.1
  refine MB4.entry hM hD (fun t x a b c => ?_) (setI_same _ _ _ _ _) ?_ ?_ ?_ ?_
  · rw [setI_at, if_neg (by omega), setI_at, if_neg (by omega), h_87.2.2 t 0 x (by omega), setI_at, if_neg (by omega), h_69.2.2 t 0 x (by omega), setI_at, if_neg (by omega), h_51.2.2 t 0 x (by omega), setI_at, if_neg (by omega), h_28.2.2 t 0 x (by omega)]
  · rw [setI_at, if_neg (by omega), setI_at, if_neg (by omega), h_87.2.2 44 0 _ (by omega), setI_at, if_neg (by omega), h_69.2.2 44 0 _ (by omega), setI_at, if_neg (by omega), h_51.2.2 44 0 _ (by omega), setI_same]; exact h_28.1 q1
  · rw [setI_at, if_neg (by omega), setI_at, if_neg (by omega), h_87.2.2 44 0 _ (by omega), setI_at, if_neg (by omega), h_69.2.2 44 0 _ (by omega), setI_same]; exact h_51.1 q2
  · rw [setI_at, if_neg (by omega), setI_at, if_neg (by omega), h_87.2.2 44 0 _ (by omega), setI_same]; exact h_69.1 q3
  · rw [setI_at, if_neg (by omega), setI_same]; exact h_87.1 q4

set_option maxRecDepth 20000 in
set_option maxHeartbeats 1000000 in
theorem c_X6_pageLine {d : Nat} (hd : 2 ≤ d) {σ : MM} {T : Int → Int} {n : Int} {p : Int} {B : BK} (hT : TPE σ T n) (hn : 0 ≤ n ∧ n ≤ 700) (hTr : ∀ x : Int, 0 ≤ x ∧ x < n → -128 ≤ T x ∧ T x ≤ 127) (hR : RSM σ T n (0, p)) (hM : MB σ 4 B) (hD : DB B) (h5 : B 5 0 < 4) : V yX6_pageLine cX6_pageLine 2 none d (QZ (fun σ' => RSM σ' T n (0, if WRD T n p 10 then TE T n p else p) ∧ MB σ' 4 (pB B (bI (WRD T n p 10))) ∧ OffL σ σ')) 0 [some (vR 34 0), none] [] σ := by
  have hp : 0 ≤ p ∧ p ≤ n := hR.2.2.1
  have hS := TS_in (T := T) hp
  have hE := TE_in (T := T) hp
  have hs := hD.1.s
  have at22 : ∀ w : Int, (w = 0 ∨ w = 1) → (w = 1 ↔ WRD T n p 10) → V yX6_pageLine cX6_pageLine 2 none d (QZ (fun σ' => RSM σ' T n (0, if WRD T n p 10 then TE T n p else p) ∧ MB σ' 4 (pB B (bI (WRD T n p 10))) ∧ OffL σ σ')) 22 [some (vR 34 0), none] [vI w] σ := by
    intro w hw hW
    have at31 : ∀ σ1 : MM, RSM σ1 T n (0, if WRD T n p 10 then TE T n p else p) → OffG σ σ1 → V yX6_pageLine cX6_pageLine 2 none d (QZ (fun σ' => RSM σ' T n (0, if WRD T n p 10 then TE T n p else p) ∧ MB σ' 4 (pB B (bI (WRD T n p 10))) ∧ OffL σ σ')) 31 [some (vR 34 0), some (vI w)] [] σ1 := by
      intro σ1 hR1 hO1
      refine V_aload_0 (pc := 31) dX6_pageLine_31 ?_
      refine V_getc (pc := 32) dX6_pageLine_32 gf_X6_40 (by omega) ?_
      refine V_bipush (pc := 35) dX6_pageLine_35 (by decide) ?_
      refine V_aload_0 (pc := 37) dX6_pageLine_37 ?_
      refine V_iconst (pc := 38) dX6_pageLine_38 ?_
      refine V_callV1p (pc := 39) dX6_pageLine_39 kv_X6_156 rc_34 (by omega) (d - 1) (by omega) rfl (c_X6_hasRead (by omega) (x := B 5 0) (by omega) (by rw [OffG_x hO1 (by decide)]; exact hM.r3.2.1)) ?_
      refine V_iadd (pc := 42) dX6_pageLine_42 ?_
      refine V_iload_1 (pc := 43) dX6_pageLine_43 ?_
      refine V_if_eq (pc := 44) 51 dX6_pageLine_44 (by decide) (by omega) (fun c_44 => ?_) (fun c_44 => ?_)
      · refine V_iconst (pc := 51) dX6_pageLine_51 ?_
        refine V_iast (pc := 52) dX6_pageLine_52 sh_43 (by omega) (by omega) ?_
        refine V_aload_0 (pc := 53) dX6_pageLine_53 ?_
        refine V_iconst (pc := 54) dX6_pageLine_54 ?_
        refine V_aload_0 (pc := 55) dX6_pageLine_55 ?_
        refine V_iconst (pc := 56) dX6_pageLine_56 ?_
        refine V_callV1p (pc := 57) dX6_pageLine_57 kv_X6_156 rc_34 (by omega) (d - 1) (by omega) rfl (c_X6_hasRead (by omega) (x := B 5 0) (by omega) (by rw [setI_tag (by decide), OffG_x hO1 (by decide)]; exact hM.r3.2.1)) ?_
        refine V_iconst (pc := 60) dX6_pageLine_60 ?_
        refine V_iadd (pc := 61) dX6_pageLine_61 ?_
        refine V_callV2z (pc := 62) dX6_pageLine_62 kv_X6_169 rc_34 (by omega) (d - 1) (by omega) rfl (c_X6_tells (by omega) (by omega)) (fun σ_62 h_62 => ?_)
        subst h_62
        refine V_vret (pc := 65) dX6_pageLine_65 rfl ?_
        exact ⟨rfl, (hR1.set (by decide)).set (by decide), MB4.page hM hD (fun t x a b c => by rw [setI_at, if_neg (by omega), setI_at, if_neg (by omega), hO1 t 0 x (by omega)]) (setI_same _ _ _ _ _) (by rw [setI_at, if_neg (by omega), setI_same]; first | rw [bI_t (hW.mp (by omega))] | rw [bI_f (fun q => by have := hW.mpr q; omega)]), hO1.l.tr ((OffL.set (by unfold ISL; omega)).tr (OffL.set (by unfold ISL; omega)))⟩
      · refine V_iconst (pc := 47) dX6_pageLine_47 ?_
        refine V_goto (pc := 48) 52 dX6_pageLine_48 (by decide) ?_
        refine V_iast (pc := 52) dX6_pageLine_52 sh_43 (by omega) (by omega) ?_
        refine V_aload_0 (pc := 53) dX6_pageLine_53 ?_
        refine V_iconst (pc := 54) dX6_pageLine_54 ?_
        refine V_aload_0 (pc := 55) dX6_pageLine_55 ?_
        refine V_iconst (pc := 56) dX6_pageLine_56 ?_
        refine V_callV1p (pc := 57) dX6_pageLine_57 kv_X6_156 rc_34 (by omega) (d - 1) (by omega) rfl (c_X6_hasRead (by omega) (x := B 5 0) (by omega) (by rw [setI_tag (by decide), OffG_x hO1 (by decide)]; exact hM.r3.2.1)) ?_
        refine V_iconst (pc := 60) dX6_pageLine_60 ?_
        refine V_iadd (pc := 61) dX6_pageLine_61 ?_
        refine V_callV2z (pc := 62) dX6_pageLine_62 kv_X6_169 rc_34 (by omega) (d - 1) (by omega) rfl (c_X6_tells (by omega) (by omega)) (fun σ_62 h_62 => ?_)
        subst h_62
        refine V_vret (pc := 65) dX6_pageLine_65 rfl ?_
        exact ⟨rfl, (hR1.set (by decide)).set (by decide), MB4.page hM hD (fun t x a b c => by rw [setI_at, if_neg (by omega), setI_at, if_neg (by omega), hO1 t 0 x (by omega)]) (setI_same _ _ _ _ _) (by rw [setI_at, if_neg (by omega), setI_same]; first | rw [bI_t (hW.mp (by omega))] | rw [bI_f (fun q => by have := hW.mpr q; omega)]), hO1.l.tr ((OffL.set (by unfold ISL; omega)).tr (OffL.set (by unfold ISL; omega)))⟩
    refine V_istore_1 (pc := 22) dX6_pageLine_22 ?_
    refine V_iload_1 (pc := 23) dX6_pageLine_23 ?_
    refine V_if_eq (pc := 24) 31 dX6_pageLine_24 (by decide) (by omega) (fun c_24 => ?_) (fun c_24 => ?_)
    · exact at31 _ (by rw [if_neg (fun q => by have := hW.mpr q; omega)]; exact hR) OffG.rf
    · refine V_aload_0 (pc := 27) dX6_pageLine_27 ?_
      refine V_callV0z (pc := 28) dX6_pageLine_28 kv_X6_136 rc_34 (by omega) (d - 1) (by omega) rfl (c_X6_next (by omega) hT hn hTr (i := TE T n p) (by omega) (hR.2.2.2.1 rfl).1.1) (fun σ_28 h_28 => ?_)
      exact at31 _ (by rw [if_pos (hW.mp (by omega))]; exact RSM.nx (by omega) hR.1 (hR.2.2.2.1 rfl).2 h_28) h_28.2.g
  refine V_aload_0 (pc := 0) dX6_pageLine_0 ?_
  refine V_geti (pc := 1) dX6_pageLine_1 gf_X6_126 (by omega) (v := 0) hR.1 ?_
  refine V_if_ne (pc := 4) 21 dX6_pageLine_4 (by decide) (by omega) (fun c_4 => ?_) (fun c_4 => ?_)
  · exact absurd c_4 (by omega)
  · refine V_aload_0 (pc := 7) dX6_pageLine_7 ?_
    refine V_ldc2 (pc := 8) dX6_pageLine_8 (z := 79828) ldc_X6_173 ?_
    refine V_callV1p (pc := 11) dX6_pageLine_11 kv_X6_132 rc_34 (by omega) (d - 1) (by omega) rfl (c_X6_is (by omega) hR (w := 10) (by decide) COD_e10 (by omega)) ?_
    refine V_if_eq_b (pc := 14) 21 dX6_pageLine_14 (by decide) (fun c_14 => ?_) (fun c_14 => ?_)
    · refine V_iconst (pc := 21) dX6_pageLine_21 ?_
      exact at22 0 (Or.inl rfl) ⟨fun q => absurd q (by decide), fun q => absurd ⟨rfl, q⟩ c_14⟩
    · refine V_iconst (pc := 17) dX6_pageLine_17 ?_
      refine V_goto (pc := 18) 22 dX6_pageLine_18 (by decide) ?_
      exact at22 1 (Or.inr rfl) ⟨fun _ => c_14.2, fun _ => rfl⟩

set_option maxRecDepth 20000 in
set_option maxHeartbeats 1000000 in
theorem c_X6_isRoom {d : Nat} (hd : 2 ≤ d) {σ : MM} {T : Int → Int} {n : Int} {p b j m x : Int} (hT : TPE σ T n) (hn : 0 ≤ n ∧ n ≤ 700) (hTr : ∀ x : Int, 0 ≤ x ∧ x < n → -128 ≤ T x ∧ T x ≤ 127) (hR : RSM σ T n (0, p)) (hb : b = 0 ∨ b = 1) (hj : 0 ≤ j ∧ j < 7) (hx : σ 41 0 (28 + j) = x) (hxr : 0 ≤ x ∧ x ≤ 100) (hm : 0 ≤ m ∧ m ≤ 100) : V yX6_isRoom cX6_isRoom 4 (some .boolean) d (QI (fun v σ' => ((v = 0 ∨ v = 1) ∧ (v = 1 ↔ b = 1 ∧ x ≠ m)) ∧ RSM σ' T n (RMS T n p b x m) ∧ OffG σ σ')) 0 [some (vR 34 0), some (vI b), some (vI j), some (vI m)] [] σ := by
  have hp : 0 ≤ p ∧ p ≤ n := hR.2.2.1
  have hS := TS_in (T := T) hp
  have hE := TE_in (T := T) hp
  refine V_iload_1 (pc := 0) dX6_isRoom_0 ?_
  refine V_if_eq (pc := 1) 18 dX6_isRoom_1 (by decide) (by omega) (fun c_1 => ?_) (fun c_1 => ?_)
  · refine V_iload_1 (pc := 18) dX6_isRoom_18 ?_
    refine V_if_eq (pc := 19) 33 dX6_isRoom_19 (by decide) (by omega) (fun c_19 => ?_) (fun c_19 => ?_)
    · refine V_iload_1 (pc := 33) dX6_isRoom_33 ?_
      refine V_if_eq (pc := 34) 48 dX6_isRoom_34 (by decide) (by omega) (fun c_34 => ?_) (fun c_34 => ?_)
      · refine V_iconst (pc := 48) dX6_isRoom_48 ?_
        refine V_iretZ (pc := 49) dX6_isRoom_49 rfl (by first | omega | exact bI_01 _) ?_
        first
          | exact ⟨_, rfl, ⟨by omega, by omega⟩, by rw [RMS_1 (by omega)]; exact hR, OffG.rf⟩
          | exact ⟨_, rfl, ⟨by omega, by omega⟩, by rw [RMS_2 (by omega) (by omega)]; exact h_15.1, h_15.2⟩
          | exact ⟨_, rfl, ⟨by omega, by omega⟩, by rw [RMS_3 (by omega) (by omega)]; exact RSM.nx (by omega) hR.1 (hR.2.2.2.1 rfl).2 h_30, h_30.2.g⟩
      · exact absurd c_34 (by omega)
    · exact absurd c_19 (by omega)
  · refine V_aload_0 (pc := 4) dX6_isRoom_4 ?_
    refine V_iload_2 (pc := 5) dX6_isRoom_5 ?_
    refine V_callV1p (pc := 6) dX6_isRoom_6 kv_X6_156 rc_34 (by omega) (d - 1) (by omega) rfl (c_X6_hasRead (by omega) hj hx) ?_
    refine V_iload_3 (pc := 9) dX6_isRoom_9 ?_
    refine V_icmp_ne (pc := 10) 18 dX6_isRoom_10 (by decide) (by omega) (by omega) (fun c_10 => ?_) (fun c_10 => ?_)
    · refine V_iload_1 (pc := 18) dX6_isRoom_18 ?_
      refine V_if_eq (pc := 19) 33 dX6_isRoom_19 (by decide) (by omega) (fun c_19 => ?_) (fun c_19 => ?_)
      · exact absurd c_19 (by omega)
      · refine V_aload_0 (pc := 22) dX6_isRoom_22 ?_
        refine V_geti (pc := 23) dX6_isRoom_23 gf_X6_126 (by omega) (v := 0) hR.1 ?_
        refine V_if_ne (pc := 26) 33 dX6_isRoom_26 (by decide) (by omega) (fun c_26 => ?_) (fun c_26 => ?_)
        · exact absurd c_26 (by omega)
        · refine V_aload_0 (pc := 29) dX6_isRoom_29 ?_
          refine V_callV0z (pc := 30) dX6_isRoom_30 kv_X6_136 rc_34 (by omega) (d - 1) (by omega) rfl (c_X6_next (by omega) hT hn hTr (i := TE T n p) (by omega) (hR.2.2.2.1 rfl).1.1) (fun σ_30 h_30 => ?_)
          refine V_iload_1 (pc := 33) dX6_isRoom_33 ?_
          refine V_if_eq (pc := 34) 48 dX6_isRoom_34 (by decide) (by omega) (fun c_34 => ?_) (fun c_34 => ?_)
          · exact absurd c_34 (by omega)
          · refine V_aload_0 (pc := 37) dX6_isRoom_37 ?_
            refine V_geti (pc := 38) dX6_isRoom_38 gf_X6_126 (by omega) (v := 0) ((h_30.2 34 0 12 (by omega)).trans hR.1) ?_
            refine V_if_ne (pc := 41) 48 dX6_isRoom_41 (by decide) (by omega) (fun c_41 => ?_) (fun c_41 => ?_)
            · exact absurd c_41 (by omega)
            · refine V_iconst (pc := 44) dX6_isRoom_44 ?_
              refine V_goto (pc := 45) 49 dX6_isRoom_45 (by decide) ?_
              refine V_iretZ (pc := 49) dX6_isRoom_49 rfl (by first | omega | exact bI_01 _) ?_
              first
                | exact ⟨_, rfl, ⟨by omega, by omega⟩, by rw [RMS_1 (by omega)]; exact hR, OffG.rf⟩
                | exact ⟨_, rfl, ⟨by omega, by omega⟩, by rw [RMS_2 (by omega) (by omega)]; exact h_15.1, h_15.2⟩
                | exact ⟨_, rfl, ⟨by omega, by omega⟩, by rw [RMS_3 (by omega) (by omega)]; exact RSM.nx (by omega) hR.1 (hR.2.2.2.1 rfl).2 h_30, h_30.2.g⟩
    · refine V_aload_0 (pc := 13) dX6_isRoom_13 ?_
      refine V_iconst (pc := 14) dX6_isRoom_14 ?_
      refine V_callV1z (pc := 15) dX6_isRoom_15 kv_X6_142 rc_34 (by omega) (d - 1) (by omega) rfl (c_X6_fails (by omega) hR (by omega)) (fun σ_15 h_15 => ?_)
      have hF_ : FLS T n 3 (0, p) = (3, TS T n p) := if_pos rfl
      rw [hF_] at h_15
      have hF3 := h_15.1.1
      refine V_iload_1 (pc := 18) dX6_isRoom_18 ?_
      refine V_if_eq (pc := 19) 33 dX6_isRoom_19 (by decide) (by omega) (fun c_19 => ?_) (fun c_19 => ?_)
      · exact absurd c_19 (by omega)
      · refine V_aload_0 (pc := 22) dX6_isRoom_22 ?_
        refine V_geti (pc := 23) dX6_isRoom_23 gf_X6_126 (by omega) (v := 3) hF3 ?_
        refine V_if_ne (pc := 26) 33 dX6_isRoom_26 (by decide) (by omega) (fun c_26 => ?_) (fun c_26 => ?_)
        · refine V_iload_1 (pc := 33) dX6_isRoom_33 ?_
          refine V_if_eq (pc := 34) 48 dX6_isRoom_34 (by decide) (by omega) (fun c_34 => ?_) (fun c_34 => ?_)
          · exact absurd c_34 (by omega)
          · refine V_aload_0 (pc := 37) dX6_isRoom_37 ?_
            refine V_geti (pc := 38) dX6_isRoom_38 gf_X6_126 (by omega) (v := 3) hF3 ?_
            refine V_if_ne (pc := 41) 48 dX6_isRoom_41 (by decide) (by omega) (fun c_41 => ?_) (fun c_41 => ?_)
            · refine V_iconst (pc := 48) dX6_isRoom_48 ?_
              refine V_iretZ (pc := 49) dX6_isRoom_49 rfl (by first | omega | exact bI_01 _) ?_
              first
                | exact ⟨_, rfl, ⟨by omega, by omega⟩, by rw [RMS_1 (by omega)]; exact hR, OffG.rf⟩
                | exact ⟨_, rfl, ⟨by omega, by omega⟩, by rw [RMS_2 (by omega) (by omega)]; exact h_15.1, h_15.2⟩
                | exact ⟨_, rfl, ⟨by omega, by omega⟩, by rw [RMS_3 (by omega) (by omega)]; exact RSM.nx (by omega) hR.1 (hR.2.2.2.1 rfl).2 h_30, h_30.2.g⟩
            · exact absurd c_41 (by omega)
        · exact absurd c_26 (by omega)

set_option maxRecDepth 20000 in
set_option maxHeartbeats 1000000 in
theorem c_X6_lineHere {d : Nat} (hd : 6 ≤ d) {σ : MM} {T : Int → Int} {n : Int} {p : Int} {B : BK} (hT : TPE σ T n) (hn : 0 ≤ n ∧ n ≤ 700) (hTr : ∀ x : Int, 0 ≤ x ∧ x < n → -128 ≤ T x ∧ T x ≤ 127) (hR : RSM σ T n (0, p)) (hM : MB σ 4 B) (hD : DB B) (h0 : 0 < B 0 0) : V yX6_lineHere cX6_lineHere 1 none d (QZ (fun σ' => RSM σ' T n (LIN T n p B).1 ∧ ((LIN T n p B).1.1 = 0 → MB σ' 4 (LIN T n p B).2) ∧ OffL σ σ')) 0 [some (vR 34 0)] [] σ := by
  have hp : 0 ≤ p ∧ p ≤ n := hR.2.2.1
  have hS := TS_in (T := T) hp
  have hE := TE_in (T := T) hp
  have hs := hD.1.s
  have hcv := COD_v
  have d01 : WRD T n p 1 → ¬ WRD T n p 0 := WRD_ne hp (by decide) (by decide) (by omega)
  have d02 : WRD T n p 2 → ¬ WRD T n p 0 := WRD_ne hp (by decide) (by decide) (by omega)
  have d03 : WRD T n p 3 → ¬ WRD T n p 0 := WRD_ne hp (by decide) (by decide) (by omega)
  have d12 : WRD T n p 2 → ¬ WRD T n p 1 := WRD_ne hp (by decide) (by decide) (by omega)
  have d13 : WRD T n p 3 → ¬ WRD T n p 1 := WRD_ne hp (by decide) (by decide) (by omega)
  have d23 : WRD T n p 3 → ¬ WRD T n p 2 := WRD_ne hp (by decide) (by decide) (by omega)
  have L1 : WRD T n p 1 → LIN T n p B = INL T n p B := fun q => LIN_2 (fun z => d01 q (z.mpr h0)) (d01 q) q
  have L2 : WRD T n p 2 → LIN T n p B = PGL T n p B := fun q => LIN_3 (fun z => d02 q (z.mpr h0)) (d02 q) (d12 q) q
  have L3 : WRD T n p 3 → LIN T n p B = ENL T n p B := fun q => LIN_4 (fun z => d03 q (z.mpr h0)) (d03 q) (d13 q) (d23 q) q
  have L5 : ¬ WRD T n p 1 → ¬ WRD T n p 2 → ¬ WRD T n p 3 → LIN T n p B = ((1, TS T n p), B) := fun a b c => by
    by_cases q : WRD T n p 0
    · exact LIN_0 ⟨fun _ => h0, fun _ => q⟩
    · exact LIN_5 (fun z => q (z.mpr h0)) q a b c
  have bad23 : ∀ (σ1 : MM) (s1 : Int × Int), RSM σ1 T n s1 → OffL σ σ1 → s1.1 ≠ 0 → s1 = (LIN T n p B).1 → V yX6_lineHere cX6_lineHere 1 none d (QZ (fun σ' => RSM σ' T n (LIN T n p B).1 ∧ ((LIN T n p B).1.1 = 0 → MB σ' 4 (LIN T n p B).2) ∧ OffL σ σ')) 23 [some (vR 34 0)] [] σ1 := by
    intro σ1 s1 hR1 hO1 hs1 he
    have hb1 := hR1.2.1
    refine V_aload_0 (pc := 23) dX6_lineHere_23 ?_
    refine V_geti (pc := 24) dX6_lineHere_24 gf_X6_126 (by omega) (v := s1.1) hR1.1 ?_
    refine V_if_ne (pc := 27) 53 dX6_lineHere_27 (by decide) (by omega) (fun c_27 => ?_) (fun c_27 => ?_)
    · refine V_aload_0 (pc := 53) dX6_lineHere_53 ?_
      refine V_geti (pc := 54) dX6_lineHere_54 gf_X6_126 (by omega) (v := s1.1) hR1.1 ?_
      refine V_if_ne (pc := 57) 84 dX6_lineHere_57 (by decide) (by omega) (fun c_57 => ?_) (fun c_57 => ?_)
      · refine V_aload_0 (pc := 84) dX6_lineHere_84 ?_
        refine V_geti (pc := 85) dX6_lineHere_85 gf_X6_126 (by omega) (v := s1.1) hR1.1 ?_
        refine V_if_ne (pc := 88) 96 dX6_lineHere_88 (by decide) (by omega) (fun c_88 => ?_) (fun c_88 => ?_)
        · refine V_vret (pc := 96) dX6_lineHere_96 rfl ?_
          exact ⟨rfl, by rw [← he]; exact hR1, fun q => absurd (by rw [← he] at q; exact q) hs1, hO1⟩
        · exact absurd c_88 (by omega)
      · exact absurd c_57 (by omega)
    · exact absurd c_27 (by omega)
  have bad53 : ∀ (σ1 : MM) (s1 : Int × Int), RSM σ1 T n s1 → OffL σ σ1 → s1.1 ≠ 0 → s1 = (LIN T n p B).1 → V yX6_lineHere cX6_lineHere 1 none d (QZ (fun σ' => RSM σ' T n (LIN T n p B).1 ∧ ((LIN T n p B).1.1 = 0 → MB σ' 4 (LIN T n p B).2) ∧ OffL σ σ')) 53 [some (vR 34 0)] [] σ1 := by
    intro σ1 s1 hR1 hO1 hs1 he
    have hb1 := hR1.2.1
    refine V_aload_0 (pc := 53) dX6_lineHere_53 ?_
    refine V_geti (pc := 54) dX6_lineHere_54 gf_X6_126 (by omega) (v := s1.1) hR1.1 ?_
    refine V_if_ne (pc := 57) 84 dX6_lineHere_57 (by decide) (by omega) (fun c_57 => ?_) (fun c_57 => ?_)
    · refine V_aload_0 (pc := 84) dX6_lineHere_84 ?_
      refine V_geti (pc := 85) dX6_lineHere_85 gf_X6_126 (by omega) (v := s1.1) hR1.1 ?_
      refine V_if_ne (pc := 88) 96 dX6_lineHere_88 (by decide) (by omega) (fun c_88 => ?_) (fun c_88 => ?_)
      · refine V_vret (pc := 96) dX6_lineHere_96 rfl ?_
        exact ⟨rfl, by rw [← he]; exact hR1, fun q => absurd (by rw [← he] at q; exact q) hs1, hO1⟩
      · exact absurd c_88 (by omega)
    · exact absurd c_57 (by omega)
  have bad84 : ∀ (σ1 : MM) (s1 : Int × Int), RSM σ1 T n s1 → OffL σ σ1 → s1.1 ≠ 0 → s1 = (LIN T n p B).1 → V yX6_lineHere cX6_lineHere 1 none d (QZ (fun σ' => RSM σ' T n (LIN T n p B).1 ∧ ((LIN T n p B).1.1 = 0 → MB σ' 4 (LIN T n p B).2) ∧ OffL σ σ')) 84 [some (vR 34 0)] [] σ1 := by
    intro σ1 s1 hR1 hO1 hs1 he
    have hb1 := hR1.2.1
    refine V_aload_0 (pc := 84) dX6_lineHere_84 ?_
    refine V_geti (pc := 85) dX6_lineHere_85 gf_X6_126 (by omega) (v := s1.1) hR1.1 ?_
    refine V_if_ne (pc := 88) 96 dX6_lineHere_88 (by decide) (by omega) (fun c_88 => ?_) (fun c_88 => ?_)
    · refine V_vret (pc := 96) dX6_lineHere_96 rfl ?_
      exact ⟨rfl, by rw [← he]; exact hR1, fun q => absurd (by rw [← he] at q; exact q) hs1, hO1⟩
    · exact absurd c_88 (by omega)
  have at84 : ∀ σ1 : MM, RSM σ1 T n (0, p) → OffL σ σ1 → LIN T n p B = ((1, TS T n p), B) → V yX6_lineHere cX6_lineHere 1 none d (QZ (fun σ' => RSM σ' T n (LIN T n p B).1 ∧ ((LIN T n p B).1.1 = 0 → MB σ' 4 (LIN T n p B).2) ∧ OffL σ σ')) 84 [some (vR 34 0)] [] σ1 := by
    intro σ1 hR1 hO1 he
    refine V_aload_0 (pc := 84) dX6_lineHere_84 ?_
    refine V_geti (pc := 85) dX6_lineHere_85 gf_X6_126 (by omega) (v := 0) hR1.1 ?_
    refine V_if_ne (pc := 88) 96 dX6_lineHere_88 (by decide) (by omega) (fun c_88 => ?_) (fun c_88 => ?_)
    · exact absurd c_88 (by omega)
    · refine V_aload_0 (pc := 91) dX6_lineHere_91 ?_
      refine V_iconst (pc := 92) dX6_lineHere_92 ?_
      refine V_callV1z (pc := 93) dX6_lineHere_93 kv_X6_142 rc_34 (by omega) (d - 1) (by omega) rfl (c_X6_fails (by omega) hR1 (by omega)) (fun σ_93 h_93 => ?_)
      have hF_ : FLS T n 1 (0, p) = (1, TS T n p) := if_pos rfl
      rw [hF_] at h_93
      refine V_vret (pc := 96) dX6_lineHere_96 rfl ?_
      exact ⟨rfl, by rw [he]; exact h_93.1, fun q => absurd (show (1 : Int) = 0 by rw [he] at q; exact q) (by decide), hO1.tr h_93.2.l⟩
  have at53 : ∀ σ1 : MM, RSM σ1 T n (0, p) → OffL σ σ1 → MB σ1 4 B → ¬ WRD T n p 1 → ¬ WRD T n p 2 → V yX6_lineHere cX6_lineHere 1 none d (QZ (fun σ' => RSM σ' T n (LIN T n p B).1 ∧ ((LIN T n p B).1.1 = 0 → MB σ' 4 (LIN T n p B).2) ∧ OffL σ σ')) 53 [some (vR 34 0)] [] σ1 := by
    intro σ1 hR1 hO1 hM1 n1 n2
    refine V_aload_0 (pc := 53) dX6_lineHere_53 ?_
    refine V_geti (pc := 54) dX6_lineHere_54 gf_X6_126 (by omega) (v := 0) hR1.1 ?_
    refine V_if_ne (pc := 57) 84 dX6_lineHere_57 (by decide) (by omega) (fun c_57 => ?_) (fun c_57 => ?_)
    · exact absurd c_57 (by omega)
    · refine V_aload_0 (pc := 60) dX6_lineHere_60 ?_
      refine V_aload_0 (pc := 61) dX6_lineHere_61 ?_
      refine V_ldc2 (pc := 62) dX6_lineHere_62 (z := 2947858) ldc_X6_197 ?_
      refine V_callV1p (pc := 65) dX6_lineHere_65 kv_X6_132 rc_34 (by omega) (d - 1) (by omega) rfl (c_X6_is (by omega) hR1 (w := 3) (by decide) COD_e3 (by omega)) ?_
      refine V_iconst (pc := 68) dX6_lineHere_68 ?_
      refine V_bipush (pc := 69) dX6_lineHere_69 (by decide) ?_
      refine V_callV3i (pc := 71) dX6_lineHere_71 kv_X6_185 rc_34 (by omega) (d - 1) (by omega) rfl (c_X6_isRoom (by omega) (hO1.tpe hT) hn hTr hR1 (bI_01 _) (by omega) (x := B 6 0) hM1.r3.2.2.1 (by omega) (by omega)) (fun v_71 σ_71 h_71 => ?_)
      have hv9 := h_71.1.1
      refine V_if_eq (pc := 74) 84 dX6_lineHere_74 (by decide) (by omega) (fun c_74 => ?_) (fun c_74 => ?_)
      · have hO2 := hO1.tr h_71.2.2.l
        by_cases qw : WRD T n p 3
        · have qb : bI (((0, p) : Int × Int).1 = 0 ∧ WRD T n ((0, p) : Int × Int).2 3) = 1 := bI_t ⟨rfl, qw⟩
          have qe : B 6 0 = 7 := Decidable.byContradiction fun z => by have := h_71.1.2.mpr ⟨qb, z⟩; omega
          exact bad84 _ (3, TS T n p) (by rw [← RMS_2 (T := T) (n := n) (p := p) qb qe]; exact h_71.2.1) hO2 (by show (3 : Int) ≠ 0; decide) (by rw [L3 qw]; unfold ENL; rw [if_pos (by omega)])
        · have qb : bI (((0, p) : Int × Int).1 = 0 ∧ WRD T n ((0, p) : Int × Int).2 3) ≠ 1 := by rw [bI_f (fun z => qw z.2)]; decide
          have hR2 : RSM σ_71 T n (0, p) := by rw [← RMS_1 (T := T) (n := n) (p := p) (x := B 6 0) (m := 7) qb]; exact h_71.2.1
          exact at84 _ hR2 hO2 (L5 n1 n2 qw)
      · have q1 := h_71.1.2.mp (by omega)
        have qw : WRD T n p 3 := (bI_iff.mp q1.1).2
        have hRM : RSM σ_71 T n (0, TE T n p) := by rw [← RMS_3 (T := T) (n := n) (p := p) q1.1 q1.2]; exact h_71.2.1
        have hO2 := hO1.tr h_71.2.2.l
        refine V_aload_0 (pc := 77) dX6_lineHere_77 ?_
        refine V_callV0z (pc := 78) dX6_lineHere_78 kv_X6_199 rc_34 (by omega) (d - 1) (by omega) rfl (c_X6_entryLine (by omega) (hO2.tpe hT) hn hTr hRM (h_71.2.2.mb hM1) hD (by omega)) (fun σ_78 h_78 => ?_)
        refine V_goto (pc := 81) 96 dX6_lineHere_81 (by decide) ?_
        refine V_vret (pc := 96) dX6_lineHere_96 rfl ?_
        refine ⟨rfl, ?_⟩
        rw [L3 qw, ENL_e (by omega)]
        exact ⟨h_78.1, fun q => MB_if q (h_78.2.1 q), hO2.tr h_78.2.2⟩
  have at23 : ∀ σ1 : MM, RSM σ1 T n (0, p) → OffL σ σ1 → MB σ1 4 B → ¬ WRD T n p 1 → V yX6_lineHere cX6_lineHere 1 none d (QZ (fun σ' => RSM σ' T n (LIN T n p B).1 ∧ ((LIN T n p B).1.1 = 0 → MB σ' 4 (LIN T n p B).2) ∧ OffL σ σ')) 23 [some (vR 34 0)] [] σ1 := by
    intro σ1 hR1 hO1 hM1 n1
    refine V_aload_0 (pc := 23) dX6_lineHere_23 ?_
    refine V_geti (pc := 24) dX6_lineHere_24 gf_X6_126 (by omega) (v := 0) hR1.1 ?_
    refine V_if_ne (pc := 27) 53 dX6_lineHere_27 (by decide) (by omega) (fun c_27 => ?_) (fun c_27 => ?_)
    · exact absurd c_27 (by omega)
    · refine V_aload_0 (pc := 30) dX6_lineHere_30 ?_
      refine V_aload_0 (pc := 31) dX6_lineHere_31 ?_
      refine V_ldc2 (pc := 32) dX6_lineHere_32 (z := 315851) ldc_X6_192 ?_
      refine V_callV1p (pc := 35) dX6_lineHere_35 kv_X6_132 rc_34 (by omega) (d - 1) (by omega) rfl (c_X6_is (by omega) hR1 (w := 2) (by decide) COD_e2 (by omega)) ?_
      refine V_iconst (pc := 38) dX6_lineHere_38 ?_
      refine V_iconst (pc := 39) dX6_lineHere_39 ?_
      refine V_callV3i (pc := 40) dX6_lineHere_40 kv_X6_185 rc_34 (by omega) (d - 1) (by omega) rfl (c_X6_isRoom (by omega) (hO1.tpe hT) hn hTr hR1 (bI_01 _) (by omega) (x := B 5 0) hM1.r3.2.1 (by omega) (by omega)) (fun v_40 σ_40 h_40 => ?_)
      have hv9 := h_40.1.1
      refine V_if_eq (pc := 43) 53 dX6_lineHere_43 (by decide) (by omega) (fun c_43 => ?_) (fun c_43 => ?_)
      · have hO2 := hO1.tr h_40.2.2.l
        by_cases qw : WRD T n p 2
        · have qb : bI (((0, p) : Int × Int).1 = 0 ∧ WRD T n ((0, p) : Int × Int).2 2) = 1 := bI_t ⟨rfl, qw⟩
          have qe : B 5 0 = 4 := Decidable.byContradiction fun z => by have := h_40.1.2.mpr ⟨qb, z⟩; omega
          exact bad53 _ (3, TS T n p) (by rw [← RMS_2 (T := T) (n := n) (p := p) qb qe]; exact h_40.2.1) hO2 (by show (3 : Int) ≠ 0; decide) (by rw [L2 qw]; unfold PGL; rw [if_pos (by omega)])
        · have qb : bI (((0, p) : Int × Int).1 = 0 ∧ WRD T n ((0, p) : Int × Int).2 2) ≠ 1 := by rw [bI_f (fun z => qw z.2)]; decide
          have hR2 : RSM σ_40 T n (0, p) := by rw [← RMS_1 (T := T) (n := n) (p := p) (x := B 5 0) (m := 4) qb]; exact h_40.2.1
          exact at53 _ hR2 hO2 (h_40.2.2.mb hM1) n1 qw
      · have q1 := h_40.1.2.mp (by omega)
        have qw : WRD T n p 2 := (bI_iff.mp q1.1).2
        have hRM : RSM σ_40 T n (0, TE T n p) := by rw [← RMS_3 (T := T) (n := n) (p := p) q1.1 q1.2]; exact h_40.2.1
        have hO2 := hO1.tr h_40.2.2.l
        refine V_aload_0 (pc := 46) dX6_lineHere_46 ?_
        refine V_callV0z (pc := 47) dX6_lineHere_47 kv_X6_194 rc_34 (by omega) (d - 1) (by omega) rfl (c_X6_pageLine (by omega) (hO2.tpe hT) hn hTr hRM (h_40.2.2.mb hM1) hD (by omega)) (fun σ_47 h_47 => ?_)
        refine V_goto (pc := 50) 96 dX6_lineHere_50 (by decide) ?_
        refine V_vret (pc := 96) dX6_lineHere_96 rfl ?_
        refine ⟨rfl, ?_⟩
        rw [L2 qw, PGL_e (by omega)]
        exact ⟨h_47.1, fun _ => h_47.2.1, hO2.tr h_47.2.2⟩
  have hR1 := hR
  have hO1 : OffL σ σ := OffL.rf
  have hM1 := hM
  refine V_aload_0 (pc := 0) dX6_lineHere_0 ?_
  refine V_aload_0 (pc := 1) dX6_lineHere_1 ?_
  refine V_ldc2 (pc := 2) dX6_lineHere_2 (z := 6950) ldc_X6_183 ?_
  refine V_callV1p (pc := 5) dX6_lineHere_5 kv_X6_132 rc_34 (by omega) (d - 1) (by omega) rfl (c_X6_is (by omega) hR1 (w := 1) (by decide) COD_e1 (by omega)) ?_
  refine V_iconst (pc := 8) dX6_lineHere_8 ?_
  refine V_iconst (pc := 9) dX6_lineHere_9 ?_
  refine V_callV3i (pc := 10) dX6_lineHere_10 kv_X6_185 rc_34 (by omega) (d - 1) (by omega) rfl (c_X6_isRoom (by omega) (hO1.tpe hT) hn hTr hR1 (bI_01 _) (by omega) (x := B 4 0) hM1.r3.1 (by omega) (by omega)) (fun v_10 σ_10 h_10 => ?_)
  have hv9 := h_10.1.1
  refine V_if_eq (pc := 13) 23 dX6_lineHere_13 (by decide) (by omega) (fun c_13 => ?_) (fun c_13 => ?_)
  · have hO2 := hO1.tr h_10.2.2.l
    by_cases qw : WRD T n p 1
    · have qb : bI (((0, p) : Int × Int).1 = 0 ∧ WRD T n ((0, p) : Int × Int).2 1) = 1 := bI_t ⟨rfl, qw⟩
      have qe : B 4 0 = 4 := Decidable.byContradiction fun z => by have := h_10.1.2.mpr ⟨qb, z⟩; omega
      exact bad23 _ (3, TS T n p) (by rw [← RMS_2 (T := T) (n := n) (p := p) qb qe]; exact h_10.2.1) hO2 (by show (3 : Int) ≠ 0; decide) (by rw [L1 qw]; unfold INL; rw [if_pos (by omega)])
    · have qb : bI (((0, p) : Int × Int).1 = 0 ∧ WRD T n ((0, p) : Int × Int).2 1) ≠ 1 := by rw [bI_f (fun z => qw z.2)]; decide
      have hR2 : RSM σ_10 T n (0, p) := by rw [← RMS_1 (T := T) (n := n) (p := p) (x := B 4 0) (m := 4) qb]; exact h_10.2.1
      exact at23 _ hR2 hO2 (h_10.2.2.mb hM1) qw
  · have q1 := h_10.1.2.mp (by omega)
    have qw : WRD T n p 1 := (bI_iff.mp q1.1).2
    have hRM : RSM σ_10 T n (0, TE T n p) := by rw [← RMS_3 (T := T) (n := n) (p := p) q1.1 q1.2]; exact h_10.2.1
    have hO2 := hO1.tr h_10.2.2.l
    refine V_aload_0 (pc := 16) dX6_lineHere_16 ?_
    refine V_callV0z (pc := 17) dX6_lineHere_17 kv_X6_189 rc_34 (by omega) (d - 1) (by omega) rfl (c_X6_inkLine (by omega) (hO2.tpe hT) hn hTr hRM (h_10.2.2.mb hM1) hD (by omega)) (fun σ_17 h_17 => ?_)
    refine V_goto (pc := 20) 96 dX6_lineHere_20 (by decide) ?_
    refine V_vret (pc := 96) dX6_lineHere_96 rfl ?_
    refine ⟨rfl, ?_⟩
    rw [L1 qw, INL_e (by omega)]
    exact ⟨h_17.1, fun q => MB_if q (h_17.2.1 q), hO2.tr h_17.2.2⟩

set_option maxRecDepth 20000 in
set_option maxHeartbeats 1000000 in
theorem c_X6_clears {d : Nat} (hd : 1 ≤ d) {σ : MM}  : V yX6_clears cX6_clears 2 none d (QZ (fun σ' => MB σ' 4 zB ∧ OffL σ σ')) 0 [some (vR 34 0), none] [] σ := by
  have loop : ∀ i : Nat, i ≤ 7 → ∀ σi : MM, ((σi 40 0 4 = 0 ∧ ∀ x : Int, 0 ≤ x ∧ x < (i : Int) → σi 41 0 (28 + x) = 0) ∧ OffL σ σi) → V yX6_clears cX6_clears 2 none d (QZ (fun σ' => MB σ' 4 zB ∧ OffL σ σ')) 9 [some (vR 34 0), some (vI (i : Int))] [] σi := by
    refine up_ind (P := fun i : Nat => ∀ σi : MM, ((σi 40 0 4 = 0 ∧ ∀ x : Int, 0 ≤ x ∧ x < (i : Int) → σi 41 0 (28 + x) = 0) ∧ OffL σ σi) → V yX6_clears cX6_clears 2 none d (QZ (fun σ' => MB σ' 4 zB ∧ OffL σ σ')) 9 [some (vR 34 0), some (vI (i : Int))] [] σi) ?_ ?_
    · intro σi hI
      refine V_iload_1 (pc := 9) dX6_clears_9 ?_
      refine V_bipush (pc := 10) dX6_clears_10 (by decide) ?_
      refine V_icmp_ge (pc := 12) 27 dX6_clears_12 (by decide) (by omega) (by omega) (fun c_12 => ?_) (fun c_12 => ?_)
      · refine V_vret (pc := 27) dX6_clears_27 rfl ?_
        refine ⟨rfl, ⟨⟨hI.1.1, ?_⟩, fun x hx => ?_, fun x hx => ?_, fun x hx => ?_, fun x hx => ?_⟩, hI.2⟩
        · have e := hI.1.2
          exact ⟨e 0 (by omega), e 1 (by omega), e 2 (by omega), e 3 (by omega), e 4 (by omega), e 5 (by omega), e 6 (by omega)⟩
        · exact absurd hx (by show ¬ (0 ≤ x ∧ x < 0); omega)
        · exact absurd hx (by show ¬ (0 ≤ x ∧ x < 0); omega)
        · exact absurd hx (by show ¬ (0 ≤ x ∧ x < 0); omega)
        · exact absurd hx (by show ¬ (0 ≤ x ∧ x < 0); omega)
      · exact absurd c_12 (by omega)
    · intro i hi ih σi hI
      refine V_iload_1 (pc := 9) dX6_clears_9 ?_
      refine V_bipush (pc := 10) dX6_clears_10 (by decide) ?_
      refine V_icmp_ge (pc := 12) 27 dX6_clears_12 (by decide) (by omega) (by omega) (fun c_12 => ?_) (fun c_12 => ?_)
      · exact absurd c_12 (by omega)
      · refine V_aload_0 (pc := 15) dX6_clears_15 ?_
        refine V_iload_1 (pc := 16) dX6_clears_16 ?_
        refine V_iconst (pc := 17) dX6_clears_17 ?_
        refine V_callV2z (pc := 18) dX6_clears_18 kv_X6_169 rc_34 (by omega) (d - 1) (by omega) rfl (c_X6_tells (by omega) (by omega)) (fun σ_18 h_18 => ?_)
        subst h_18
        refine V_iinc_1 (pc := 21) dX6_clears_21 ?_
        refine V_goto (pc := 24) 9 dX6_clears_24 (by decide) ?_
        refine V.sub (by simp only [subL, Option.some.injEq, Sum.inl.injEq, Sum.inr.injEq, reduceCtorEq, true_or, or_true, false_or, true_and, and_true]; omega) (ih _ ⟨⟨?_, fun x hx => ?_⟩, hI.2.tr (OffL.set (by unfold ISL; omega))⟩)
        · rw [setI_tag (by decide)]; exact hI.1.1
        · by_cases q : x = i
          · subst q; exact setI_same _ _ _ _ _
          · rw [setI_x (by omega)]; exact hI.1.2 x (by omega)
  refine V_aload_0 (pc := 0) dX6_clears_0 ?_
  refine V_getc (pc := 1) dX6_clears_1 gf_X6_31 (by omega) ?_
  refine V_iconst (pc := 4) dX6_clears_4 ?_
  refine V_iconst (pc := 5) dX6_clears_5 ?_
  refine V_iast (pc := 6) dX6_clears_6 sh_40 (by omega) (by omega) ?_
  refine V_iconst (pc := 7) dX6_clears_7 ?_
  refine V_istore_1 (pc := 8) dX6_clears_8 ?_
  exact loop 0 (by omega) _ ⟨⟨setI_same _ _ _ _ _, fun x hx => by omega⟩, OffL.set (by unfold ISL; omega)⟩
