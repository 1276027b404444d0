/-! THE REFERENCE's rows and tape -/
theorem iN_bm (x : Int) : iN x = iN (x.bmod 4294967296) := by
  show Int32.ofInt x = Int32.ofInt (x.bmod 4294967296)
  apply Int32.toInt_inj.mp
  rw [Int32.toInt_ofInt, Int32.toInt_ofInt]
  exact Int.bmod_bmod.symm
theorem V_l2i_m {yy : MethodName} {cc : ByteArray} {nL d pc : Nat} {ret : Option FieldType} {Q : Option AV → MM → Prop} {ls : List (Option AV)} {st : List AV} {σ : MM} {x : Int} (d0 : decode cc pc = .ok (.l2i, 1)) (k : V yy cc nL ret d Q (pc + 1) ls (vI (x.bmod 4294967296) :: st) σ) : V yy cc nL ret d Q pc ls (vL x :: st) σ := by
  intro hn p l e R s m args below meth c D ca ad A cells slots C H locs la hP hS hl
  exact lv_l2i C.x C.b d0 ((lI_i x).trans (iN_bm x)) (k hn p l e R s m args below meth c D ca ad A cells slots C H locs la hP hS hl)

set_option maxRecDepth 20000 in
set_option maxHeartbeats 1000000 in
theorem c_X6_cut {d : Nat} (hd : 0 ≤ d) {σ : MM} {x w : Int} (hx : LR x) (hw : 0 ≤ w ∧ w ≤ 3) : V yX6_cut cX6_cut 3 (some .long) d (QJ (fun v σ' => v = CUT w x ∧ σ' = σ)) 0 [some (vL x), none, some (vI w)] [] σ := by
  have h8 : -128 ≤ b8 x ∧ b8 x ≤ 127 := b8_in x
  have h16 : -32768 ≤ b16 x ∧ b16 x ≤ 32767 := by
    have h3 := Int.le_bmod (x := x) (m := 65536) (by decide)
    have h4 := Int.bmod_lt (x := x) (m := 65536) (by decide)
    unfold b16
    omega
  have h32 : -2147483648 ≤ x.bmod 4294967296 ∧ x.bmod 4294967296 ≤ 2147483647 := by
    have h5 := Int.le_bmod (x := x) (m := 4294967296) (by decide)
    have h6 := Int.bmod_lt (x := x) (m := 4294967296) (by decide)
    omega
  refine V_iload_2 (pc := 0) dX6_cut_0 ?_
  refine V_if_ne (pc := 1) 11 dX6_cut_1 (by decide) (by omega) (fun c_1 => ?_) (fun c_1 => ?_)
  · refine V_iload_2 (pc := 11) dX6_cut_11 ?_
    refine V_iconst (pc := 12) dX6_cut_12 ?_
    refine V_icmp_ne (pc := 13) 23 dX6_cut_13 (by decide) (by omega) (by omega) (fun c_13 => ?_) (fun c_13 => ?_)
    · refine V_iload_2 (pc := 23) dX6_cut_23 ?_
      refine V_iconst (pc := 24) dX6_cut_24 ?_
      refine V_icmp_ne (pc := 25) 34 dX6_cut_25 (by decide) (by omega) (by omega) (fun c_25 => ?_) (fun c_25 => ?_)
      · refine V_lload_0 (pc := 34) dX6_cut_34 ?_
        refine V_lret (pc := 35) dX6_cut_35 rfl ?_
        exact ⟨_, rfl, by unfold CUT; first | rw [if_pos (by omega)] | rw [if_neg (by omega), if_pos (by omega)] | rw [if_neg (by omega), if_neg (by omega), if_pos (by omega)] | rw [if_neg (by omega), if_neg (by omega), if_neg (by omega)], rfl⟩
      · refine V_lload_0 (pc := 28) dX6_cut_28 ?_
        refine V_l2i_m (pc := 29) dX6_cut_29 ?_
        refine V_i2l (pc := 30) dX6_cut_30 (by omega) ?_
        refine V_goto (pc := 31) 35 dX6_cut_31 (by decide) ?_
        refine V_lret (pc := 35) dX6_cut_35 rfl ?_
        exact ⟨_, rfl, by unfold CUT; first | rw [if_pos (by omega)] | rw [if_neg (by omega), if_pos (by omega)] | rw [if_neg (by omega), if_neg (by omega), if_pos (by omega)] | rw [if_neg (by omega), if_neg (by omega), if_neg (by omega)], rfl⟩
    · refine V_lload_0 (pc := 16) dX6_cut_16 ?_
      refine V_l2i (pc := 17) dX6_cut_17 ?_
      refine V_i2s (pc := 18) dX6_cut_18 ?_
      refine V_i2l (pc := 19) dX6_cut_19 (by omega) ?_
      refine V_goto (pc := 20) 35 dX6_cut_20 (by decide) ?_
      refine V_lret (pc := 35) dX6_cut_35 rfl ?_
      exact ⟨_, rfl, by unfold CUT; first | rw [if_pos (by omega)] | rw [if_neg (by omega), if_pos (by omega)] | rw [if_neg (by omega), if_neg (by omega), if_pos (by omega)] | rw [if_neg (by omega), if_neg (by omega), if_neg (by omega)], rfl⟩
  · refine V_lload_0 (pc := 4) dX6_cut_4 ?_
    refine V_l2i (pc := 5) dX6_cut_5 ?_
    refine V_i2b (pc := 6) dX6_cut_6 ?_
    refine V_i2l (pc := 7) dX6_cut_7 (by omega) ?_
    refine V_goto (pc := 8) 35 dX6_cut_8 (by decide) ?_
    refine V_lret (pc := 35) dX6_cut_35 rfl ?_
    exact ⟨_, rfl, by unfold CUT; first | rw [if_pos (by omega)] | rw [if_neg (by omega), if_pos (by omega)] | rw [if_neg (by omega), if_neg (by omega), if_pos (by omega)] | rw [if_neg (by omega), if_neg (by omega), if_neg (by omega)], rfl⟩

set_option maxRecDepth 20000 in
set_option maxHeartbeats 1000000 in
theorem c_X6_row {d : Nat} (hd : 2 ≤ d) {σ : MM} {X : CST} {s w m : Int} (hX : MRl σ X) (hO : XOK X) (hs0 : IR s) (hw : IR w) (hm : IR m) : V yX6_row cX6_row 5 (some .int) d (QI (fun v σ' => v = q_row s w m ∧ MRl σ' (NEWZ X (s_row X.Z s w m)) ∧ FM σ σ')) 0 [some (vR 34 0), some (vI s), some (vI w), some (vI m), none] [] σ := by
  have hM := hX.1
  have hG := hO.1
  have hW := hG.w
  have hs := hW.s
  have hF := hX.2.2.2.1
  have hT := hX.2.2.1
  have hI6 := hX.2.2.2.2
  have hZ := hX.2.1
  have h30 := hG.2.2.1
  have loop : ((0 ≤ s ∧ s < 4) ∧ (0 ≤ w ∧ w ≤ 3) ∧ (0 ≤ m ∧ m ≤ 60)) → ∀ i : Nat, i ≤ m.toNat → ∀ σi : MM, ((∀ (t : Nat) (k z : Int), t ≠ 37 → σi t k z = (setI (setI (setI σ 34 0 0 0) 35 0 s w) 36 0 s m) t k z) ∧ (∀ x : Int, 0 ≤ x ∧ x < (i : Int) → σi 37 0 (60 * s + x) = 0) ∧ ∀ x : Int, ¬ (60 * s ≤ x ∧ x < 60 * s + 60) → σi 37 0 x = σ 37 0 x) → V yX6_row cX6_row 5 (some .int) d (QI (fun v σ' => v = q_row s w m ∧ MRl σ' (NEWZ X (s_row X.Z s w m)) ∧ FM σ σ')) 57 [some (vR 34 0), some (vI s), some (vI w), some (vI m), some (vI (i : Int))] [] σi := by
    intro hR
    refine up_ind (P := fun i : Nat => ∀ σi : MM, ((∀ (t : Nat) (k z : Int), t ≠ 37 → σi t k z = (setI (setI (setI σ 34 0 0 0) 35 0 s w) 36 0 s m) t k z) ∧ (∀ x : Int, 0 ≤ x ∧ x < (i : Int) → σi 37 0 (60 * s + x) = 0) ∧ ∀ x : Int, ¬ (60 * s ≤ x ∧ x < 60 * s + 60) → σi 37 0 x = σ 37 0 x) → V yX6_row cX6_row 5 (some .int) d (QI (fun v σ' => v = q_row s w m ∧ MRl σ' (NEWZ X (s_row X.Z s w m)) ∧ FM σ σ')) 57 [some (vR 34 0), some (vI s), some (vI w), some (vI m), some (vI (i : Int))] [] σi) ?_ ?_
    · intro σi hI
      refine V_iload_4 (pc := 57) dX6_row_57 ?_
      refine V_iload_3 (pc := 59) dX6_row_59 ?_
      refine V_icmp_ge (pc := 60) 82 dX6_row_60 (by decide) (by omega) (by omega) (fun c_60 => ?_) (fun c_60 => ?_)
      · refine V_iconst (pc := 82) dX6_row_82 ?_
        refine V_iretI (pc := 83) dX6_row_83 rfl ?_
        have hMZ : MZ σi (ZRW X.Z s w m) := fun k hk => by
          have e35 : σi 35 0 k = if k = s then w else σ 35 0 k := by
            rw [hI.1 35 0 k (by decide)]
            by_cases q : k = s
            · subst q; rw [if_pos rfl, setI_ne (by decide), setI_same]
            · rw [if_neg q, setI_ne (by decide), setI_x q, setI_ne (by decide)]
          have e36 : σi 36 0 k = if k = s then m else σ 36 0 k := by
            rw [hI.1 36 0 k (by decide)]
            by_cases q : k = s
            · subst q; rw [if_pos rfl, setI_same]
            · rw [if_neg q, setI_x q, setI_ne (by decide), setI_ne (by decide)]
          by_cases q : k = s
          · subst q
            rw [e35, e36, if_pos rfl, if_pos rfl]
            simp only [ZRW, if_true]
            exact Or.inr ⟨trivial, ⟨rfl, by omega⟩, ⟨rfl, by omega⟩, fun j hj => ⟨hI.2.1 j (by have : j < m := hj.2; omega), by show (-9223372036854775808 : Int) ≤ 0 ∧ (0 : Int) ≤ 9223372036854775807; omega⟩⟩
          · rw [e35, e36, if_neg q, if_neg q]
            have hk9 := hZ k hk
            simp only [ZRW, q, if_false]
            rcases hk9 with a | a
            · exact Or.inl a
            · exact Or.inr ⟨a.1, a.2.1, a.2.2.1, fun j hj => by rw [hI.2.2 (60 * k + j) (by have := a.2.2.1; have : j < X.Z 2 k 0 := hj.2; omega)]; exact a.2.2.2 j hj⟩
        have hN := hX.newz (Z := ZRW X.Z s w m) (σ' := σi) (fun t k z a b => by
          rw [hI.1 t k z (by omega), setI_ne (by omega), setI_ne (by omega)]
          exact (KM.set (σ := σ) (t := 34) (k := 0) (z := 0) (v := 0) (by unfold SCM; omega)) t k z b) hMZ
        exact ⟨_, rfl, by unfold q_row; rw [if_neg (by unfold r_row; omega), if_neg (by omega)], by unfold s_row; rw [if_neg (by unfold r_row; omega), if_neg (by omega)]; exact hN.1, hN.2⟩
      · exact absurd c_60 (by omega)
    · intro i hi ih σi hI
      refine V_iload_4 (pc := 57) dX6_row_57 ?_
      refine V_iload_3 (pc := 59) dX6_row_59 ?_
      refine V_icmp_ge (pc := 60) 82 dX6_row_60 (by decide) (by omega) (by omega) (fun c_60 => ?_) (fun c_60 => ?_)
      · exact absurd c_60 (by omega)
      · refine V_aload_0 (pc := 63) dX6_row_63 ?_
        refine V_getc (pc := 64) dX6_row_64 gf_X6_16 (by omega) ?_
        refine V_bipush (pc := 67) dX6_row_67 (by decide) ?_
        refine V_iload_1 (pc := 69) dX6_row_69 ?_
        refine V_imul (pc := 70) dX6_row_70 ?_
        refine V_iload_4 (pc := 71) dX6_row_71 ?_
        refine V_iadd (pc := 73) dX6_row_73 ?_
        refine V_lconst (pc := 74) dX6_row_74 (z := 0) rfl ?_
        refine V_jast (pc := 75) dX6_row_75 sh_37 (by omega) (by omega) ?_
        refine V_iinc_4 (pc := 76) dX6_row_76 ?_
        refine V_goto (pc := 79) 57 dX6_row_79 (by decide) ?_
        refine V.sub (by simp only [subL, Option.some.injEq, Sum.inl.injEq, reduceCtorEq, true_or, or_true, false_or, true_and, and_true]; omega) (ih _ ⟨fun t k z a => by rw [setI_ne a]; exact hI.1 t k z a, fun x hx => ?_, fun x hx => by rw [setI_x (by omega)]; exact hI.2.2 x hx⟩)
        by_cases q : x = i
        · subst q; rw [setI_same]
        · rw [setI_x (by omega)]; exact hI.2.1 x (by omega)
  refine V_aload_0 (pc := 0) dX6_row_0 ?_
  refine V_iconst (pc := 1) dX6_row_1 ?_
  refine V_puti (pc := 2) dX6_row_2 gf_X6_74 (by omega) ?_
  have hM := (KM.set (σ := σ) (t := 34) (k := 0) (z := 0) (v := 0) (by unfold SCM; omega)).mb hM
  refine V_iload_1 (pc := 5) dX6_row_5 ?_
  refine V_callS1p (pc := 6) dX6_row_6 kv_X6_83 (d - 1) (by omega) rfl (c_X6_isSlot (by omega) (by omega)) ?_
  refine V_if_eq_b (pc := 9) 30 dX6_row_9 (by decide) (fun c_9 => ?_) (fun c_9 => ?_)
  · refine V_bipush (pc := 30) dX6_row_30 (by decide) ?_
    refine V_iretI (pc := 32) dX6_row_32 rfl ?_
    exact ⟨_, rfl, by unfold q_row; rw [if_pos (by unfold r_row; omega)], by unfold s_row; rw [if_pos (by unfold r_row; omega)]; exact (KM.set (σ := σ) (t := 34) (k := 0) (z := 0) (v := 0) (by unfold SCM; omega)).mrl hX, (KM.set (σ := σ) (t := 34) (k := 0) (z := 0) (v := 0) (by unfold SCM; omega)).fm⟩
  · refine V_iload_2 (pc := 12) dX6_row_12 ?_
    refine V_i2l (pc := 13) dX6_row_13 (by omega) ?_
    refine V_lconst (pc := 14) dX6_row_14 (z := 0) rfl ?_
    refine V_ldc2 (pc := 15) dX6_row_15 (z := 3) ldc_X6_77 ?_
    refine V_callS3p (pc := 18) dX6_row_18 kv_X6_79 (d - 1) (by omega) rfl (c_X6_in (by omega) (by omega) (by omega) (by omega)) ?_
    refine V_if_eq_b (pc := 21) 30 dX6_row_21 (by decide) (fun c_21 => ?_) (fun c_21 => ?_)
    · refine V_bipush (pc := 30) dX6_row_30 (by decide) ?_
      refine V_iretI (pc := 32) dX6_row_32 rfl ?_
      exact ⟨_, rfl, by unfold q_row; rw [if_pos (by unfold r_row; omega)], by unfold s_row; rw [if_pos (by unfold r_row; omega)]; exact (KM.set (σ := σ) (t := 34) (k := 0) (z := 0) (v := 0) (by unfold SCM; omega)).mrl hX, (KM.set (σ := σ) (t := 34) (k := 0) (z := 0) (v := 0) (by unfold SCM; omega)).fm⟩
    · refine V_iload_3 (pc := 24) dX6_row_24 ?_
      refine V_bipush (pc := 25) dX6_row_25 (by decide) ?_
      refine V_icmp_le (pc := 27) 33 dX6_row_27 (by decide) (by omega) (by omega) (fun c_27 => ?_) (fun c_27 => ?_)
      · refine V_iload_3 (pc := 33) dX6_row_33 ?_
        refine V_if_ge (pc := 34) 40 dX6_row_34 (by decide) (by omega) (fun c_34 => ?_) (fun c_34 => ?_)
        · refine V_aload_0 (pc := 40) dX6_row_40 ?_
          refine V_getc (pc := 41) dX6_row_41 gf_X6_7 (by omega) ?_
          refine V_iload_1 (pc := 44) dX6_row_44 ?_
          refine V_iload_2 (pc := 45) dX6_row_45 ?_
          refine V_iast (pc := 46) dX6_row_46 sh_35 (by omega) (by omega) ?_
          refine V_aload_0 (pc := 47) dX6_row_47 ?_
          refine V_getc (pc := 48) dX6_row_48 gf_X6_13 (by omega) ?_
          refine V_iload_1 (pc := 51) dX6_row_51 ?_
          refine V_iload_3 (pc := 52) dX6_row_52 ?_
          refine V_iast (pc := 53) dX6_row_53 sh_36 (by omega) (by omega) ?_
          refine V_iconst (pc := 54) dX6_row_54 ?_
          refine V_istore_4 (pc := 55) dX6_row_55 ?_
          exact loop (by omega) 0 (by omega) _ ⟨fun _ _ _ _ => rfl, fun x hx => by omega, fun x hx => by rw [setI_ne (by decide), setI_ne (by decide), setI_ne (by decide)]⟩
        · refine V_bipush (pc := 37) dX6_row_37 (by decide) ?_
          refine V_iretI (pc := 39) dX6_row_39 rfl ?_
          exact ⟨_, rfl, by unfold q_row; rw [if_neg (by unfold r_row; omega), if_pos (by omega)], by unfold s_row; rw [if_neg (by unfold r_row; omega), if_pos (by omega)]; exact (KM.set (σ := σ) (t := 34) (k := 0) (z := 0) (v := 0) (by unfold SCM; omega)).mrl hX, (KM.set (σ := σ) (t := 34) (k := 0) (z := 0) (v := 0) (by unfold SCM; omega)).fm⟩
      · refine V_bipush (pc := 30) dX6_row_30 (by decide) ?_
        refine V_iretI (pc := 32) dX6_row_32 rfl ?_
        exact ⟨_, rfl, by unfold q_row; rw [if_pos (by unfold r_row; omega)], by unfold s_row; rw [if_pos (by unfold r_row; omega)]; exact (KM.set (σ := σ) (t := 34) (k := 0) (z := 0) (v := 0) (by unfold SCM; omega)).mrl hX, (KM.set (σ := σ) (t := 34) (k := 0) (z := 0) (v := 0) (by unfold SCM; omega)).fm⟩

set_option maxRecDepth 20000 in
set_option maxHeartbeats 1000000 in
theorem c_X6_write {d : Nat} (hd : 2 ≤ d) {σ : MM} {X : CST} {s i u : Int} (hX : MRl σ X) (hO : XOK X) (hs0 : IR s) (hi : IR i) (hv : LR u) : V yX6_write cX6_write 5 (some .int) d (QI (fun v σ' => v = q_write X.Z s i ∧ MRl σ' (NEWZ X (s_write X.Z s i u)) ∧ FM σ σ')) 0 [some (vR 34 0), some (vI s), some (vI i), some (vL u), none] [] σ := by
  have hM := hX.1
  have hG := hO.1
  have hW := hG.w
  have hs := hW.s
  have hF := hX.2.2.2.1
  have hT := hX.2.2.1
  have hI6 := hX.2.2.2.2
  have hZ := hX.2.1
  have h30 := hG.2.2.1
  refine V_aload_0 (pc := 0) dX6_write_0 ?_
  refine V_iconst (pc := 1) dX6_write_1 ?_
  refine V_puti (pc := 2) dX6_write_2 gf_X6_74 (by omega) ?_
  have hM := (KM.set (σ := σ) (t := 34) (k := 0) (z := 0) (v := 0) (by unfold SCM; omega)).mb hM
  refine V_iload_1 (pc := 5) dX6_write_5 ?_
  refine V_callS1p (pc := 6) dX6_write_6 kv_X6_83 (d - 1) (by omega) rfl (c_X6_isSlot (by omega) (by omega)) ?_
  refine V_if_ne_b (pc := 9) 15 dX6_write_9 (by decide) (fun c_9 => ?_) (fun c_9 => ?_)
  · have hZ9 := ((KM.set (σ := σ) (t := 34) (k := 0) (z := 0) (v := 0) (by unfold SCM; omega)).mz hZ).w (k := s) (by omega)
    refine V_aload_0 (pc := 15) dX6_write_15 ?_
    refine V_getc (pc := 16) dX6_write_16 gf_X6_7 (by omega) ?_
    refine V_iload_1 (pc := 19) dX6_write_19 ?_
    refine V_iald (pc := 20) dX6_write_20 sh_35 (by omega) (by omega) hZ9.1 ?_
    refine V_iconst (pc := 21) dX6_write_21 ?_
    refine V_icmp_ne (pc := 22) 28 dX6_write_22 (by decide) (by omega) (by omega) (fun c_22 => ?_) (fun c_22 => ?_)
    · have h1 : X.Z 0 s 0 = 1 := by omega
      obtain ⟨⟨h36, hn⟩, h37⟩ := ((KM.set (σ := σ) (t := 34) (k := 0) (z := 0) (v := 0) (by unfold SCM; omega)).mz hZ).c (k := s) (by omega) h1
      have hmw : MW X.Z s = X.Z 1 s 0 := if_neg (by omega)
      refine V_iload_2 (pc := 28) dX6_write_28 ?_
      refine V_i2l (pc := 29) dX6_write_29 (by omega) ?_
      refine V_lconst (pc := 30) dX6_write_30 (z := 0) rfl ?_
      refine V_aload_0 (pc := 31) dX6_write_31 ?_
      refine V_getc (pc := 32) dX6_write_32 gf_X6_13 (by omega) ?_
      refine V_iload_1 (pc := 35) dX6_write_35 ?_
      refine V_iald (pc := 36) dX6_write_36 sh_36 (by omega) (by omega) h36 ?_
      refine V_iconst (pc := 37) dX6_write_37 ?_
      refine V_isub (pc := 38) dX6_write_38 ?_
      refine V_i2l (pc := 39) dX6_write_39 (by omega) ?_
      refine V_callS3p (pc := 40) dX6_write_40 kv_X6_79 (d - 1) (by omega) rfl (c_X6_in (by omega) (by omega) (by omega) (by omega)) ?_
      refine V_if_ne_b (pc := 43) 49 dX6_write_43 (by decide) (fun c_43 => ?_) (fun c_43 => ?_)
      · refine V_aload_0 (pc := 49) dX6_write_49 ?_
        refine V_getc (pc := 50) dX6_write_50 gf_X6_16 (by omega) ?_
        refine V_bipush (pc := 53) dX6_write_53 (by decide) ?_
        refine V_iload_1 (pc := 55) dX6_write_55 ?_
        refine V_imul (pc := 56) dX6_write_56 ?_
        refine V_iload_2 (pc := 57) dX6_write_57 ?_
        refine V_iadd (pc := 58) dX6_write_58 ?_
        refine V_lload_3 (pc := 59) dX6_write_59 ?_
        refine V_aload_0 (pc := 60) dX6_write_60 ?_
        refine V_getc (pc := 61) dX6_write_61 gf_X6_7 (by omega) ?_
        refine V_iload_1 (pc := 64) dX6_write_64 ?_
        refine V_iald (pc := 65) dX6_write_65 sh_35 (by omega) (by omega) hZ9.1 ?_
        refine V_callS2j (pc := 66) dX6_write_66 kv_X6_87 (d - 1) (by omega) rfl (c_X6_cut (by omega) hv (by omega)) (fun v_66 σ_66 h_66 => ?_)
        obtain ⟨rfl, rfl⟩ := h_66
        refine V_jast (pc := 69) dX6_write_69 sh_37 (by omega) (by omega) ?_
        refine V_iconst (pc := 70) dX6_write_70 ?_
        refine V_iretI (pc := 71) dX6_write_71 rfl ?_
        have hMZ : MZ (setI (setI σ 34 0 0 0) 37 0 (60 * s + i) (CUT (MW X.Z s) u)) (ZWR X.Z s i u) := fun k hk => by
          have z0 : ZWR X.Z s i u 0 = X.Z 0 := by funext a b; simp [ZWR]
          have z1 : ZWR X.Z s i u 1 = X.Z 1 := by funext a b; simp [ZWR]
          have z2 : ZWR X.Z s i u 2 = X.Z 2 := by funext a b; simp [ZWR]
          rw [z0, z1, z2, setI_tag (t' := 35) (by decide), setI_tag (t' := 36) (by decide), setI_tag (t' := 35) (by decide), setI_tag (t' := 36) (by decide)]
          rcases hZ k hk with a | a
          · exact Or.inl a
          · refine Or.inr ⟨a.1, a.2.1, a.2.2.1, fun j hj => ?_⟩
            have hj9 := a.2.2.2 j hj
            by_cases q : k = s ∧ j = i
            · rw [q.1, q.2, setI_same, hmw]
              simp only [ZWR, true_and, and_self, if_true]
              exact CUT_in hv
            · have q2 : ¬ 60 * k + j = 60 * s + i := fun z => q (by omega)
              rw [setI_x q2, setI_ne (by decide)]
              simp only [ZWR, true_and, q, if_false]
              exact hj9
        have hN := hX.newz (Z := ZWR X.Z s i u) (fun t k z a b => by rw [setI_ne (by omega)]; exact (KM.set (σ := σ) (t := 34) (k := 0) (z := 0) (v := 0) (by unfold SCM; omega)) t k z b) hMZ
        exact ⟨_, rfl, by unfold q_write; rw [if_neg (by omega), if_neg (by omega), if_neg (by omega)], by unfold s_write; rw [if_neg (by omega), if_neg (by omega), if_neg (by omega)]; exact hN.1, hN.2⟩
      · refine V_bipush (pc := 46) dX6_write_46 (by decide) ?_
        refine V_iretI (pc := 48) dX6_write_48 rfl ?_
        exact ⟨_, rfl, by unfold q_write; rw [if_neg (by omega), if_neg (by omega), if_pos (by omega)], by unfold s_write; rw [if_neg (by omega), if_neg (by omega), if_pos (by omega)]; exact (KM.set (σ := σ) (t := 34) (k := 0) (z := 0) (v := 0) (by unfold SCM; omega)).mrl hX, (KM.set (σ := σ) (t := 34) (k := 0) (z := 0) (v := 0) (by unfold SCM; omega)).fm⟩
    · refine V_bipush (pc := 25) dX6_write_25 (by decide) ?_
      refine V_iretI (pc := 27) dX6_write_27 rfl ?_
      exact ⟨_, rfl, by unfold q_write; rw [if_neg (by omega), if_pos (by omega)], by unfold s_write; rw [if_neg (by omega), if_pos (by omega)]; exact (KM.set (σ := σ) (t := 34) (k := 0) (z := 0) (v := 0) (by unfold SCM; omega)).mrl hX, (KM.set (σ := σ) (t := 34) (k := 0) (z := 0) (v := 0) (by unfold SCM; omega)).fm⟩
  · refine V_bipush (pc := 12) dX6_write_12 (by decide) ?_
    refine V_iretI (pc := 14) dX6_write_14 rfl ?_
    exact ⟨_, rfl, by unfold q_write; rw [if_pos (by omega)], by unfold s_write; rw [if_pos (by omega)]; exact (KM.set (σ := σ) (t := 34) (k := 0) (z := 0) (v := 0) (by unfold SCM; omega)).mrl hX, (KM.set (σ := σ) (t := 34) (k := 0) (z := 0) (v := 0) (by unfold SCM; omega)).fm⟩
