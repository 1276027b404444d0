theorem OffA.crl {σ σ' : MM} {X : CST} {T : Int → Int} {n m : Int} (h : OffA σ σ') (hX : CRl σ X) (hr : RDF σ' T n) (hm : m = n) : CRl σ' (X.B, X.Z, T, (m, X.fk, X.fp), X.I, X.K) := by
  subst hm
  have e : ∀ t : Nat, t ≠ 1 → t ≠ 2 → σ' t = σ t := fun t a b => by funext k z; exact h t k z (fun q => a q.1) b
  refine ⟨⟨hX.b.cong (fun t ht => by rw [e t (by omega) (by omega)]), hX.g, fun y hy => ?_⟩, hX.z.cong (e 27 (by decide) (by decide)) (e 28 (by decide) (by decide)), hr, ?_, hX.i.cong (e 25 (by decide) (by decide)) (fun t ht b hb => by rw [e t (by omega) (by omega)])⟩
  · have := hX.c y hy
    have e2 : RS σ' 0 y = RS σ 0 y := by unfold RS; rw [e 21 (by decide) (by decide), e 22 (by decide) (by decide), e 23 (by decide) (by decide)]
    unfold RK at this ⊢
    rw [e2, e 21 (by decide) (by decide)]
    exact this
  · show σ' 0 0 13 = X.fk ∧ σ' 0 0 14 = X.fp ∧ _
    rw [e 0 (by decide) (by decide)]
    exact hX.f

set_option maxRecDepth 20000 in
set_option maxHeartbeats 1000000 in
theorem c_X5_feed {d : Nat} (hd : 1 ≤ d) {σ : MM} {X : CST} {a b c d9 e0 : Int} (hX : CRl σ X) (ha : IR a) (hb : IR b) (hc : IR c) (hd9 : IR d9) (he : IR e0) : V yX5_feed cX5_feed 6 (some .int) d (QI (fun v σ' => v = q_feed X ∧ CRl σ' (s_feed X a b c d9 e0) ∧ FC σ σ')) 0 [some (vR 0 0), some (vI a), some (vI b), some (vI c), some (vI d9), some (vI e0)] [] σ := by
  have hB := hX.b
  have hG := hX.g
  have hW := hX.w
  have hs := hW.s
  have hC := hX.c
  have hR := hX.r
  have hn7 := hR.2.1
  have hF := hX.f
  have hZ := hX.z
  have hIm := hX.i
  refine V_aload_0 (pc := 0) dX5_feed_0 ?_
  refine V_getc (pc := 1) dX5_feed_1 gf_X5_10 (by omega) ?_
  refine V_geti (pc := 4) dX5_feed_4 gf_X5_76 (by omega) hR.1 ?_
  refine V_bipush (pc := 7) dX5_feed_7 (by decide) ?_
  refine V_iadd (pc := 9) dX5_feed_9 ?_
  refine V_sipush (pc := 10) dX5_feed_10 (by decide) ?_
  refine V_icmp_le (pc := 13) 18 dX5_feed_13 (by decide) (by omega) (by omega) (fun c_13 => ?_) (fun c_13 => ?_)
  · refine V_aload_0 (pc := 18) dX5_feed_18 ?_
    refine V_getc (pc := 19) dX5_feed_19 gf_X5_10 (by omega) ?_
    refine V_iload_1 (pc := 22) dX5_feed_22 ?_
    refine V_callV1z (pc := 23) dX5_feed_23 kv_X5_79 rc_1 (by omega) (d - 1) (by omega) rfl (c_X3_addFour (by omega) hR (by omega) (by omega)) (fun σ_23 h_23 => ?_)
    refine V_aload_0 (pc := 26) dX5_feed_26 ?_
    refine V_getc (pc := 27) dX5_feed_27 gf_X5_10 (by omega) ?_
    refine V_iload_2 (pc := 30) dX5_feed_30 ?_
    refine V_callV1z (pc := 31) dX5_feed_31 kv_X5_79 rc_1 (by omega) (d - 1) (by omega) rfl (c_X3_addFour (by omega) h_23.1 (by omega) (by omega)) (fun σ_31 h_31 => ?_)
    refine V_aload_0 (pc := 34) dX5_feed_34 ?_
    refine V_getc (pc := 35) dX5_feed_35 gf_X5_10 (by omega) ?_
    refine V_iload_3 (pc := 38) dX5_feed_38 ?_
    refine V_callV1z (pc := 39) dX5_feed_39 kv_X5_79 rc_1 (by omega) (d - 1) (by omega) rfl (c_X3_addFour (by omega) h_31.1 (by omega) (by omega)) (fun σ_39 h_39 => ?_)
    refine V_aload_0 (pc := 42) dX5_feed_42 ?_
    refine V_getc (pc := 43) dX5_feed_43 gf_X5_10 (by omega) ?_
    refine V_iload_4 (pc := 46) dX5_feed_46 ?_
    refine V_callV1z (pc := 48) dX5_feed_48 kv_X5_79 rc_1 (by omega) (d - 1) (by omega) rfl (c_X3_addFour (by omega) h_39.1 (by omega) (by omega)) (fun σ_48 h_48 => ?_)
    refine V_aload_0 (pc := 51) dX5_feed_51 ?_
    refine V_getc (pc := 52) dX5_feed_52 gf_X5_10 (by omega) ?_
    refine V_iload_5 (pc := 55) dX5_feed_55 ?_
    refine V_callV1z (pc := 57) dX5_feed_57 kv_X5_79 rc_1 (by omega) (d - 1) (by omega) rfl (c_X3_addFour (by omega) h_48.1 (by omega) (by omega)) (fun σ_57 h_57 => ?_)
    refine V_aload_0 (pc := 60) dX5_feed_60 ?_
    refine V_getc (pc := 61) dX5_feed_61 gf_X5_10 (by omega) ?_
    refine V_geti (pc := 64) dX5_feed_64 gf_X5_76 (by omega) h_57.1.1 ?_
    refine V_iretI (pc := 67) dX5_feed_67 rfl ?_
    have hA := h_23.2.tr (h_31.2.tr (h_39.2.tr (h_48.2.tr h_57.2)))
    exact ⟨_, rfl, by unfold q_feed; rw [if_neg (by omega)]; omega, by unfold s_feed; rw [if_neg (by omega)]; exact hA.crl hX h_57.1 (by omega), hA.fc⟩
  · refine V_iconst (pc := 16) dX5_feed_16 ?_
    refine V_iretI (pc := 17) dX5_feed_17 rfl ?_
    exact ⟨_, rfl, by unfold q_feed; rw [if_pos (by omega)], by unfold s_feed; rw [if_pos (by omega)]; exact hX, FC.rf⟩

set_option maxRecDepth 20000 in
set_option maxHeartbeats 1000000 in
theorem c_X5_end {d : Nat} (hd : 0 ≤ d) {σ : MM} {X : CST} {m : Int} (hX : CRl σ X) (hm : IR m) : V yX5_end cX5_end 2 (some .int) d (QI (fun v σ' => v = q_end X m ∧ CRl σ' (s_end X m) ∧ FC σ σ')) 0 [some (vR 0 0), some (vI m)] [] σ := by
  have hB := hX.b
  have hG := hX.g
  have hW := hX.w
  have hs := hW.s
  have hC := hX.c
  have hR := hX.r
  have hn7 := hR.2.1
  have hF := hX.f
  have hZ := hX.z
  have hIm := hX.i
  refine V_iload_1 (pc := 0) dX5_end_0 ?_
  refine V_if_lt (pc := 1) 15 dX5_end_1 (by decide) (by omega) (fun c_1 => ?_) (fun c_1 => ?_)
  · refine V_iconst (pc := 15) dX5_end_15 ?_
    refine V_iretI (pc := 16) dX5_end_16 rfl ?_
    exact ⟨_, rfl, by unfold q_end; rw [if_pos (by omega)], by unfold s_end; rw [if_pos (by omega)]; exact hX, FC.rf⟩
  · refine V_iload_1 (pc := 4) dX5_end_4 ?_
    refine V_aload_0 (pc := 5) dX5_end_5 ?_
    refine V_getc (pc := 6) dX5_end_6 gf_X5_10 (by omega) ?_
    refine V_geti (pc := 9) dX5_end_9 gf_X5_76 (by omega) hR.1 ?_
    refine V_icmp_le (pc := 12) 17 dX5_end_12 (by decide) (by omega) (by omega) (fun c_12 => ?_) (fun c_12 => ?_)
    · refine V_aload_0 (pc := 17) dX5_end_17 ?_
      refine V_getc (pc := 18) dX5_end_18 gf_X5_10 (by omega) ?_
      refine V_iload_1 (pc := 21) dX5_end_21 ?_
      refine V_puti (pc := 22) dX5_end_22 gf_X5_76 (by omega) ?_
      refine V_iload_1 (pc := 25) dX5_end_25 ?_
      refine V_iretI (pc := 26) dX5_end_26 rfl ?_
      exact ⟨_, rfl, by unfold q_end; rw [if_neg (by omega)], by
        unfold s_end; rw [if_neg (by omega)]
        exact OffA.crl (X := X) (T := X.T) (n := m) (fun t k z a b => by have g : ¬ (t = 1 ∧ k = 0 ∧ z = 1) := (fun q => a ⟨q.1, q.2.2⟩); simp only [setI, g, if_false]) hX ⟨by simp [setI_at], by omega, fun x hx => by simp [setI_at]; exact hR.2.2 x (by omega)⟩ rfl, FC.set (by decide)⟩
    · refine V_iconst (pc := 15) dX5_end_15 ?_
      refine V_iretI (pc := 16) dX5_end_16 rfl ?_
      exact ⟨_, rfl, by unfold q_end; rw [if_pos (by omega)], by unfold s_end; rw [if_pos (by omega)]; exact hX, FC.rf⟩

set_option maxRecDepth 20000 in
set_option maxHeartbeats 1000000 in
theorem c_X5_fault {d : Nat} (hd : 0 ≤ d) {σ : MM} {X : CST} {w : Int} (hX : CRl σ X) (hw : IR w) : V yX5_fault cX5_fault 2 (some .int) d (QI (fun v σ' => v = q_fault X w ∧ σ' = σ)) 0 [some (vR 0 0), some (vI w)] [] σ := by
  have hB := hX.b
  have hG := hX.g
  have hW := hX.w
  have hs := hW.s
  have hC := hX.c
  have hR := hX.r
  have hn7 := hR.2.1
  have hF := hX.f
  have hZ := hX.z
  have hIm := hX.i
  refine V_iload_1 (pc := 0) dX5_fault_0 ?_
  refine V_if_ne (pc := 1) 9 dX5_fault_1 (by decide) (by omega) (fun c_1 => ?_) (fun c_1 => ?_)
  · refine V_iload_1 (pc := 9) dX5_fault_9 ?_
    refine V_iconst (pc := 10) dX5_fault_10 ?_
    refine V_icmp_ne (pc := 11) 21 dX5_fault_11 (by decide) (by omega) (by omega) (fun c_11 => ?_) (fun c_11 => ?_)
    · refine V_iconst (pc := 21) dX5_fault_21 ?_
      refine V_iretI (pc := 22) dX5_fault_22 rfl ?_
      exact ⟨_, rfl, by unfold q_fault; (repeat' split) <;> first | rfl | omega, rfl⟩
    · refine V_aload_0 (pc := 14) dX5_fault_14 ?_
      refine V_geti (pc := 15) dX5_fault_15 gf_X5_72 (by omega) hF.2.1 ?_
      refine V_goto (pc := 18) 22 dX5_fault_18 (by decide) ?_
      refine V_iretI (pc := 22) dX5_fault_22 rfl ?_
      exact ⟨_, rfl, by unfold q_fault; (repeat' split) <;> first | rfl | omega, rfl⟩
  · refine V_aload_0 (pc := 4) dX5_fault_4 ?_
    refine V_geti (pc := 5) dX5_fault_5 gf_X5_68 (by omega) hF.1 ?_
    refine V_iretI (pc := 8) dX5_fault_8 rfl ?_
    exact ⟨_, rfl, by unfold q_fault; (repeat' split) <;> first | rfl | omega, rfl⟩

theorem CRl.bok {σ σ1 σ' : MM} {X : CST} {v : Int} (hX : CRl σ X) (h : OffD σ σ1) (h2 : ∀ (t : Nat) (k z : Int), t ≠ 0 → ¬ (t = 1 ∧ z = 1) → σ' t k z = σ1 t k z) (h3 : σ' 1 0 1 = 0) (h4 : σ' 0 0 13 = (BOK X.T X.n).1.1) (h5 : σ' 0 0 14 = v) : (∀ t : Nat, t ≠ 0 → t ≠ 1 → σ' t = σ1 t) ∧ ZR σ' X.Z ∧ RDF σ' X.T 0 ∧ IMS σ' X.I X.K ∧ CB σ' 1 X.B ∧ CK σ' 0 X.B (bt 0) ∧ FC σ σ' := by
  have e : ∀ t : Nat, t ≠ 0 → t ≠ 1 → σ' t = σ1 t := fun t a b => by funext k z; exact h2 t k z a (fun q => b q.1)
  have e1 : ∀ t : Nat, 18 ≤ t → σ' t = σ t := fun t a => by rw [e t (by omega) (by omega)]; funext k z; exact h t k z (by omega) (by omega)
  refine ⟨e, hX.z.cong (e1 27 (by decide)) (e1 28 (by decide)), ⟨h3, by decide, fun x hx => by omega⟩, hX.i.cong (e1 25 (by decide)) (fun t ht b hb => ?_), hX.b.cong (fun t ht => ?_), fun y hy => ?_, fun t q => e1 t (by omega)⟩
  · rw [e t (by omega) (by omega)]; funext z; exact h t b z (by omega) (by omega)
  · rw [e t (by omega) (by omega)]; funext z; exact h t 1 z (by omega) (by omega)
  · have := hX.c y hy
    have e2 : RS σ' 0 y = RS σ 0 y := by unfold RS; rw [e1 21 (by decide), e1 22 (by decide), e1 23 (by decide)]
    unfold RK at this ⊢
    rw [e2, e1 21 (by decide)]
    exact this

set_option maxRecDepth 20000 in
set_option maxHeartbeats 1000000 in
theorem c_X5_book {d : Nat} (hd : 9 ≤ d) {σ : MM} {X : CST} (hX : CRl σ X) : V yX5_book cX5_book 1 (some .int) d (QI (fun v σ' => v = q_book X ∧ CRl σ' (s_book X) ∧ FC σ σ')) 0 [some (vR 0 0)] [] σ := by
  have hB := hX.b
  have hG := hX.g
  have hW := hX.w
  have hs := hW.s
  have hC := hX.c
  have hR := hX.r
  have hn7 := hR.2.1
  have hF := hX.f
  have hZ := hX.z
  have hIm := hX.i
  have hk1 := (BOK_in (T := X.T) hn7).1
  have hDD : DB (BOK X.T X.n).2 := (BOK_in (T := X.T) hn7).2
  have hDW := hDD.1
  have hDs := hDW.s
  refine V_aload_0 (pc := 0) dX5_book_0 ?_
  refine V_getc (pc := 1) dX5_book_1 gf_X5_19 (by omega) ?_
  refine V_callV0z (pc := 4) dX5_book_4 kv_X5_83 rc_3 (by omega) (d - 1) (by omega) rfl (c_X1_empty (by omega) (by omega)) (fun σ_4 h_4 => ?_)
  refine V_aload_0 (pc := 7) dX5_book_7 ?_
  refine V_getc (pc := 8) dX5_book_8 gf_X5_10 (by omega) ?_
  refine V_aload_0 (pc := 11) dX5_book_11 ?_
  refine V_getc (pc := 12) dX5_book_12 gf_X5_19 (by omega) ?_
  refine V_callV1z (pc := 15) dX5_book_15 kv_X5_86 rc_1 (by omega) (d - 1) (by omega) rfl (c_X3_readBook (by omega) (OffD.rdf h_4.2.D hR) h_4.1) (fun σ_15 h_15 => ?_)
  have hO := h_4.2.D.tr h_15.2.2
  refine V_aload_0 (pc := 18) dX5_book_18 ?_
  refine V_getc (pc := 19) dX5_book_19 gf_X5_10 (by omega) ?_
  refine V_iconst (pc := 22) dX5_book_22 ?_
  refine V_puti (pc := 23) dX5_book_23 gf_X5_76 (by omega) ?_
  refine V_aload_0 (pc := 26) dX5_book_26 ?_
  refine V_aload_0 (pc := 27) dX5_book_27 ?_
  refine V_getc (pc := 28) dX5_book_28 gf_X5_10 (by omega) ?_
  refine V_geti (pc := 31) dX5_book_31 gf_X5_90 (by omega) (v := (BOK X.T X.n).1.1) (by simp [setI_at]; exact h_15.1.1) ?_
  refine V_puti (pc := 34) dX5_book_34 gf_X5_68 (by omega) ?_
  refine V_aload_0 (pc := 37) dX5_book_37 ?_
  refine V_aload_0 (pc := 38) dX5_book_38 ?_
  refine V_getc (pc := 39) dX5_book_39 gf_X5_10 (by omega) ?_
  refine V_geti (pc := 42) dX5_book_42 gf_X5_93 (by omega) (v := σ_15 1 0 3) (by simp [setI_at]) ?_
  refine V_puti (pc := 45) dX5_book_45 gf_X5_72 (by omega) ?_
  refine V_aload_0 (pc := 48) dX5_book_48 ?_
  refine V_geti (pc := 49) dX5_book_49 gf_X5_68 (by omega) (v := (BOK X.T X.n).1.1) (by simp [setI_at]) ?_
  have hY := CRl.bok (v := σ_15 1 0 3) (σ1 := σ_15) hX hO (fun t k z a b => by have g1 : ¬ (t = 1 ∧ k = 0 ∧ z = 1) := (fun q => b ⟨q.1, q.2.2⟩); simp only [setI_at, a, g1, false_and, if_false]) (show setI (setI (setI σ_15 1 0 1 0) 0 0 13 (BOK X.T X.n).1.1) 0 0 14 (σ_15 1 0 3) 1 0 1 = 0 by simp [setI_at]) (by simp [setI_at]) (by simp [setI_at])
  obtain ⟨y1, y2, y3, y4, y5, y6, y7⟩ := hY
  refine V_if_eq (pc := 52) 58 dX5_book_52 (by decide) (by omega) (fun c_52 => ?_) (fun c_52 => ?_)
  · have hBd : CB (setI (setI (setI σ_15 1 0 1 0) 0 0 13 (BOK X.T X.n).1.1) 0 0 14 (σ_15 1 0 3)) 0 (BOK X.T X.n).2 := h_15.2.1.cong (fun t ht => by rw [y1 t (by omega) (by omega)])
    refine V_aload_0 (pc := 58) dX5_book_58 ?_
    refine V_getc (pc := 59) dX5_book_59 gf_X5_23 (by omega) ?_
    refine V_aload_0 (pc := 62) dX5_book_62 ?_
    refine V_getc (pc := 63) dX5_book_63 gf_X5_19 (by omega) ?_
    refine V_callV1z (pc := 66) dX5_book_66 kv_X5_96 rc_3 (by omega) (d - 1) (by omega) rfl (c_X1_copyFrom (by omega) (by omega) (by omega) (by omega) hBd hDs) (fun σ_66 h_66 => ?_)
    refine V_aload_0 (pc := 69) dX5_book_69 ?_
    refine V_getc (pc := 70) dX5_book_70 gf_X5_32 (by omega) ?_
    refine V_aload_0 (pc := 73) dX5_book_73 ?_
    refine V_getc (pc := 74) dX5_book_74 gf_X5_23 (by omega) ?_
    refine V_iconst (pc := 77) dX5_book_77 ?_
    refine V_callV2z (pc := 78) dX5_book_78 kv_X5_99 rc_18 (by omega) (d - 1) (by omega) rfl (c_X2_follow (by omega) (by omega) (by omega) h_66.1 hDW (by omega)) (fun σ_78 h_78 => ?_)
    have hsl := h_78.2.CB h_66.1
    refine V_aload_0 (pc := 81) dX5_book_81 ?_
    refine V_getc (pc := 82) dX5_book_82 gf_X5_23 (by omega) ?_
    refine V_geti (pc := 85) dX5_book_85 gf_X5_103 (by omega) hsl.s0 ?_
    refine V_iretI (pc := 88) dX5_book_88 rfl ?_
    refine ⟨_, rfl, by unfold q_book; rw [if_pos c_52], ?_, y7.tr (h_66.2.fc.tr h_78.2.fc)⟩
    unfold s_book
    rw [if_pos c_52, if_pos c_52]
    have e : ∀ t : Nat, t ≤ 2 ∨ (24 ≤ t ∧ t ≤ 33) → σ_78 t = (setI (setI (setI σ_15 1 0 1 0) 0 0 13 (BOK X.T X.n).1.1) 0 0 14 (σ_15 1 0 3)) t := fun t q => (h_78.2.tag (by omega)).trans (h_66.2.tag (t := t) (by omega))
    have eb : ∀ t : Nat, 3 ≤ t ∧ t ≤ 17 → ∀ b : Int, 3 ≤ b → σ_78 t b = (setI (setI (setI σ_15 1 0 1 0) 0 0 13 (BOK X.T X.n).1.1) 0 0 14 (σ_15 1 0 3)) t b := fun t q b hb => by rw [h_78.2.tag (t := t) (by omega)]; funext z; exact h_66.2 t b z (by omega)
    refine ⟨⟨hsl, BOK_GB hn7 c_52, h_78.1⟩, y2.cong (e 27 (by omega)) (e 28 (by omega)), y3.cong (by rw [e 1 (by omega)]) (e 2 (by omega)), ⟨?_, ?_, hk1.1, (by show -1 ≤ (-1 : Int) ∧ (-1 : Int) ≤ 700; omega)⟩, y4.cong (e 25 (by omega)) eb⟩
    · rw [e 0 (by omega)]; simp [setI_at]
    · rw [e 0 (by omega)]; simp [setI_at]; exact (h_15.1.2.2.2.1 c_52).2
  · refine V_bipush (pc := 55) dX5_book_55 (by decide) ?_
    refine V_iretI (pc := 57) dX5_book_57 rfl ?_
    refine ⟨_, rfl, by unfold q_book; rw [if_neg c_52], ?_, y7⟩
    unfold s_book
    rw [if_neg c_52, if_neg c_52]
    exact ⟨⟨y5, hG, y6⟩, y2, y3, ⟨by simp [setI_at], by simp [setI_at]; exact h_15.1.2.2.2.2.1 c_52, hk1.1, by show -1 ≤ (BOK X.T X.n).1.2 ∧ (BOK X.T X.n).1.2 ≤ 700; omega⟩, y4⟩

set_option maxRecDepth 20000 in
set_option maxHeartbeats 1000000 in
theorem c_X5_act {d : Nat} (hd : 6 ≤ d) {σ : MM} {X : CST} {e i y : Int} (hX : CRl σ X) (he : 0 ≤ e ∧ e < X.B 6 0) (hi : -1 ≤ i ∧ i < X.B 4 0) (hy : 0 ≤ y ∧ y ≤ X.B 1 0) : V yX5_act cX5_act 4 (some .int) d (QI (fun v σ' => v = q_act X.B e i y ∧ CRl σ' (NEWB X (s_act X.B e i y)) ∧ FC σ σ')) 0 [some (vR 0 0), some (vI e), some (vI i), some (vI y)] [] σ := by
  have hB := hX.b
  have hG := hX.g
  have hW := hX.w
  have hs := hW.s
  have hC := hX.c
  have hR := hX.r
  have hn7 := hR.2.1
  have hF := hX.f
  have hZ := hX.z
  have hIm := hX.i
  have h30 := hG.2.2.1
  refine V_aload_0 (pc := 0) dX5_act_0 ?_
  refine V_getc (pc := 1) dX5_act_1 gf_X5_23 (by omega) ?_
  refine V_gets (pc := 4) dX5_act_4 gf_X5_255 (by omega) ?_
  refine V_geti (pc := 7) dX5_act_7 gf_X5_265 (by omega) hB.dn ?_
  refine V_bipush (pc := 10) dX5_act_10 (by decide) ?_
  refine V_icmp_lt (pc := 12) 18 dX5_act_12 (by decide) (by omega) (by omega) (fun c_12 => ?_) (fun c_12 => ?_)
  · have hW2 := WB_act (e := e) (i := i) (y := y) hW (by omega) he hi hy
    have e1 : aB X.B e i y 1 = X.B 1 := aB_at (by decide)
    have e6 : aB X.B e i y 6 = X.B 6 := aB_at (by decide)
    refine V_aload_0 (pc := 18) dX5_act_18 ?_
    refine V_getc (pc := 19) dX5_act_19 gf_X5_23 (by omega) ?_
    refine V_gets (pc := 22) dX5_act_22 gf_X5_255 (by omega) ?_
    refine V_iload_1 (pc := 25) dX5_act_25 ?_
    refine V_iload_2 (pc := 26) dX5_act_26 ?_
    refine V_iload_3 (pc := 27) dX5_act_27 ?_
    refine V_callV3z (pc := 28) dX5_act_28 kv_X5_259 rc_14 (by omega) (d - 1) (by omega) rfl (c_X0_add (by omega) (n := X.B 17 0) (by omega) (by omega) hB.dn) (fun σ_28 h_28 => ?_)
    have hB2 : CB σ_28 1 (aB X.B e i y) := by rw [h_28]; exact CB_act hB
    have hO : OffB 1 σ σ_28 := by rw [h_28]; exact (((OffB.set (by decide)).tr (OffB.set (by decide))).tr (OffB.set (by decide))).tr (OffB.set (by decide))
    refine V_aload_0 (pc := 31) dX5_act_31 ?_
    refine V_getc (pc := 32) dX5_act_32 gf_X5_32 (by omega) ?_
    refine V_aload_0 (pc := 35) dX5_act_35 ?_
    refine V_getc (pc := 36) dX5_act_36 gf_X5_23 (by omega) ?_
    refine V_iconst (pc := 39) dX5_act_39 ?_
    refine V_callV2z (pc := 40) dX5_act_40 kv_X5_99 rc_18 (by omega) (d - 1) (by omega) rfl (c_X2_follow (by omega) (by omega) (by omega) hB2 hW2 (by omega)) (fun σ_40 h_40 => ?_)
    have hB3 := h_40.2.CB hB2
    refine V_aload_0 (pc := 43) dX5_act_43 ?_
    refine V_getc (pc := 44) dX5_act_44 gf_X5_32 (by omega) ?_
    refine V_gets (pc := 47) dX5_act_47 gf_X5_169 (by omega) ?_
    refine V_aload_0 (pc := 50) dX5_act_50 ?_
    refine V_getc (pc := 51) dX5_act_51 gf_X5_23 (by omega) ?_
    refine V_geti (pc := 54) dX5_act_54 gf_X5_175 (by omega) (hB3.s1.trans (congrFun e1 0)) ?_
    refine V_aald_19 (pc := 57) dX5_act_57 (by omega) (by omega) ?_
    refine V_iload_1 (pc := 58) dX5_act_58 ?_
    refine V_iald (pc := 59) dX5_act_59 sh_22 (by omega) (by omega) (v := SHD (aB X.B e i y) (bt 0) (X.B 1 0) e) (by have := h_40.1.sh (y := X.B 1 0) (e := e) (by rw [e1]; omega) (by rw [e6]; exact he); exact this) ?_
    refine V_iretI (pc := 60) dX5_act_60 rfl ?_
    have hN := CRl.newb hX hO h_40.2 hB2 ?_ h_40.1
    · exact ⟨_, rfl, by unfold q_act; rw [if_neg (by omega)], by unfold s_act; rw [if_neg (by omega)]; exact hN.1, hN.2⟩
    · refine ⟨hW2, fun x hx => ?_, ?_, fun q => ?_⟩
      · rw [e6] at hx; rw [aB_at (by decide)]; exact hG.2.1 x hx
      · simp [aB, sB]; omega
      · rw [aB_at (by decide)] at q; have := hG.2.2.2 q; omega
  · refine V_bipush (pc := 15) dX5_act_15 (by decide) ?_
    refine V_iretI (pc := 17) dX5_act_17 rfl ?_
    exact ⟨_, rfl, by unfold q_act; rw [if_pos (by omega)], by unfold s_act; rw [if_pos (by omega)]; exact hX, FC.rf⟩

set_option maxRecDepth 20000 in
set_option maxHeartbeats 1000000 in
theorem c_X5_retraces {d : Nat} (hd : 7 ≤ d) {σ : MM} {X : CST} {e i y : Int} (hX : CRl σ X) (he : IR e) (hi : IR i) (hy : IR y) : V yX5_retraces cX5_retraces 4 (some .int) d (QI (fun v σ' => v = q_retraces X.B e i y ∧ CRl σ' (NEWB X (s_retraces X.B e i y)) ∧ FC σ σ')) 0 [some (vR 0 0), some (vI e), some (vI i), some (vI y)] [] σ := by
  have hB := hX.b
  have hG := hX.g
  have hW := hX.w
  have hs := hW.s
  have hC := hX.c
  have hR := hX.r
  have hn7 := hR.2.1
  have hF := hX.f
  have hZ := hX.z
  have hIm := hX.i
  refine V_aload_0 (pc := 0) dX5_retraces_0 ?_
  refine V_iload_1 (pc := 1) dX5_retraces_1 ?_
  refine V_callV1p (pc := 2) dX5_retraces_2 kv_X5_125 rc_0 (by omega) (d - 1) (by omega) rfl (c_X5_noEntry (by omega) hB hs (by omega)) ?_
  refine V_if_ne_b (pc := 5) 24 dX5_retraces_5 (by decide) (fun c_5 => ?_) (fun c_5 => ?_)
  · refine V_bipush (pc := 24) dX5_retraces_24 (by decide) ?_
    refine V_iretI (pc := 26) dX5_retraces_26 rfl ?_
    first | exact ⟨_, rfl, by unfold q_retraces; rw [if_pos (by unfold r_ret; omega)], by unfold s_retraces; rw [if_pos (by unfold r_ret; omega)]; exact hX, FC.rf⟩ | exact ⟨_, rfl, by unfold q_retraces; rw [if_neg (by unfold r_ret; omega)]; exact h_31.1, by unfold s_retraces; rw [if_neg (by unfold r_ret; omega)]; exact h_31.2.1, h_31.2.2⟩
  · refine V_aload_0 (pc := 8) dX5_retraces_8 ?_
    refine V_iload_2 (pc := 9) dX5_retraces_9 ?_
    refine V_callV1p (pc := 10) dX5_retraces_10 kv_X5_106 rc_0 (by omega) (d - 1) (by omega) rfl (c_X5_noInk (by omega) hB hs (by omega)) ?_
    refine V_if_ne_b (pc := 13) 24 dX5_retraces_13 (by decide) (fun c_13 => ?_) (fun c_13 => ?_)
    · refine V_bipush (pc := 24) dX5_retraces_24 (by decide) ?_
      refine V_iretI (pc := 26) dX5_retraces_26 rfl ?_
      first | exact ⟨_, rfl, by unfold q_retraces; rw [if_pos (by unfold r_ret; omega)], by unfold s_retraces; rw [if_pos (by unfold r_ret; omega)]; exact hX, FC.rf⟩ | exact ⟨_, rfl, by unfold q_retraces; rw [if_neg (by unfold r_ret; omega)]; exact h_31.1, by unfold s_retraces; rw [if_neg (by unfold r_ret; omega)]; exact h_31.2.1, h_31.2.2⟩
    · refine V_aload_0 (pc := 16) dX5_retraces_16 ?_
      refine V_iload_3 (pc := 17) dX5_retraces_17 ?_
      refine V_callV1p (pc := 18) dX5_retraces_18 kv_X5_149 rc_0 (by omega) (d - 1) (by omega) rfl (c_X5_noYear (by omega) hB hs (by omega)) ?_
      refine V_if_eq_b (pc := 21) 27 dX5_retraces_21 (by decide) (fun c_21 => ?_) (fun c_21 => ?_)
      · refine V_aload_0 (pc := 27) dX5_retraces_27 ?_
        refine V_iload_1 (pc := 28) dX5_retraces_28 ?_
        refine V_iload_2 (pc := 29) dX5_retraces_29 ?_
        refine V_iload_3 (pc := 30) dX5_retraces_30 ?_
        refine V_callV3i (pc := 31) dX5_retraces_31 kv_X5_304 rc_0 (by omega) (d - 1) (by omega) rfl (c_X5_act (by omega) hX (by omega) (by omega) (by omega)) (fun v_31 σ_31 h_31 => ?_)
        refine V_iretI (pc := 34) dX5_retraces_34 rfl ?_
        first | exact ⟨_, rfl, by unfold q_retraces; rw [if_pos (by unfold r_ret; omega)], by unfold s_retraces; rw [if_pos (by unfold r_ret; omega)]; exact hX, FC.rf⟩ | exact ⟨_, rfl, by unfold q_retraces; rw [if_neg (by unfold r_ret; omega)]; exact h_31.1, by unfold s_retraces; rw [if_neg (by unfold r_ret; omega)]; exact h_31.2.1, h_31.2.2⟩
      · refine V_bipush (pc := 24) dX5_retraces_24 (by decide) ?_
        refine V_iretI (pc := 26) dX5_retraces_26 rfl ?_
        first | exact ⟨_, rfl, by unfold q_retraces; rw [if_pos (by unfold r_ret; omega)], by unfold s_retraces; rw [if_pos (by unfold r_ret; omega)]; exact hX, FC.rf⟩ | exact ⟨_, rfl, by unfold q_retraces; rw [if_neg (by unfold r_ret; omega)]; exact h_31.1, by unfold s_retraces; rw [if_neg (by unfold r_ret; omega)]; exact h_31.2.1, h_31.2.2⟩

set_option maxRecDepth 20000 in
set_option maxHeartbeats 1000000 in
theorem c_X5_bleaches {d : Nat} (hd : 7 ≤ d) {σ : MM} {X : CST} {e y : Int} (hX : CRl σ X) (he : IR e) (hy : IR y) : V yX5_bleaches cX5_bleaches 3 (some .int) d (QI (fun v σ' => v = q_bleaches X.B e y ∧ CRl σ' (NEWB X (s_bleaches X.B e y)) ∧ FC σ σ')) 0 [some (vR 0 0), some (vI e), some (vI y)] [] σ := by
  have hB := hX.b
  have hG := hX.g
  have hW := hX.w
  have hs := hW.s
  have hC := hX.c
  have hR := hX.r
  have hn7 := hR.2.1
  have hF := hX.f
  have hZ := hX.z
  have hIm := hX.i
  refine V_aload_0 (pc := 0) dX5_bleaches_0 ?_
  refine V_iload_1 (pc := 1) dX5_bleaches_1 ?_
  refine V_callV1p (pc := 2) dX5_bleaches_2 kv_X5_125 rc_0 (by omega) (d - 1) (by omega) rfl (c_X5_noEntry (by omega) hB hs (by omega)) ?_
  refine V_if_ne_b (pc := 5) 16 dX5_bleaches_5 (by decide) (fun c_5 => ?_) (fun c_5 => ?_)
  · refine V_bipush (pc := 16) dX5_bleaches_16 (by decide) ?_
    refine V_iretI (pc := 18) dX5_bleaches_18 rfl ?_
    first | exact ⟨_, rfl, by unfold q_bleaches; rw [if_pos (by unfold r_ble; omega)], by unfold s_bleaches; rw [if_pos (by unfold r_ble; omega)]; exact hX, FC.rf⟩ | exact ⟨_, rfl, by unfold q_bleaches; rw [if_neg (by unfold r_ble; omega)]; exact h_23.1, by unfold s_bleaches; rw [if_neg (by unfold r_ble; omega)]; exact h_23.2.1, h_23.2.2⟩
  · refine V_aload_0 (pc := 8) dX5_bleaches_8 ?_
    refine V_iload_2 (pc := 9) dX5_bleaches_9 ?_
    refine V_callV1p (pc := 10) dX5_bleaches_10 kv_X5_149 rc_0 (by omega) (d - 1) (by omega) rfl (c_X5_noYear (by omega) hB hs (by omega)) ?_
    refine V_if_eq_b (pc := 13) 19 dX5_bleaches_13 (by decide) (fun c_13 => ?_) (fun c_13 => ?_)
    · refine V_aload_0 (pc := 19) dX5_bleaches_19 ?_
      refine V_iload_1 (pc := 20) dX5_bleaches_20 ?_
      refine V_iconst (pc := 21) dX5_bleaches_21 ?_
      refine V_iload_2 (pc := 22) dX5_bleaches_22 ?_
      refine V_callV3i (pc := 23) dX5_bleaches_23 kv_X5_304 rc_0 (by omega) (d - 1) (by omega) rfl (c_X5_act (by omega) hX (by omega) (by omega) (by omega)) (fun v_23 σ_23 h_23 => ?_)
      refine V_iretI (pc := 26) dX5_bleaches_26 rfl ?_
      first | exact ⟨_, rfl, by unfold q_bleaches; rw [if_pos (by unfold r_ble; omega)], by unfold s_bleaches; rw [if_pos (by unfold r_ble; omega)]; exact hX, FC.rf⟩ | exact ⟨_, rfl, by unfold q_bleaches; rw [if_neg (by unfold r_ble; omega)]; exact h_23.1, by unfold s_bleaches; rw [if_neg (by unfold r_ble; omega)]; exact h_23.2.1, h_23.2.2⟩
    · refine V_bipush (pc := 16) dX5_bleaches_16 (by decide) ?_
      refine V_iretI (pc := 18) dX5_bleaches_18 rfl ?_
      first | exact ⟨_, rfl, by unfold q_bleaches; rw [if_pos (by unfold r_ble; omega)], by unfold s_bleaches; rw [if_pos (by unfold r_ble; omega)]; exact hX, FC.rf⟩ | exact ⟨_, rfl, by unfold q_bleaches; rw [if_neg (by unfold r_ble; omega)]; exact h_23.1, by unfold s_bleaches; rw [if_neg (by unfold r_ble; omega)]; exact h_23.2.1, h_23.2.2⟩

set_option maxRecDepth 20000 in
set_option maxHeartbeats 1000000 in
theorem c_X5_undo {d : Nat} (hd : 6 ≤ d) {σ : MM} {X : CST} (hX : CRl σ X) : V yX5_undo cX5_undo 1 (some .int) d (QI (fun v σ' => v = q_undo X.B ∧ CRl σ' (NEWB X (s_undo X.B)) ∧ FC σ σ')) 0 [some (vR 0 0)] [] σ := by
  have hB := hX.b
  have hG := hX.g
  have hW := hX.w
  have hs := hW.s
  have hC := hX.c
  have hR := hX.r
  have hn7 := hR.2.1
  have hF := hX.f
  have hZ := hX.z
  have hIm := hX.i
  have h30 := hG.2.2.1
  refine V_aload_0 (pc := 0) dX5_undo_0 ?_
  refine V_callV0p (pc := 1) dX5_undo_1 kv_X5_155 rc_0 (by omega) (d - 1) (by omega) rfl (c_X5_noBook (by omega) hB hs) ?_
  refine V_if_eq_b (pc := 4) 10 dX5_undo_4 (by decide) (fun c_4 => ?_) (fun c_4 => ?_)
  · refine V_aload_0 (pc := 10) dX5_undo_10 ?_
    refine V_getc (pc := 11) dX5_undo_11 gf_X5_23 (by omega) ?_
    refine V_gets (pc := 14) dX5_undo_14 gf_X5_255 (by omega) ?_
    refine V_geti (pc := 17) dX5_undo_17 gf_X5_265 (by omega) hB.dn ?_
    refine V_if_ne (pc := 20) 26 dX5_undo_20 (by decide) (by omega) (fun c_20 => ?_) (fun c_20 => ?_)
    · refine V_aload_0 (pc := 26) dX5_undo_26 ?_
      refine V_getc (pc := 27) dX5_undo_27 gf_X5_23 (by omega) ?_
      refine V_gets (pc := 30) dX5_undo_30 gf_X5_255 (by omega) ?_
      refine V_dup (pc := 33) dX5_undo_33 rfl ?_
      refine V_geti (pc := 34) dX5_undo_34 gf_X5_265 (by omega) hB.dn ?_
      refine V_iconst (pc := 37) dX5_undo_37 ?_
      refine V_isub (pc := 38) dX5_undo_38 ?_
      refine V_puti (pc := 39) dX5_undo_39 gf_X5_265 (by omega) ?_
      have hB2 := CB_put (t := 14) (k := 3) (t' := 17) (k' := 0) (v := (X.B 17 0 - 1)) hB (Or.inr (Or.inl ⟨rfl, rfl, rfl, rfl, (by omega)⟩))
      have hW2 := WB_done (v := (X.B 17 0 - 1)) hW (by omega)
      refine V_aload_0 (pc := 42) dX5_undo_42 ?_
      refine V_getc (pc := 43) dX5_undo_43 gf_X5_32 (by omega) ?_
      refine V_aload_0 (pc := 46) dX5_undo_46 ?_
      refine V_getc (pc := 47) dX5_undo_47 gf_X5_23 (by omega) ?_
      refine V_iconst (pc := 50) dX5_undo_50 ?_
      refine V_callV2z (pc := 51) dX5_undo_51 kv_X5_99 rc_18 (by omega) (d - 1) (by omega) rfl (c_X2_follow (by omega) (by omega) (by omega) hB2 hW2 (by omega)) (fun σ_51 h_51 => ?_)
      refine V_aload_0 (pc := 54) dX5_undo_54 ?_
      refine V_getc (pc := 55) dX5_undo_55 gf_X5_23 (by omega) ?_
      refine V_gets (pc := 58) dX5_undo_58 gf_X5_255 (by omega) ?_
      refine V_geti (pc := 61) dX5_undo_61 gf_X5_265 (by omega) (v := X.B 17 0 - 1) ((h_51.2.CB hB2).dn.trans (by simp [sB])) ?_
      refine V_iretI (pc := 64) dX5_undo_64 rfl ?_
      have hN := CRl.newb hX (OffB.set (t := 14) (b := 1) (j := 3) (v := (X.B 17 0 - 1)) (by decide)) h_51.2 hB2 ⟨hW2, fun x hx => hG.2.1 x hx, (by first | (simp [sB]; done) | (simp [sB]; omega)), fun q => by have := hG.2.2.2 q; first | (simp [sB]; done) | (simp [sB]; omega)⟩ h_51.1
      exact ⟨_, rfl, by unfold q_undo; rw [if_neg (by omega), if_neg (by omega)], by unfold s_undo; rw [if_neg (by omega), if_neg (by omega)]; exact hN.1, hN.2⟩
    · refine V_bipush (pc := 23) dX5_undo_23 (by decide) ?_
      refine V_iretI (pc := 25) dX5_undo_25 rfl ?_
      exact ⟨_, rfl, by unfold q_undo; rw [if_neg (by omega), if_pos (by omega)], by unfold s_undo; rw [if_neg (by omega), if_pos (by omega)]; exact hX, FC.rf⟩
  · refine V_bipush (pc := 7) dX5_undo_7 (by decide) ?_
    refine V_iretI (pc := 9) dX5_undo_9 rfl ?_
    exact ⟨_, rfl, by unfold q_undo; rw [if_pos (by omega)], by unfold s_undo; rw [if_pos (by omega)]; exact hX, FC.rf⟩

set_option maxRecDepth 20000 in
set_option maxHeartbeats 1000000 in
theorem c_X5_anew {d : Nat} (hd : 6 ≤ d) {σ : MM} {X : CST} (hX : CRl σ X) : V yX5_anew cX5_anew 2 (some .int) d (QI (fun v σ' => v = q_anew X.B ∧ CRl σ' (NEWB X (s_anew X.B)) ∧ FC σ σ')) 0 [some (vR 0 0), none] [] σ := by
  have hB := hX.b
  have hG := hX.g
  have hW := hX.w
  have hs := hW.s
  have hC := hX.c
  have hR := hX.r
  have hn7 := hR.2.1
  have hF := hX.f
  have hZ := hX.z
  have hIm := hX.i
  have h30 := hG.2.2.1
  refine V_aload_0 (pc := 0) dX5_anew_0 ?_
  refine V_callV0p (pc := 1) dX5_anew_1 kv_X5_155 rc_0 (by omega) (d - 1) (by omega) rfl (c_X5_noBook (by omega) hB hs) ?_
  refine V_if_eq_b (pc := 4) 10 dX5_anew_4 (by decide) (fun c_4 => ?_) (fun c_4 => ?_)
  · refine V_aload_0 (pc := 10) dX5_anew_10 ?_
    refine V_getc (pc := 11) dX5_anew_11 gf_X5_23 (by omega) ?_
    refine V_gets (pc := 14) dX5_anew_14 gf_X5_255 (by omega) ?_
    refine V_geti (pc := 17) dX5_anew_17 gf_X5_265 (by omega) hB.dn ?_
    refine V_istore_1 (pc := 20) dX5_anew_20 ?_
    refine V_aload_0 (pc := 21) dX5_anew_21 ?_
    refine V_getc (pc := 22) dX5_anew_22 gf_X5_23 (by omega) ?_
    refine V_gets (pc := 25) dX5_anew_25 gf_X5_255 (by omega) ?_
    refine V_iconst (pc := 28) dX5_anew_28 ?_
    refine V_puti (pc := 29) dX5_anew_29 gf_X5_265 (by omega) ?_
    have hB2 := CB_put (t := 14) (k := 3) (t' := 17) (k' := 0) (v := 0) hB (Or.inr (Or.inl ⟨rfl, rfl, rfl, rfl, (by omega)⟩))
    have hW2 := WB_done (v := 0) hW (by omega)
    refine V_aload_0 (pc := 32) dX5_anew_32 ?_
    refine V_getc (pc := 33) dX5_anew_33 gf_X5_32 (by omega) ?_
    refine V_aload_0 (pc := 36) dX5_anew_36 ?_
    refine V_getc (pc := 37) dX5_anew_37 gf_X5_23 (by omega) ?_
    refine V_iconst (pc := 40) dX5_anew_40 ?_
    refine V_callV2z (pc := 41) dX5_anew_41 kv_X5_99 rc_18 (by omega) (d - 1) (by omega) rfl (c_X2_follow (by omega) (by omega) (by omega) hB2 hW2 (by omega)) (fun σ_41 h_41 => ?_)
    refine V_iload_1 (pc := 44) dX5_anew_44 ?_
    refine V_iretI (pc := 45) dX5_anew_45 rfl ?_
    have hN := CRl.newb hX (OffB.set (t := 14) (b := 1) (j := 3) (v := 0) (by decide)) h_41.2 hB2 ⟨hW2, fun x hx => hG.2.1 x hx, (by first | (simp [sB]; done) | (simp [sB]; omega)), fun q => by have := hG.2.2.2 q; first | (simp [sB]; done) | (simp [sB]; omega)⟩ h_41.1
    exact ⟨_, rfl, by unfold q_anew; rw [if_neg (by omega)], by unfold s_anew; rw [if_neg (by omega)]; exact hN.1, hN.2⟩
  · refine V_bipush (pc := 7) dX5_anew_7 (by decide) ?_
    refine V_iretI (pc := 9) dX5_anew_9 rfl ?_
    exact ⟨_, rfl, by unfold q_anew; rw [if_pos (by omega)], by unfold s_anew; rw [if_pos (by omega)]; exact hX, FC.rf⟩

set_option maxRecDepth 20000 in
set_option maxHeartbeats 1000000 in
theorem c_X5_rate {d : Nat} (hd : 1 ≤ d) {σ : MM} {X : CST} {e m : Int} (hX : CRl σ X) (he : IR e) (hm : IR m) : V yX5_rate cX5_rate 4 (some .int) d (QI (fun v σ' => v = q_rate X.B e m ∧ CRl σ' (NEWB X (s_rate X.B e m)) ∧ FC σ σ')) 0 [some (vR 0 0), some (vI e), some (vI m), none] [] σ := by
  have hB := hX.b
  have hG := hX.g
  have hW := hX.w
  have hs := hW.s
  have hC := hX.c
  have hR := hX.r
  have hn7 := hR.2.1
  have hF := hX.f
  have hZ := hX.z
  have hIm := hX.i
  refine V_aload_0 (pc := 0) dX5_rate_0 ?_
  refine V_iload_1 (pc := 1) dX5_rate_1 ?_
  refine V_callV1p (pc := 2) dX5_rate_2 kv_X5_125 rc_0 (by omega) (d - 1) (by omega) rfl (c_X5_noEntry (by omega) hB hs (by omega)) ?_
  refine V_if_ne_b (pc := 5) 18 dX5_rate_5 (by decide) (fun c_5 => ?_) (fun c_5 => ?_)
  · refine V_bipush (pc := 18) dX5_rate_18 (by decide) ?_
    refine V_iretI (pc := 20) dX5_rate_20 rfl ?_
    exact ⟨_, rfl, by unfold q_rate; rw [if_pos (by unfold r_rate; omega)], by unfold s_rate; rw [if_pos (by unfold r_rate; omega)]; exact hX, FC.rf⟩
  · refine V_iload_2 (pc := 8) dX5_rate_8 ?_
    refine V_if_lt (pc := 9) 18 dX5_rate_9 (by decide) (by omega) (fun c_9 => ?_) (fun c_9 => ?_)
    · refine V_bipush (pc := 18) dX5_rate_18 (by decide) ?_
      refine V_iretI (pc := 20) dX5_rate_20 rfl ?_
      exact ⟨_, rfl, by unfold q_rate; rw [if_pos (by unfold r_rate; omega)], by unfold s_rate; rw [if_pos (by unfold r_rate; omega)]; exact hX, FC.rf⟩
    · refine V_iload_2 (pc := 12) dX5_rate_12 ?_
      refine V_bipush (pc := 13) dX5_rate_13 (by decide) ?_
      refine V_icmp_le (pc := 15) 21 dX5_rate_15 (by decide) (by omega) (by omega) (fun c_15 => ?_) (fun c_15 => ?_)
      · refine V_aload_0 (pc := 21) dX5_rate_21 ?_
        refine V_getc (pc := 22) dX5_rate_22 gf_X5_23 (by omega) ?_
        refine V_gets (pc := 25) dX5_rate_25 gf_X5_255 (by omega) ?_
        refine V_geti (pc := 28) dX5_rate_28 gf_X5_265 (by omega) hB.dn ?_
        refine V_if_le (pc := 31) 37 dX5_rate_31 (by decide) (by omega) (fun c_31 => ?_) (fun c_31 => ?_)
        · refine V_aload_0 (pc := 37) dX5_rate_37 ?_
          refine V_getc (pc := 38) dX5_rate_38 gf_X5_23 (by omega) ?_
          refine V_gets (pc := 41) dX5_rate_41 gf_X5_137 (by omega) ?_
          refine V_iload_1 (pc := 44) dX5_rate_44 ?_
          refine V_iald (pc := 45) dX5_rate_45 sh_11 (by omega) (by omega) (hB.a11 (by omega)) ?_
          refine V_istore_3 (pc := 46) dX5_rate_46 ?_
          refine V_aload_0 (pc := 47) dX5_rate_47 ?_
          refine V_getc (pc := 48) dX5_rate_48 gf_X5_23 (by omega) ?_
          refine V_gets (pc := 51) dX5_rate_51 gf_X5_137 (by omega) ?_
          refine V_iload_1 (pc := 54) dX5_rate_54 ?_
          refine V_iload_2 (pc := 55) dX5_rate_55 ?_
          refine V_iast (pc := 56) dX5_rate_56 sh_11 (by omega) (by omega) ?_
          refine V_iload_3 (pc := 57) dX5_rate_57 ?_
          refine V_iretI (pc := 58) dX5_rate_58 rfl ?_
          have hB2 := CB_put (k := e) (v := m) hB (Or.inr (Or.inr (Or.inr (Or.inr (Or.inr ⟨rfl, rfl, rfl⟩)))))
          have hO : OffB 1 σ (setI σ 11 1 e m) := OffB.set (by decide)
          have hC2 : CK (setI σ 11 1 e m) 0 (sB X.B 14 e m) (bt 0) := CK_says (fun t ht => by funext k; simp [sB, ht]) (hO.ck hC)
          have hN := CRl.newb hX hO OffC.rf hB2 ⟨WB_says hW (by omega), fun x hx => hG.2.1 x hx, hG.2.2.1, fun q => hG.2.2.2 q⟩ hC2
          exact ⟨_, rfl, by unfold q_rate; rw [if_neg (by unfold r_rate; omega), if_neg (by omega)], by unfold s_rate; rw [if_neg (by unfold r_rate; omega), if_neg (by omega)]; exact hN.1, hN.2⟩
        · refine V_bipush (pc := 34) dX5_rate_34 (by decide) ?_
          refine V_iretI (pc := 36) dX5_rate_36 rfl ?_
          exact ⟨_, rfl, by unfold q_rate; rw [if_neg (by unfold r_rate; omega), if_pos (by omega)], by unfold s_rate; rw [if_neg (by unfold r_rate; omega), if_pos (by omega)]; exact hX, FC.rf⟩
      · refine V_bipush (pc := 18) dX5_rate_18 (by decide) ?_
        refine V_iretI (pc := 20) dX5_rate_20 rfl ?_
        exact ⟨_, rfl, by unfold q_rate; rw [if_pos (by unfold r_rate; omega)], by unfold s_rate; rw [if_pos (by unfold r_rate; omega)]; exact hX, FC.rf⟩

set_option maxRecDepth 20000 in
set_option maxHeartbeats 1000000 in
theorem c_X5_toldRows {d : Nat} (hd : 0 ≤ d) {σ : MM} {X : CST} (hX : CRl σ X) : V yX5_toldRows cX5_toldRows 3 (some .int) d (QI (fun v σ' => v = TLD X.Z ∧ σ' = σ)) 0 [some (vR 0 0), none, none] [] σ := by
  have hB := hX.b
  have hG := hX.g
  have hW := hX.w
  have hs := hW.s
  have hC := hX.c
  have hR := hX.r
  have hn7 := hR.2.1
  have hF := hX.f
  have hZ := hX.z
  have hIm := hX.i
  have loop : ∀ i : Nat, i ≤ 4 → V yX5_toldRows cX5_toldRows 3 (some .int) d (QI (fun v σ' => v = TLD X.Z ∧ σ' = σ)) 4 [some (vR 0 0), some (vI (sumN (fun k => X.Z 0 k 0) i)), some (vI (i : Int))] [] σ := by
    refine up_ind (P := fun i : Nat => V yX5_toldRows cX5_toldRows 3 (some .int) d (QI (fun v σ' => v = TLD X.Z ∧ σ' = σ)) 4 [some (vR 0 0), some (vI (sumN (fun k => X.Z 0 k 0) i)), some (vI (i : Int))] [] σ) ?_ ?_
    · 
      refine V_iload_2 (pc := 4) dX5_toldRows_4 ?_
      refine V_iconst (pc := 5) dX5_toldRows_5 ?_
      refine V_icmp_ge (pc := 6) 30 dX5_toldRows_6 (by decide) (by omega) (by omega) (fun c_6 => ?_) (fun c_6 => ?_)
      · refine V_iload_1 (pc := 30) dX5_toldRows_30 ?_
        refine V_iretI (pc := 31) dX5_toldRows_31 rfl ?_
        exact ⟨_, rfl, by first | rfl | omega, rfl⟩
      · exact absurd c_6 (by omega)
    · intro i hi ih
      have hz := hZ (i : Int) (by omega)
      have hS : sumN (fun k => X.Z 0 k 0) (i + 1) = sumN (fun k => X.Z 0 k 0) i + X.Z 0 i 0 := rfl
      refine V_iload_2 (pc := 4) dX5_toldRows_4 ?_
      refine V_iconst (pc := 5) dX5_toldRows_5 ?_
      refine V_icmp_ge (pc := 6) 30 dX5_toldRows_6 (by decide) (by omega) (by omega) (fun c_6 => ?_) (fun c_6 => ?_)
      · exact absurd c_6 (by omega)
      · refine V_aload_0 (pc := 9) dX5_toldRows_9 ?_
        refine V_getc (pc := 10) dX5_toldRows_10 gf_X5_49 (by omega) ?_
        refine V_iload_2 (pc := 13) dX5_toldRows_13 ?_
        refine V_aald_26 (pc := 14) dX5_toldRows_14 (by omega) (by omega) ?_
        refine V_geti (pc := 15) dX5_toldRows_15 gf_X5_324 (by omega) hz.1 ?_
        refine V_if_eq (pc := 18) 24 dX5_toldRows_18 (by decide) (by omega) (fun c_18 => ?_) (fun c_18 => ?_)
        · refine V_iinc_2 (pc := 24) dX5_toldRows_24 ?_
          refine V_goto (pc := 27) 4 dX5_toldRows_27 (by decide) ?_
          refine V.sub (by simp only [subL, Option.some.injEq, Sum.inl.injEq, Sum.inr.injEq, reduceCtorEq, true_or, or_true, false_or, true_and, and_true]; rw [hS]; omega) ih
        · refine V_iinc_1 (pc := 21) dX5_toldRows_21 ?_
          refine V_iinc_2 (pc := 24) dX5_toldRows_24 ?_
          refine V_goto (pc := 27) 4 dX5_toldRows_27 (by decide) ?_
          refine V.sub (by simp only [subL, Option.some.injEq, Sum.inl.injEq, Sum.inr.injEq, reduceCtorEq, true_or, or_true, false_or, true_and, and_true]; rw [hS]; omega) ih
  refine V_iconst (pc := 0) dX5_toldRows_0 ?_
  refine V_istore_1 (pc := 1) dX5_toldRows_1 ?_
  refine V_iconst (pc := 2) dX5_toldRows_2 ?_
  refine V_istore_2 (pc := 3) dX5_toldRows_3 ?_
  exact loop 0 (by omega)

set_option maxRecDepth 20000 in
set_option maxHeartbeats 1000000 in
theorem c_X5_count {d : Nat} (hd : 1 ≤ d) {σ : MM} {X : CST} {w : Int} (hX : CRl σ X) (hw : IR w) : V yX5_count cX5_count 2 (some .int) d (QI (fun v σ' => v = q_count X w ∧ σ' = σ)) 0 [some (vR 0 0), some (vI w)] [] σ := by
  have hB := hX.b
  have hG := hX.g
  have hW := hX.w
  have hs := hW.s
  have hC := hX.c
  have hR := hX.r
  have hn7 := hR.2.1
  have hF := hX.f
  have hZ := hX.z
  have hIm := hX.i
  refine V_iload_1 (pc := 0) dX5_count_0 ?_
  rcases (show w = 0 ∨ w = 1 ∨ w = 2 ∨ w = 3 ∨ w = 4 ∨ w = 5 ∨ w = 6 ∨ w = 7 ∨ w = 8 ∨ w = 9 ∨ (w < 0 ∨ 9 < w) by omega) with c_1 | c_1 | c_1 | c_1 | c_1 | c_1 | c_1 | c_1 | c_1 | c_1 | c_1
  · refine V_tsw_in (pc := 1) (off := 55) 56 dX5_count_1 (by decide) (by omega) (by omega) (by rw [c_1]; rfl) ?_
    refine V_aload_0 (pc := 56) dX5_count_56 ?_
    refine V_getc (pc := 57) dX5_count_57 gf_X5_23 (by omega) ?_
    refine V_geti (pc := 60) dX5_count_60 gf_X5_175 (by omega) hB.s1 ?_
    refine V_iretI (pc := 63) dX5_count_63 rfl ?_
    exact ⟨_, rfl, by unfold q_count; (repeat' split) <;> first | rfl | omega, rfl⟩
  · refine V_tsw_in (pc := 1) (off := 63) 64 dX5_count_1 (by decide) (by omega) (by omega) (by rw [c_1]; rfl) ?_
    refine V_aload_0 (pc := 64) dX5_count_64 ?_
    refine V_getc (pc := 65) dX5_count_65 gf_X5_23 (by omega) ?_
    refine V_geti (pc := 68) dX5_count_68 gf_X5_249 (by omega) hB.s2 ?_
    refine V_iretI (pc := 71) dX5_count_71 rfl ?_
    exact ⟨_, rfl, by unfold q_count; (repeat' split) <;> first | rfl | omega, rfl⟩
  · refine V_tsw_in (pc := 1) (off := 71) 72 dX5_count_1 (by decide) (by omega) (by omega) (by rw [c_1]; rfl) ?_
    refine V_aload_0 (pc := 72) dX5_count_72 ?_
    refine V_getc (pc := 73) dX5_count_73 gf_X5_23 (by omega) ?_
    refine V_geti (pc := 76) dX5_count_76 gf_X5_307 (by omega) hB.s3 ?_
    refine V_iretI (pc := 79) dX5_count_79 rfl ?_
    exact ⟨_, rfl, by unfold q_count; (repeat' split) <;> first | rfl | omega, rfl⟩
  · refine V_tsw_in (pc := 1) (off := 79) 80 dX5_count_1 (by decide) (by omega) (by omega) (by rw [c_1]; rfl) ?_
    refine V_aload_0 (pc := 80) dX5_count_80 ?_
    refine V_getc (pc := 81) dX5_count_81 gf_X5_23 (by omega) ?_
    refine V_geti (pc := 84) dX5_count_84 gf_X5_242 (by omega) hB.s4 ?_
    refine V_iretI (pc := 87) dX5_count_87 rfl ?_
    exact ⟨_, rfl, by unfold q_count; (repeat' split) <;> first | rfl | omega, rfl⟩
  · refine V_tsw_in (pc := 1) (off := 87) 88 dX5_count_1 (by decide) (by omega) (by omega) (by rw [c_1]; rfl) ?_
    refine V_aload_0 (pc := 88) dX5_count_88 ?_
    refine V_getc (pc := 89) dX5_count_89 gf_X5_23 (by omega) ?_
    refine V_geti (pc := 92) dX5_count_92 gf_X5_310 (by omega) hB.s5 ?_
    refine V_iretI (pc := 95) dX5_count_95 rfl ?_
    exact ⟨_, rfl, by unfold q_count; (repeat' split) <;> first | rfl | omega, rfl⟩
  · refine V_tsw_in (pc := 1) (off := 95) 96 dX5_count_1 (by decide) (by omega) (by omega) (by rw [c_1]; rfl) ?_
    refine V_aload_0 (pc := 96) dX5_count_96 ?_
    refine V_getc (pc := 97) dX5_count_97 gf_X5_23 (by omega) ?_
    refine V_geti (pc := 100) dX5_count_100 gf_X5_159 (by omega) hB.s6 ?_
    refine V_iretI (pc := 103) dX5_count_103 rfl ?_
    exact ⟨_, rfl, by unfold q_count; (repeat' split) <;> first | rfl | omega, rfl⟩
  · refine V_tsw_in (pc := 1) (off := 103) 104 dX5_count_1 (by decide) (by omega) (by omega) (by rw [c_1]; rfl) ?_
    refine V_aload_0 (pc := 104) dX5_count_104 ?_
    refine V_getc (pc := 105) dX5_count_105 gf_X5_23 (by omega) ?_
    refine V_gets (pc := 108) dX5_count_108 gf_X5_255 (by omega) ?_
    refine V_geti (pc := 111) dX5_count_111 gf_X5_265 (by omega) hB.dn ?_
    refine V_iretI (pc := 114) dX5_count_114 rfl ?_
    exact ⟨_, rfl, by unfold q_count; (repeat' split) <;> first | rfl | omega, rfl⟩
  · refine V_tsw_in (pc := 1) (off := 114) 115 dX5_count_1 (by decide) (by omega) (by omega) (by rw [c_1]; rfl) ?_
    refine V_aload_0 (pc := 115) dX5_count_115 ?_
    refine V_getc (pc := 116) dX5_count_116 gf_X5_23 (by omega) ?_
    refine V_geti (pc := 119) dX5_count_119 gf_X5_103 (by omega) hB.s0 ?_
    refine V_iretI (pc := 122) dX5_count_122 rfl ?_
    exact ⟨_, rfl, by unfold q_count; (repeat' split) <;> first | rfl | omega, rfl⟩
  · refine V_tsw_in (pc := 1) (off := 122) 123 dX5_count_1 (by decide) (by omega) (by omega) (by rw [c_1]; rfl) ?_
    refine V_aload_0 (pc := 123) dX5_count_123 ?_
    refine V_getc (pc := 124) dX5_count_124 gf_X5_10 (by omega) ?_
    refine V_geti (pc := 127) dX5_count_127 gf_X5_76 (by omega) hR.1 ?_
    refine V_iretI (pc := 130) dX5_count_130 rfl ?_
    exact ⟨_, rfl, by unfold q_count; (repeat' split) <;> first | rfl | omega, rfl⟩
  · refine V_tsw_in (pc := 1) (off := 130) 131 dX5_count_1 (by decide) (by omega) (by omega) (by rw [c_1]; rfl) ?_
    refine V_aload_0 (pc := 131) dX5_count_131 ?_
    refine V_callV0p (pc := 132) dX5_count_132 kv_X5_313 rc_0 (by omega) (d - 1) (by omega) rfl (c_X5_toldRows (by omega) hX) ?_
    refine V_iretI (pc := 135) dX5_count_135 rfl ?_
    exact ⟨_, rfl, by unfold q_count; (repeat' split) <;> first | rfl | omega, rfl⟩
  · refine V_tsw_out (pc := 1) 136 dX5_count_1 (by decide) (by omega) c_1 ?_
    refine V_iconst (pc := 136) dX5_count_136 ?_
    refine V_iretI (pc := 137) dX5_count_137 rfl ?_
    exact ⟨_, rfl, by unfold q_count; (repeat' split) <;> first | rfl | omega, rfl⟩

set_option maxRecDepth 20000 in
set_option maxHeartbeats 1000000 in
theorem c_X5_image {d : Nat} (hd : 4 ≤ d) {σ : MM} {X : CST} {k : Int} (hX : CRl σ X) (hk : IR k) : V yX5_image cX5_image 2 (some .int) d (QI (fun v σ' => v = q_image k ∧ CRl σ' (s_image X k) ∧ FC σ σ')) 0 [some (vR 0 0), some (vI k)] [] σ := by
  have hB := hX.b
  have hG := hX.g
  have hW := hX.w
  have hs := hW.s
  have hC := hX.c
  have hR := hX.r
  have hn7 := hR.2.1
  have hF := hX.f
  have hZ := hX.z
  have hIm := hX.i
  refine V_iload_1 (pc := 0) dX5_image_0 ?_
  refine V_if_lt (pc := 1) 9 dX5_image_1 (by decide) (by omega) (fun c_1 => ?_) (fun c_1 => ?_)
  · refine V_bipush (pc := 9) dX5_image_9 (by decide) ?_
    refine V_iretI (pc := 11) dX5_image_11 rfl ?_
    exact ⟨_, rfl, by unfold q_image; rw [if_pos (by omega)], by unfold s_image; rw [if_pos (by omega)]; exact hX, FC.rf⟩
  · refine V_iload_1 (pc := 4) dX5_image_4 ?_
    refine V_iconst (pc := 5) dX5_image_5 ?_
    refine V_icmp_lt (pc := 6) 12 dX5_image_6 (by decide) (by omega) (by omega) (fun c_6 => ?_) (fun c_6 => ?_)
    · refine V_aload_0 (pc := 12) dX5_image_12 ?_
      refine V_getc (pc := 13) dX5_image_13 gf_X5_39 (by omega) ?_
      refine V_iload_1 (pc := 16) dX5_image_16 ?_
      refine V_aald_24 (pc := 17) dX5_image_17 (by omega) (by omega) ?_
      refine V_aload_0 (pc := 18) dX5_image_18 ?_
      refine V_getc (pc := 19) dX5_image_19 gf_X5_23 (by omega) ?_
      refine V_callV1z (pc := 22) dX5_image_22 kv_X5_96 rc_3 (by omega) (d - 1) (by omega) rfl (c_X1_copyFrom (by omega) (by omega) (by omega) (by omega) hB hs) (fun σ_22 h_22 => ?_)
      refine V_aload_0 (pc := 25) dX5_image_25 ?_
      refine V_getc (pc := 26) dX5_image_26 gf_X5_43 (by omega) ?_
      refine V_iload_1 (pc := 29) dX5_image_29 ?_
      refine V_iconst (pc := 30) dX5_image_30 ?_
      refine V_zast (pc := 31) dX5_image_31 sh_25 (by omega) (by omega) (by omega) ?_
      refine V_iconst (pc := 32) dX5_image_32 ?_
      refine V_iretI (pc := 33) dX5_image_33 rfl ?_
      refine ⟨_, rfl, by unfold q_image; rw [if_neg (by omega)], ?_, h_22.2.fc.tr (FC.set (by decide))⟩
      unfold s_image
      rw [if_neg (by omega)]
      have e : ∀ t : Nat, (t ≤ 2 ∨ 18 ≤ t) → t ≠ 25 → setI σ_22 25 0 k 1 t = σ t := fun t q q2 => (setI_tag q2).trans (h_22.2.tag (by omega))
      have eb : ∀ (b : Int) (Y : BK), b ≠ 3 + k → CB σ b Y → CB (setI σ_22 25 0 k 1) b Y := fun b Y hne hb => (h_22.2.CB hne hb).cong (fun t ht => by rw [setI_tag (by omega)])
      refine ⟨⟨eb 1 _ (by omega) hB, hG, fun y hy => ?_⟩, hZ.cong (e 27 (by omega) (by decide)) (e 28 (by omega) (by decide)), hR.cong (by rw [e 1 (by omega) (by decide)]) (e 2 (by omega) (by decide)), ?_, fun j hj => ?_⟩
      · have := hC y hy
        have e2 : RS (setI σ_22 25 0 k 1) 0 y = RS σ 0 y := by unfold RS; rw [e 21 (by omega) (by decide), e 22 (by omega) (by decide), e 23 (by omega) (by decide)]
        unfold RK at this ⊢
        rw [e2, e 21 (by omega) (by decide)]
        exact this
      · show _ = X.fk ∧ _ = X.fp ∧ _
        rw [e 0 (by omega) (by decide)]
        exact hF
      · show setI σ_22 25 0 k 1 25 0 j = (if j = k then 1 else X.K j) ∧ ((if j = k then 1 else X.K j) = 0 ∨ ((if j = k then 1 else X.K j) = 1 ∧ CB (setI σ_22 25 0 k 1) (3 + j) (if j = k then X.B else X.I j) ∧ GB (if j = k then X.B else X.I j)))
        by_cases q : j = k
        · subst q
          simp only [if_true]
          refine ⟨by simp [setI_at], Or.inr ⟨trivial, ?_, ?_⟩⟩
          · exact h_22.1.cong (fun t ht => by rw [setI_tag (by omega)])
          · exact hG
        · have := hIm j hj
          refine ⟨?_, ?_⟩
          · simp only [setI_at, q, and_false, if_false]
            rw [h_22.2.tag (t := 25) (by omega)]
            exact this.1
          · simp only [q, if_false]
            rcases this.2 with r | r
            · exact Or.inl r
            · exact Or.inr ⟨r.1, eb _ _ (by omega) r.2.1, r.2.2⟩
    · refine V_bipush (pc := 9) dX5_image_9 (by decide) ?_
      refine V_iretI (pc := 11) dX5_image_11 rfl ?_
      exact ⟨_, rfl, by unfold q_image; rw [if_pos (by omega)], by unfold s_image; rw [if_pos (by omega)]; exact hX, FC.rf⟩

set_option maxRecDepth 20000 in
set_option maxHeartbeats 1000000 in
theorem c_X5_back {d : Nat} (hd : 6 ≤ d) {σ : MM} {X : CST} {k : Int} (hX : CRl σ X) (hk : IR k) : V yX5_back cX5_back 2 (some .int) d (QI (fun v σ' => v = q_back X k ∧ CRl σ' (NEWB X (s_back X k)) ∧ FC σ σ')) 0 [some (vR 0 0), some (vI k)] [] σ := by
  have hB := hX.b
  have hG := hX.g
  have hW := hX.w
  have hs := hW.s
  have hC := hX.c
  have hR := hX.r
  have hn7 := hR.2.1
  have hF := hX.f
  have hZ := hX.z
  have hIm := hX.i
  refine V_iload_1 (pc := 0) dX5_back_0 ?_
  refine V_if_lt (pc := 1) 9 dX5_back_1 (by decide) (by omega) (fun c_1 => ?_) (fun c_1 => ?_)
  · refine V_bipush (pc := 9) dX5_back_9 (by decide) ?_
    refine V_iretI (pc := 11) dX5_back_11 rfl ?_
    exact ⟨_, rfl, by unfold q_back; rw [if_pos (by omega)], by unfold s_back; rw [if_pos (by omega)]; exact hX, FC.rf⟩
  · refine V_iload_1 (pc := 4) dX5_back_4 ?_
    refine V_iconst (pc := 5) dX5_back_5 ?_
    refine V_icmp_lt (pc := 6) 12 dX5_back_6 (by decide) (by omega) (by omega) (fun c_6 => ?_) (fun c_6 => ?_)
    · refine V_aload_0 (pc := 12) dX5_back_12 ?_
      refine V_getc (pc := 13) dX5_back_13 gf_X5_43 (by omega) ?_
      refine V_iload_1 (pc := 16) dX5_back_16 ?_
      refine V_zald (pc := 17) dX5_back_17 sh_25 (by omega) (by omega) (hIm k (by omega)).1 ?_
      have hk1 := (hIm k (by omega)).2
      have hk01 : X.K k = 0 ∨ X.K k = 1 := by rcases hk1 with q | q; exact Or.inl q; exact Or.inr q.1
      refine V_if_ne (pc := 18) 24 dX5_back_18 (by decide) (by omega) (fun c_18 => ?_) (fun c_18 => ?_)
      · have hk2 := hk1.resolve_left (by omega)
        refine V_aload_0 (pc := 24) dX5_back_24 ?_
        refine V_getc (pc := 25) dX5_back_25 gf_X5_23 (by omega) ?_
        refine V_aload_0 (pc := 28) dX5_back_28 ?_
        refine V_getc (pc := 29) dX5_back_29 gf_X5_39 (by omega) ?_
        refine V_iload_1 (pc := 32) dX5_back_32 ?_
        refine V_aald_24 (pc := 33) dX5_back_33 (by omega) (by omega) ?_
        refine V_callV1z (pc := 34) dX5_back_34 kv_X5_96 rc_3 (by omega) (d - 1) (by omega) rfl (c_X1_copyFrom (by omega) (by omega) (by omega) (by omega) hk2.2.1 hk2.2.2.w.s) (fun σ_34 h_34 => ?_)
        refine V_aload_0 (pc := 37) dX5_back_37 ?_
        refine V_getc (pc := 38) dX5_back_38 gf_X5_32 (by omega) ?_
        refine V_aload_0 (pc := 41) dX5_back_41 ?_
        refine V_getc (pc := 42) dX5_back_42 gf_X5_23 (by omega) ?_
        refine V_iconst (pc := 45) dX5_back_45 ?_
        refine V_callV2z (pc := 46) dX5_back_46 kv_X5_99 rc_18 (by omega) (d - 1) (by omega) rfl (c_X2_follow (by omega) (by omega) (by omega) h_34.1 hk2.2.2.w (by omega)) (fun σ_46 h_46 => ?_)
        refine V_iconst (pc := 49) dX5_back_49 ?_
        refine V_iretI (pc := 50) dX5_back_50 rfl ?_
        have hN := CRl.newb hX h_34.2 h_46.2 h_34.1 hk2.2.2 h_46.1
        exact ⟨_, rfl, by unfold q_back; rw [if_neg (by omega), if_neg (by omega)], by unfold s_back; rw [if_neg (by omega), if_neg (by omega)]; exact hN.1, hN.2⟩
      · refine V_bipush (pc := 21) dX5_back_21 (by decide) ?_
        refine V_iretI (pc := 23) dX5_back_23 rfl ?_
        exact ⟨_, rfl, by unfold q_back; rw [if_neg (by omega), if_pos (by omega)], by unfold s_back; rw [if_neg (by omega), if_pos (by omega)]; exact hX, FC.rf⟩
    · refine V_bipush (pc := 9) dX5_back_9 (by decide) ?_
      refine V_iretI (pc := 11) dX5_back_11 rfl ?_
      exact ⟨_, rfl, by unfold q_back; rw [if_pos (by omega)], by unfold s_back; rw [if_pos (by omega)]; exact hX, FC.rf⟩

set_option maxRecDepth 20000 in
set_option maxHeartbeats 1000000 in
theorem c_X5_row {d : Nat} (hd : 1 ≤ d) {σ : MM} {X : CST} {s w m : Int} (hX : CRl σ X) (hs0 : IR s) (hw : IR w) (hm : IR m) : V yX5_row cX5_row 4 (some .int) d (QI (fun v σ' => v = q_row s w m ∧ CRl σ' (NEWZ X (s_row X.Z s w m)) ∧ FC σ σ')) 0 [some (vR 0 0), some (vI s), some (vI w), some (vI m)] [] σ := by
  have hB := hX.b
  have hG := hX.g
  have hW := hX.w
  have hs := hW.s
  have hC := hX.c
  have hR := hX.r
  have hn7 := hR.2.1
  have hF := hX.f
  have hZ := hX.z
  have hIm := hX.i
  refine V_aload_0 (pc := 0) dX5_row_0 ?_
  refine V_iload_1 (pc := 1) dX5_row_1 ?_
  refine V_callV1p (pc := 2) dX5_row_2 kv_X5_317 rc_0 (by omega) (d - 1) (by omega) rfl (c_X5_noSlot (by omega) (by omega)) ?_
  refine V_if_ne_b (pc := 5) 23 dX5_row_5 (by decide) (fun c_5 => ?_) (fun c_5 => ?_)
  · refine V_bipush (pc := 23) dX5_row_23 (by decide) ?_
    refine V_iretI (pc := 25) dX5_row_25 rfl ?_
    exact ⟨_, rfl, by unfold q_row; rw [if_pos (by unfold r_row; omega)], by unfold s_row; rw [if_pos (by unfold r_row; omega)]; exact hX, FC.rf⟩
  · refine V_iload_2 (pc := 8) dX5_row_8 ?_
    refine V_if_lt (pc := 9) 23 dX5_row_9 (by decide) (by omega) (fun c_9 => ?_) (fun c_9 => ?_)
    · refine V_bipush (pc := 23) dX5_row_23 (by decide) ?_
      refine V_iretI (pc := 25) dX5_row_25 rfl ?_
      exact ⟨_, rfl, by unfold q_row; rw [if_pos (by unfold r_row; omega)], by unfold s_row; rw [if_pos (by unfold r_row; omega)]; exact hX, FC.rf⟩
    · refine V_iload_2 (pc := 12) dX5_row_12 ?_
      refine V_iconst (pc := 13) dX5_row_13 ?_
      refine V_icmp_gt (pc := 14) 23 dX5_row_14 (by decide) (by omega) (by omega) (fun c_14 => ?_) (fun c_14 => ?_)
      · refine V_bipush (pc := 23) dX5_row_23 (by decide) ?_
        refine V_iretI (pc := 25) dX5_row_25 rfl ?_
        exact ⟨_, rfl, by unfold q_row; rw [if_pos (by unfold r_row; omega)], by unfold s_row; rw [if_pos (by unfold r_row; omega)]; exact hX, FC.rf⟩
      · refine V_iload_3 (pc := 17) dX5_row_17 ?_
        refine V_bipush (pc := 18) dX5_row_18 (by decide) ?_
        refine V_icmp_le (pc := 20) 26 dX5_row_20 (by decide) (by omega) (by omega) (fun c_20 => ?_) (fun c_20 => ?_)
        · refine V_iload_3 (pc := 26) dX5_row_26 ?_
          refine V_if_ge (pc := 27) 33 dX5_row_27 (by decide) (by omega) (fun c_27 => ?_) (fun c_27 => ?_)
          · refine V_aload_0 (pc := 33) dX5_row_33 ?_
            refine V_getc (pc := 34) dX5_row_34 gf_X5_49 (by omega) ?_
            refine V_iload_1 (pc := 37) dX5_row_37 ?_
            refine V_aald_26 (pc := 38) dX5_row_38 (by omega) (by omega) ?_
            refine V_iload_2 (pc := 39) dX5_row_39 ?_
            refine V_iload_3 (pc := 40) dX5_row_40 ?_
            refine V_callV2z (pc := 41) dX5_row_41 kv_X5_320 rc_27 (by omega) (d - 1) (by omega) rfl (c_X4_begin (by omega) (by omega)) (fun σ_41 h_41 => ?_)
            refine V_iconst (pc := 44) dX5_row_44 ?_
            refine V_iretI (pc := 45) dX5_row_45 rfl ?_
            obtain ⟨b1, b2, b3⟩ := h_41
            have hN := CRl.newz (Z := ZRW X.Z s w m) hX (fun t a c => by funext k z; exact b3 t k z (fun q => a q.1) (fun q => c q.1)) (fun k hk => ?_)
            · exact ⟨_, rfl, by unfold q_row; rw [if_neg (by unfold r_row; omega), if_neg (by omega)], by unfold s_row; rw [if_neg (by unfold r_row; omega), if_neg (by omega)]; exact hN.1, hN.2⟩
            · by_cases q : k = s
              · subst q
                simp only [ZRW, if_true]
                exact ⟨b1.1, Or.inr trivial, fun _ => ⟨⟨b1.2.1, by omega⟩, ⟨b1.2.2, by omega⟩, fun i hi => ⟨b2 i (by omega), by omega⟩⟩⟩
              · have := hZ k hk
                simp only [ZRW, q, if_false]
                have e1 : ∀ z, σ_41 27 k z = σ 27 k z := fun z => b3 27 k z (by omega) (by omega)
                have e2 : ∀ z, σ_41 28 k z = σ 28 k z := fun z => b3 28 k z (by omega) (by omega)
                simp only [e1, e2]
                exact this
          · refine V_bipush (pc := 30) dX5_row_30 (by decide) ?_
            refine V_iretI (pc := 32) dX5_row_32 rfl ?_
            exact ⟨_, rfl, by unfold q_row; rw [if_neg (by unfold r_row; omega), if_pos (by omega)], by unfold s_row; rw [if_neg (by unfold r_row; omega), if_pos (by omega)]; exact hX, FC.rf⟩
        · refine V_bipush (pc := 23) dX5_row_23 (by decide) ?_
          refine V_iretI (pc := 25) dX5_row_25 rfl ?_
          exact ⟨_, rfl, by unfold q_row; rw [if_pos (by unfold r_row; omega)], by unfold s_row; rw [if_pos (by unfold r_row; omega)]; exact hX, FC.rf⟩

set_option maxRecDepth 20000 in
set_option maxHeartbeats 1000000 in
theorem c_X5_write {d : Nat} (hd : 1 ≤ d) {σ : MM} {X : CST} {s i u : Int} (hX : CRl σ X) (hs0 : IR s) (hi : IR i) (hv : LR u) : V yX5_write cX5_write 5 (some .int) d (QI (fun v σ' => v = q_write X.Z s i ∧ CRl σ' (NEWZ X (s_write X.Z s i u)) ∧ FC σ σ')) 0 [some (vR 0 0), some (vI s), some (vI i), some (vL u), none] [] σ := by
  have hB := hX.b
  have hG := hX.g
  have hW := hX.w
  have hs := hW.s
  have hC := hX.c
  have hR := hX.r
  have hn7 := hR.2.1
  have hF := hX.f
  have hZ := hX.z
  have hIm := hX.i
  refine V_aload_0 (pc := 0) dX5_write_0 ?_
  refine V_iload_1 (pc := 1) dX5_write_1 ?_
  refine V_callV1p (pc := 2) dX5_write_2 kv_X5_317 rc_0 (by omega) (d - 1) (by omega) rfl (c_X5_noSlot (by omega) (by omega)) ?_
  refine V_if_eq_b (pc := 5) 11 dX5_write_5 (by decide) (fun c_5 => ?_) (fun c_5 => ?_)
  · refine V_aload_0 (pc := 11) dX5_write_11 ?_
    refine V_getc (pc := 12) dX5_write_12 gf_X5_49 (by omega) ?_
    refine V_iload_1 (pc := 15) dX5_write_15 ?_
    refine V_aald_26 (pc := 16) dX5_write_16 (by omega) (by omega) ?_
    have hz := hZ s (by omega)
    refine V_geti (pc := 17) dX5_write_17 gf_X5_324 (by omega) hz.1 ?_
    refine V_if_ne (pc := 20) 26 dX5_write_20 (by decide) (by omega) (fun c_20 => ?_) (fun c_20 => ?_)
    · have h1 : X.Z 0 s 0 = 1 := by have := hz.2.1; omega
      have hz2 := hz.2.2 h1
      refine V_iload_2 (pc := 26) dX5_write_26 ?_
      refine V_if_lt (pc := 27) 43 dX5_write_27 (by decide) (by omega) (fun c_27 => ?_) (fun c_27 => ?_)
      · refine V_bipush (pc := 43) dX5_write_43 (by decide) ?_
        refine V_iretI (pc := 45) dX5_write_45 rfl ?_
        exact ⟨_, rfl, by unfold q_write; rw [if_neg (by omega), if_neg (by omega), if_pos (by omega)], by unfold s_write; rw [if_neg (by omega), if_neg (by omega), if_pos (by omega)]; exact hX, FC.rf⟩
      · refine V_iload_2 (pc := 30) dX5_write_30 ?_
        refine V_aload_0 (pc := 31) dX5_write_31 ?_
        refine V_getc (pc := 32) dX5_write_32 gf_X5_49 (by omega) ?_
        refine V_iload_1 (pc := 35) dX5_write_35 ?_
        refine V_aald_26 (pc := 36) dX5_write_36 (by omega) (by omega) ?_
        refine V_geti (pc := 37) dX5_write_37 gf_X5_328 (by omega) (hz.2.2 h1).2.1.1 ?_
        refine V_icmp_lt (pc := 40) 46 dX5_write_40 (by decide) (by omega) (by omega) (fun c_40 => ?_) (fun c_40 => ?_)
        · refine V_aload_0 (pc := 46) dX5_write_46 ?_
          refine V_getc (pc := 47) dX5_write_47 gf_X5_49 (by omega) ?_
          refine V_iload_1 (pc := 50) dX5_write_50 ?_
          refine V_aald_26 (pc := 51) dX5_write_51 (by omega) (by omega) ?_
          refine V_iload_2 (pc := 52) dX5_write_52 ?_
          refine V_lload_3 (pc := 53) dX5_write_53 ?_
          refine V_callV2z (pc := 54) dX5_write_54 kv_X5_331 rc_27 (by omega) (d - 1) (by omega) rfl (c_X4_keep (by omega) (w := X.Z 1 s 0) (by omega) (by omega) (by omega) hz2.1.1 hv) (fun σ_54 h_54 => ?_)
          refine V_iconst (pc := 57) dX5_write_57 ?_
          refine V_iretI (pc := 58) dX5_write_58 rfl ?_
          subst h_54
          have hN := CRl.newz (Z := ZWR X.Z s i u) (σ' := setI σ 28 s i (CUT (X.Z 1 s 0) u)) hX (fun t a c => setI_tag c) (fun k hk => ?_)
          · exact ⟨_, rfl, by unfold q_write; rw [if_neg (by omega), if_neg (by omega), if_neg (by omega)], by unfold s_write; rw [if_neg (by omega), if_neg (by omega), if_neg (by omega)]; exact hN.1, hN.2⟩
          · have hk9 := hZ k hk
            have z0 : ZWR X.Z s i u 0 = X.Z 0 := by funext a b; simp [ZWR]
            have z1 : ZWR X.Z s i u 1 = X.Z 1 := by funext a b; simp [ZWR]
            have z2 : ZWR X.Z s i u 2 = X.Z 2 := by funext a b; simp [ZWR]
            rw [z0, z1, z2, setI_tag (t' := 27) (by decide)]
            refine ⟨hk9.1, hk9.2.1, fun q1 => ⟨(hk9.2.2 q1).1, (hk9.2.2 q1).2.1, fun j hj => ?_⟩⟩
            have hj9 := (hk9.2.2 q1).2.2 j hj
            by_cases q : k = s ∧ j = i
            · simp only [setI_at, ZWR, q, and_self, true_and, if_true]
              exact CUT_in hv
            · simp only [setI_at, ZWR, true_and, q, if_false]
              exact hj9
        · refine V_bipush (pc := 43) dX5_write_43 (by decide) ?_
          refine V_iretI (pc := 45) dX5_write_45 rfl ?_
          exact ⟨_, rfl, by unfold q_write; rw [if_neg (by omega), if_neg (by omega), if_pos (by omega)], by unfold s_write; rw [if_neg (by omega), if_neg (by omega), if_pos (by omega)]; exact hX, FC.rf⟩
    · refine V_bipush (pc := 23) dX5_write_23 (by decide) ?_
      refine V_iretI (pc := 25) dX5_write_25 rfl ?_
      exact ⟨_, rfl, by unfold q_write; rw [if_neg (by omega), if_pos (by omega)], by unfold s_write; rw [if_neg (by omega), if_pos (by omega)]; exact hX, FC.rf⟩
  · refine V_bipush (pc := 8) dX5_write_8 (by decide) ?_
    refine V_iretI (pc := 10) dX5_write_10 rfl ?_
    exact ⟨_, rfl, by unfold q_write; rw [if_pos (by omega)], by unfold s_write; rw [if_pos (by omega)]; exact hX, FC.rf⟩

set_option maxRecDepth 20000 in
set_option maxHeartbeats 1000000 in
theorem c_X5_paste {d : Nat} (hd : 2 ≤ d) {σ : MM} {X : CST} {s i t k m : Int} (hX : CRl σ X) (hs0 : IR s) (hi : IR i) (ht : IR t) (hk : IR k) (hm : IR m) : V yX5_paste cX5_paste 8 (some .int) d (QI (fun v σ' => v = q_paste X.Z s i t k m ∧ CRl σ' (NEWZ X (s_paste X.Z s i t k m)) ∧ FC σ σ')) 0 [some (vR 0 0), some (vI s), some (vI i), some (vI t), some (vI k), some (vI m), none, none] [] σ := by
  have hB := hX.b
  have hG := hX.g
  have hW := hX.w
  have hs := hW.s
  have hC := hX.c
  have hR := hX.r
  have hn7 := hR.2.1
  have hF := hX.f
  have hZ := hX.z
  have hIm := hX.i
  refine V_aload_0 (pc := 0) dX5_paste_0 ?_
  refine V_iload_1 (pc := 1) dX5_paste_1 ?_
  refine V_callV1p (pc := 2) dX5_paste_2 kv_X5_317 rc_0 (by omega) (d - 1) (by omega) rfl (c_X5_noSlot (by omega) (by omega)) ?_
  refine V_if_ne_b (pc := 5) 16 dX5_paste_5 (by decide) (fun c_5 => ?_) (fun c_5 => ?_)
  · refine V_bipush (pc := 16) dX5_paste_16 (by decide) ?_
    refine V_iretI (pc := 18) dX5_paste_18 rfl ?_
    exact ⟨_, rfl, by unfold q_paste; rw [if_pos (by omega)], by unfold s_paste; rw [if_pos (by omega)]; exact hX, FC.rf⟩
  · refine V_aload_0 (pc := 8) dX5_paste_8 ?_
    refine V_iload_3 (pc := 9) dX5_paste_9 ?_
    refine V_callV1p (pc := 10) dX5_paste_10 kv_X5_317 rc_0 (by omega) (d - 1) (by omega) rfl (c_X5_noSlot (by omega) (by omega)) ?_
    refine V_if_eq_b (pc := 13) 19 dX5_paste_13 (by decide) (fun c_13 => ?_) (fun c_13 => ?_)
    · refine V_aload_0 (pc := 19) dX5_paste_19 ?_
      refine V_getc (pc := 20) dX5_paste_20 gf_X5_49 (by omega) ?_
      refine V_iload_1 (pc := 23) dX5_paste_23 ?_
      refine V_aald_26 (pc := 24) dX5_paste_24 (by omega) (by omega) ?_
      refine V_astore_6 (pc := 25) dX5_paste_25 ?_
      refine V_aload_0 (pc := 27) dX5_paste_27 ?_
      refine V_getc (pc := 28) dX5_paste_28 gf_X5_49 (by omega) ?_
      refine V_iload_3 (pc := 31) dX5_paste_31 ?_
      refine V_aald_26 (pc := 32) dX5_paste_32 (by omega) (by omega) ?_
      refine V_astore_7 (pc := 33) dX5_paste_33 ?_
      refine V_aload_6 (pc := 35) dX5_paste_35 ?_
      have hz := hZ s (by omega)
      have hy := hZ t (by omega)
      have hz01 := hz.2.1
      have hy01 := hy.2.1
      refine V_geti (pc := 37) dX5_paste_37 gf_X5_324 (by omega) hz.1 ?_
      refine V_if_eq (pc := 40) 51 dX5_paste_40 (by decide) (by omega) (fun c_40 => ?_) (fun c_40 => ?_)
      · refine V_bipush (pc := 51) dX5_paste_51 (by decide) ?_
        refine V_iretI (pc := 53) dX5_paste_53 rfl ?_
        exact ⟨_, rfl, by unfold q_paste; rw [if_neg (by omega), if_pos (by omega)], by unfold s_paste; rw [if_neg (by omega), if_pos (by omega)]; exact hX, FC.rf⟩
      · refine V_aload_7 (pc := 43) dX5_paste_43 ?_
        refine V_geti (pc := 45) dX5_paste_45 gf_X5_324 (by omega) hy.1 ?_
        refine V_if_ne (pc := 48) 54 dX5_paste_48 (by decide) (by omega) (fun c_48 => ?_) (fun c_48 => ?_)
        · have h1 : X.Z 0 s 0 = 1 := by omega
          have h2 : X.Z 0 t 0 = 1 := by omega
          have hz2 := hz.2.2 h1
          have hy2 := hy.2.2 h2
          refine V_aload_6 (pc := 54) dX5_paste_54 ?_
          refine V_geti (pc := 56) dX5_paste_56 gf_X5_335 (by omega) hz2.1.1 ?_
          refine V_aload_7 (pc := 59) dX5_paste_59 ?_
          refine V_geti (pc := 61) dX5_paste_61 gf_X5_335 (by omega) hy2.1.1 ?_
          refine V_icmp_eq (pc := 64) 70 dX5_paste_64 (by decide) (by omega) (by omega) (fun c_64 => ?_) (fun c_64 => ?_)
          · refine V_aload_6 (pc := 70) dX5_paste_70 ?_
            refine V_iload_2 (pc := 72) dX5_paste_72 ?_
            refine V_iload_5 (pc := 73) dX5_paste_73 ?_
            refine V_callV2p (pc := 75) dX5_paste_75 kv_X5_338 rc_27 (by omega) (d - 1) (by omega) rfl (c_X4_holds (by omega) (by omega) hz2.2.1.1 (by omega) (by omega) (by omega)) ?_
            refine V_if_eq_b (pc := 78) 93 dX5_paste_78 (by decide) (fun c_78 => ?_) (fun c_78 => ?_)
            · refine V_bipush (pc := 93) dX5_paste_93 (by decide) ?_
              refine V_iretI (pc := 95) dX5_paste_95 rfl ?_
              exact ⟨_, rfl, by unfold q_paste; rw [if_neg (by omega), if_neg (by omega), if_neg (by omega), if_pos (by unfold r_ps; omega)], by unfold s_paste; rw [if_neg (by omega), if_neg (by omega), if_neg (by omega), if_pos (by unfold r_ps; omega)]; exact hX, FC.rf⟩
            · refine V_aload_7 (pc := 81) dX5_paste_81 ?_
              refine V_iload_4 (pc := 83) dX5_paste_83 ?_
              refine V_iload_5 (pc := 85) dX5_paste_85 ?_
              refine V_callV2p (pc := 87) dX5_paste_87 kv_X5_338 rc_27 (by omega) (d - 1) (by omega) rfl (c_X4_holds (by omega) (by omega) hy2.2.1.1 (by omega) (by omega) (by omega)) ?_
              refine V_if_ne_b (pc := 90) 96 dX5_paste_90 (by decide) (fun c_90 => ?_) (fun c_90 => ?_)
              · refine V_aload_6 (pc := 96) dX5_paste_96 ?_
                refine V_gets (pc := 98) dX5_paste_98 gf_X5_341 (by omega) ?_
                refine V_iload_2 (pc := 101) dX5_paste_101 ?_
                refine V_aload_7 (pc := 102) dX5_paste_102 ?_
                refine V_gets (pc := 104) dX5_paste_104 gf_X5_341 (by omega) ?_
                refine V_iload_4 (pc := 107) dX5_paste_107 ?_
                refine V_iload_5 (pc := 109) dX5_paste_109 ?_
                refine V_cpJ (pc := 111) dX5_paste_111 cpy_X5_345 (by omega) sh_28 sh_28 (by omega) (by omega) (by omega) (by omega) (by omega) (by omega) (by omega) ?_
                refine V_iconst (pc := 114) dX5_paste_114 ?_
                refine V_iretI (pc := 115) dX5_paste_115 rfl ?_
                have hN := CRl.newz (Z := ZPS X.Z s i t k m) (σ' := putI σ 28 t (cpy (σ 28 s) (σ 28 t) i k m)) hX (fun x a c => putI_tag c) (fun x hx => ?_)
                · exact ⟨_, rfl, by unfold q_paste; rw [if_neg (by omega), if_neg (by omega), if_neg (by omega), if_neg (by unfold r_ps; omega)], by unfold s_paste; rw [if_neg (by omega), if_neg (by omega), if_neg (by omega), if_neg (by unfold r_ps; omega)]; exact hN.1, hN.2⟩
                · have hk9 := hZ x hx
                  have z0 : ZPS X.Z s i t k m 0 = X.Z 0 := by funext a b; simp [ZPS]
                  have z1 : ZPS X.Z s i t k m 1 = X.Z 1 := by funext a b; simp [ZPS]
                  have z2 : ZPS X.Z s i t k m 2 = X.Z 2 := by funext a b; simp [ZPS]
                  rw [z0, z1, z2, putI_tag (t' := 27) (by decide)]
                  refine ⟨hk9.1, hk9.2.1, fun q1 => ⟨(hk9.2.2 q1).1, (hk9.2.2 q1).2.1, fun j hj => ?_⟩⟩
                  have hj9 := (hk9.2.2 q1).2.2 j hj
                  by_cases q : x = t
                  · subst q
                    simp only [putI_at, ZPS, cpy, true_and, and_self, if_true]
                    by_cases r : k ≤ j ∧ j < k + m
                    · rw [if_pos r, if_pos r]
                      exact hz2.2.2 (i + (j - k)) (by omega)
                    · rw [if_neg r, if_neg r]
                      exact hj9
                  · simp only [putI_at, ZPS, true_and, q, false_and, if_false]
                    exact hj9
              · refine V_bipush (pc := 93) dX5_paste_93 (by decide) ?_
                refine V_iretI (pc := 95) dX5_paste_95 rfl ?_
                exact ⟨_, rfl, by unfold q_paste; rw [if_neg (by omega), if_neg (by omega), if_neg (by omega), if_pos (by unfold r_ps; omega)], by unfold s_paste; rw [if_neg (by omega), if_neg (by omega), if_neg (by omega), if_pos (by unfold r_ps; omega)]; exact hX, FC.rf⟩
          · refine V_bipush (pc := 67) dX5_paste_67 (by decide) ?_
            refine V_iretI (pc := 69) dX5_paste_69 rfl ?_
            exact ⟨_, rfl, by unfold q_paste; rw [if_neg (by omega), if_neg (by omega), if_pos (by omega)], by unfold s_paste; rw [if_neg (by omega), if_neg (by omega), if_pos (by omega)]; exact hX, FC.rf⟩
        · refine V_bipush (pc := 51) dX5_paste_51 (by decide) ?_
          refine V_iretI (pc := 53) dX5_paste_53 rfl ?_
          exact ⟨_, rfl, by unfold q_paste; rw [if_neg (by omega), if_pos (by omega)], by unfold s_paste; rw [if_neg (by omega), if_pos (by omega)]; exact hX, FC.rf⟩
    · refine V_bipush (pc := 16) dX5_paste_16 (by decide) ?_
      refine V_iretI (pc := 18) dX5_paste_18 rfl ?_
      exact ⟨_, rfl, by unfold q_paste; rw [if_pos (by omega)], by unfold s_paste; rw [if_pos (by omega)]; exact hX, FC.rf⟩
