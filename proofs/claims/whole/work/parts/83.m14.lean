theorem OffG_x {σ σ' : MM} (h : OffG σ σ') {t : Nat} (ht : t ≠ 34) : σ' t = σ t := by funext k z; exact h t k z (fun q => ht q.1)
theorem TKW_ASS {T : Int → Int} {n : Int} {w : Nat} {s : Int × Int} (h : s.1 = 0 ∧ WRD T n s.2 w) : TKW T n w s = ASS T n w s := by
  unfold TKW ASS
  rw [if_pos h, if_neg (by omega), if_pos h.2]
theorem FLS_ASS {T : Int → Int} {n : Int} {w : Nat} {s : Int × Int} (h : ¬ (s.1 = 0 ∧ WRD T n s.2 w)) : FLS T n 1 (TKW T n w s) = ASS T n w s := by
  unfold TKW FLS ASS
  rw [if_neg h]
  by_cases q : s.1 = 0
  · rw [if_pos q, if_neg (by omega), if_neg (fun z => h ⟨q, z⟩)]
  · rw [if_neg q, if_pos q]
theorem ASS_in {T : Int → Int} {n : Int} {w : Nat} {s : Int × Int} (hf : 0 ≤ s.1 ∧ s.1 ≤ 3) (hs : 0 ≤ s.2 ∧ s.2 ≤ n) : (0 ≤ (ASS T n w s).1 ∧ (ASS T n w s).1 ≤ 3) ∧ (0 ≤ (ASS T n w s).2 ∧ (ASS T n w s).2 ≤ n) := by
  have h1 := TS_in (T := T) hs
  have h2 := TE_in (T := T) hs
  unfold ASS
  split
  · exact ⟨hf, hs⟩
  · split
    · exact ⟨⟨Int.le_refl 0, (by decide : (0 : Int) ≤ 3)⟩, ⟨by show 0 ≤ TE T n s.2; omega, by show TE T n s.2 ≤ n; omega⟩⟩
    · exact ⟨⟨(by decide : (0 : Int) ≤ 1), (by decide : (1 : Int) ≤ 3)⟩, ⟨by show 0 ≤ TS T n s.2; omega, by show TS T n s.2 ≤ n; omega⟩⟩

set_option maxRecDepth 20000 in
set_option maxHeartbeats 1000000 in
theorem c_X6_asks {d : Nat} (hd : 3 ≤ d) {σ : MM} {T : Int → Int} {n : Int} {s : Int × Int} {x : Int} {w : Nat} (hT : TPE σ T n) (hn : 0 ≤ n ∧ n ≤ 700) (hTr : ∀ x : Int, 0 ≤ x ∧ x < n → -128 ≤ T x ∧ T x ≤ 127) (hR : RSM σ T n s) (hw : w < 15) (hx : x = COD w) (hxl : LR x) : V yX6_asks cX6_asks 3 none d (QZ (fun σ' => RSM σ' T n (ASS T n w s) ∧ OffG σ σ')) 0 [some (vR 34 0), some (vL x), none] [] σ := by
  have hR1 := hR.2.1
  have hR2 := hR.2.2.1
  have hS := TS_in (T := T) hR2
  have hE := TE_in (T := T) hR2
  have hb01 := bI_01 (s.1 = 0 ∧ WRD T n s.2 w)
  refine V_aload_0 (pc := 0) dX6_asks_0 ?_
  refine V_lload_1 (pc := 1) dX6_asks_1 ?_
  refine V_callV1i (pc := 2) dX6_asks_2 kv_X6_139 rc_34 (by omega) (d - 1) (by omega) rfl (c_X6_takesWord (by omega) hT hn hTr hR hw hx hxl) (fun v_2 σ_2 h_2 => ?_)
  obtain ⟨e1, hRt, hOt⟩ := h_2
  refine V_if_ne (pc := 5) 13 dX6_asks_5 (by decide) (by omega) (fun c_5 => ?_) (fun c_5 => ?_)
  · refine V_vret (pc := 13) dX6_asks_13 rfl ?_
    first
      | (by_cases q : s.1 = 0 ∧ WRD T n s.2 w
         · exact ⟨rfl, by rw [← TKW_ASS q]; exact hRt, hOt⟩
         · rw [bI_f q] at e1; exfalso; omega)
      | (by_cases q : s.1 = 0 ∧ WRD T n s.2 w
         · rw [bI_t q] at e1; exfalso; omega
         · exact ⟨rfl, by rw [← FLS_ASS q]; exact h_10.1, hOt.tr h_10.2⟩)
  · refine V_aload_0 (pc := 8) dX6_asks_8 ?_
    refine V_iconst (pc := 9) dX6_asks_9 ?_
    refine V_callV1z (pc := 10) dX6_asks_10 kv_X6_142 rc_34 (by omega) (d - 1) (by omega) rfl (c_X6_fails (by omega) hRt (by omega)) (fun σ_10 h_10 => ?_)
    refine V_vret (pc := 13) dX6_asks_13 rfl ?_
    first
      | (by_cases q : s.1 = 0 ∧ WRD T n s.2 w
         · exact ⟨rfl, by rw [← TKW_ASS q]; exact hRt, hOt⟩
         · rw [bI_f q] at e1; exfalso; omega)
      | (by_cases q : s.1 = 0 ∧ WRD T n s.2 w
         · rw [bI_t q] at e1; exfalso; omega
         · exact ⟨rfl, by rw [← FLS_ASS q]; exact h_10.1, hOt.tr h_10.2⟩)

set_option maxRecDepth 20000 in
set_option maxHeartbeats 1000000 in
theorem c_X6_number {d : Nat} (hd : 2 ≤ d) {σ : MM} {T : Int → Int} {n : Int} {s : Int × Int} {lo hi : Int} (hT : TPE σ T n) (hn : 0 ≤ n ∧ n ≤ 700) (hTr : ∀ x : Int, 0 ≤ x ∧ x < n → -128 ≤ T x ∧ T x ≤ 127) (hR : RSM σ T n s) (hlo : IR lo) (hhi : -1 ≤ hi ∧ hi ≤ 100) (hlo0 : 0 ≤ lo) : V yX6_number cX6_number 4 (some .int) d (QI (fun v σ' => ((NUM T n lo hi s).1.1 = 0 → v = (NUM T n lo hi s).2) ∧ RSM σ' T n (NUM T n lo hi s).1 ∧ OffG σ σ')) 0 [some (vR 34 0), some (vI lo), some (vI hi), none] [] σ := by
  have hR1 := hR.2.1
  have hR2 := hR.2.2.1
  have hS := TS_in (T := T) hR2
  have hE := TE_in (T := T) hR2
  have hk9 := hR.2.2.2.2.2
  refine V_aload_0 (pc := 0) dX6_number_0 ?_
  refine V_geti (pc := 1) dX6_number_1 gf_X6_126 (by omega) hR.1 ?_
  refine V_if_eq (pc := 4) 9 dX6_number_4 (by decide) (by omega) (fun c_4 => ?_) (fun c_4 => ?_)
  · have hs0 : s.1 = 0 := by omega
    have h0 := hR.2.2.2.1 hs0
    have hki := TK_in T n s.2
    refine V_aload_0 (pc := 9) dX6_number_9 ?_
    refine V_geti (pc := 10) dX6_number_10 gf_X6_115 (by omega) (v := TK T n s.2) h0.1.2.1 ?_
    refine V_iconst (pc := 13) dX6_number_13 ?_
    refine V_icmp_eq (pc := 14) 24 dX6_number_14 (by decide) (by omega) (by omega) (fun c_14 => ?_) (fun c_14 => ?_)
    · have hk2 : TK T n s.2 = 2 := by omega
      have hdg := TE_dig hR2 hk2
      have hvc := VC_in (T := T) (s := TS T n s.2) (k := (TE T n s.2 - TS T n s.2).toNat) (fun x hx => hdg x (by omega))
      have hvn := VC_NM (T := T) (s := TS T n s.2) (k := (TE T n s.2 - TS T n s.2).toNat) (fun x hx => hdg x (by omega))
      have hTV : TV T n s.2 = NM T (TS T n s.2) (TE T n s.2 - TS T n s.2).toNat := rfl
      refine V_aload_0 (pc := 24) dX6_number_24 ?_
      refine V_geti (pc := 25) dX6_number_25 gf_X6_108 (by omega) (v := VC T (TS T n s.2) (TE T n s.2 - TS T n s.2).toNat) (h0.1.2.2.2.2 hk2) ?_
      refine V_i2l (pc := 28) dX6_number_28 (by omega) ?_
      refine V_iload_1 (pc := 29) dX6_number_29 ?_
      refine V_i2l (pc := 30) dX6_number_30 (by omega) ?_
      refine V_iload_2 (pc := 31) dX6_number_31 ?_
      refine V_i2l (pc := 32) dX6_number_32 (by omega) ?_
      refine V_callS3p (pc := 33) dX6_number_33 kv_X6_79 (d - 1) (by omega) rfl (c_X6_in (by omega) (by omega) (by omega) (by omega)) ?_
      refine V_if_ne_b (pc := 36) 46 dX6_number_36 (by decide) (fun c_36 => ?_) (fun c_36 => ?_)
      · refine V_aload_0 (pc := 46) dX6_number_46 ?_
        refine V_geti (pc := 47) dX6_number_47 gf_X6_108 (by omega) (v := VC T (TS T n s.2) (TE T n s.2 - TS T n s.2).toNat) (h0.1.2.2.2.2 hk2) ?_
        refine V_istore_3 (pc := 50) dX6_number_50 ?_
        refine V_aload_0 (pc := 51) dX6_number_51 ?_
        refine V_callV0z (pc := 52) dX6_number_52 kv_X6_136 rc_34 (by omega) (d - 1) (by omega) rfl (c_X6_next (by omega) hT hn hTr (i := TE T n s.2) (by omega) h0.1.1) (fun σ_52 h_52 => ?_)
        refine V_iload_3 (pc := 55) dX6_number_55 ?_
        refine V_iretI (pc := 56) dX6_number_56 rfl ?_
        have hN : NUM T n lo hi s = ((0, TE T n s.2), TV T n s.2) := by unfold NUM; rw [if_neg (by omega), if_neg (by omega), if_neg (by omega)]
        rw [hN]
        exact ⟨_, rfl, fun _ => by show _ = TV T n s.2; omega, RSM.nx (by omega) (by rw [hR.1]; exact hs0) h0.2 h_52, h_52.2.g⟩
      · refine V_aload_0 (pc := 39) dX6_number_39 ?_
        refine V_iconst (pc := 40) dX6_number_40 ?_
        refine V_callV1z (pc := 41) dX6_number_41 kv_X6_142 rc_34 (by omega) (d - 1) (by omega) rfl (c_X6_fails (by omega) hR (by omega)) (fun σ_41 h_41 => ?_)
        refine V_iload_1 (pc := 44) dX6_number_44 ?_
        refine V_iretI (pc := 45) dX6_number_45 rfl ?_
        have hN : NUM T n lo hi s = ((2, TS T n s.2), 0) := by unfold NUM; rw [if_neg (by omega), if_neg (by omega), if_pos (by omega)]
        have hF_ : FLS T n 2 s = (2, TS T n s.2) := if_pos hs0
        rw [hN]
        exact ⟨_, rfl, fun q => absurd (show (2 : Int) = 0 from q) (by decide), by rw [← hF_]; exact h_41.1, h_41.2⟩
    · refine V_aload_0 (pc := 17) dX6_number_17 ?_
      refine V_iconst (pc := 18) dX6_number_18 ?_
      refine V_callV1z (pc := 19) dX6_number_19 kv_X6_142 rc_34 (by omega) (d - 1) (by omega) rfl (c_X6_fails (by omega) hR (by omega)) (fun σ_19 h_19 => ?_)
      refine V_iload_1 (pc := 22) dX6_number_22 ?_
      refine V_iretI (pc := 23) dX6_number_23 rfl ?_
      have hN : NUM T n lo hi s = ((1, TS T n s.2), 0) := by unfold NUM; rw [if_neg (by omega), if_pos (by omega)]
      have hF_ : FLS T n 1 s = (1, TS T n s.2) := if_pos hs0
      rw [hN]
      exact ⟨_, rfl, fun q => absurd (show (1 : Int) = 0 from q) (by decide), by rw [← hF_]; exact h_19.1, h_19.2⟩
  · refine V_iload_1 (pc := 7) dX6_number_7 ?_
    refine V_iretI (pc := 8) dX6_number_8 rfl ?_
    have hN : NUM T n lo hi s = (s, 0) := if_pos (by omega)
    rw [hN]
    exact ⟨_, rfl, fun q => absurd q (by show ¬ s.1 = 0; omega), hR, OffG.rf⟩

set_option maxRecDepth 20000 in
set_option maxHeartbeats 1000000 in
theorem c_X6_number_ {d : Nat} (hd : 4 ≤ d) {σ : MM} {T : Int → Int} {n : Int} {s : Int × Int} {x lo hi : Int} {w : Nat} (hT : TPE σ T n) (hn : 0 ≤ n ∧ n ≤ 700) (hTr : ∀ x : Int, 0 ≤ x ∧ x < n → -128 ≤ T x ∧ T x ≤ 127) (hR : RSM σ T n s) (hw : w < 15) (hx : x = COD w) (hxl : LR x) (hlo : 0 ≤ lo ∧ lo ≤ 100) (hhi : -1 ≤ hi ∧ hi ≤ 100) : V yX6_number_ cX6_number_ 5 (some .int) d (QI (fun v σ' => ((NBF T n w lo hi s).1.1 = 0 → v = (NBF T n w lo hi s).2) ∧ RSM σ' T n (NBF T n w lo hi s).1 ∧ OffG σ σ')) 0 [some (vR 34 0), some (vL x), none, some (vI lo), some (vI hi)] [] σ := by
  have hR1 := hR.2.1
  have hR2 := hR.2.2.1
  have hS := TS_in (T := T) hR2
  have hE := TE_in (T := T) hR2
  refine V_aload_0 (pc := 0) dX6_number__0 ?_
  refine V_lload_1 (pc := 1) dX6_number__1 ?_
  refine V_callV1z (pc := 2) dX6_number__2 kv_X6_145 rc_34 (by omega) (d - 1) (by omega) rfl (c_X6_asks (by omega) hT hn hTr hR hw hx hxl) (fun σ_2 h_2 => ?_)
  refine V_aload_0 (pc := 5) dX6_number__5 ?_
  refine V_iload_3 (pc := 6) dX6_number__6 ?_
  refine V_iload_4 (pc := 7) dX6_number__7 ?_
  refine V_callV2i (pc := 9) dX6_number__9 kv_X6_149 rc_34 (by omega) (d - 1) (by omega) rfl (c_X6_number (by omega) (h_2.2.tpe hT) hn hTr h_2.1 (by omega) (by omega) (by omega)) (fun v_9 σ_9 h_9 => ?_)
  refine V_iretI (pc := 12) dX6_number__12 rfl ?_
  rw [NBF_n]
  exact ⟨_, rfl, h_9.1, h_9.2.1, h_2.2.tr h_9.2.2⟩

set_option maxRecDepth 20000 in
set_option maxHeartbeats 1000000 in
theorem c_X6_ends {d : Nat} (hd : 2 ≤ d) {σ : MM} {T : Int → Int} {n : Int} {s : Int × Int} (hT : TPE σ T n) (hn : 0 ≤ n ∧ n ≤ 700) (hTr : ∀ x : Int, 0 ≤ x ∧ x < n → -128 ≤ T x ∧ T x ≤ 127) (hR : RSM σ T n s) : V yX6_ends cX6_ends 1 none d (QZ (fun σ' => RSM σ' T n (ENS T n s) ∧ OffG σ σ')) 0 [some (vR 34 0)] [] σ := by
  have hR1 := hR.2.1
  have hR2 := hR.2.2.1
  have hS := TS_in (T := T) hR2
  have hE := TE_in (T := T) hR2
  have hk9 := hR.2.2.2.2.2
  have hfl0 : s.1 = 0 → FLS T n 1 s = (1, TS T n s.2) := fun q => if_pos q
  have hfl1 : s.1 ≠ 0 → FLS T n 1 s = s := fun q => if_neg q
  have htk : s.1 = 0 → σ 34 0 8 = TK T n s.2 := fun q => (hR.2.2.2.1 q).1.2.1
  have at13b : ∀ {σf : MM} {sf : Int × Int}, RSM σf T n sf → OffG σ σf → sf.1 ≠ 0 → sf = ENS T n s → V yX6_ends cX6_ends 1 none d (QZ (fun σ' => RSM σ' T n (ENS T n s) ∧ OffG σ σ')) 13 [some (vR 34 0)] [] σf := by
    intro σf sf hRf hOf hsf hes
    have hsf3 := hRf.2.1
    rw [hes] at hRf hsf hsf3
    refine V_aload_0 (pc := 13) dX6_ends_13 ?_
    refine V_geti (pc := 14) dX6_ends_14 gf_X6_126 (by omega) hRf.1 ?_
    refine V_if_ne (pc := 17) 24 dX6_ends_17 (by decide) (by omega) (fun c_17 => ?_) (fun c_17 => ?_)
    · refine V_vret (pc := 24) dX6_ends_24 rfl ?_
      exact ⟨rfl, hRf, hOf⟩
    · exact absurd c_17 (by omega)
  have at13a : σ 34 0 8 = 3 → V yX6_ends cX6_ends 1 none d (QZ (fun σ' => RSM σ' T n (ENS T n s) ∧ OffG σ σ')) 13 [some (vR 34 0)] [] σ := by
    intro h83
    refine V_aload_0 (pc := 13) dX6_ends_13 ?_
    refine V_geti (pc := 14) dX6_ends_14 gf_X6_126 (by omega) hR.1 ?_
    refine V_if_ne (pc := 17) 24 dX6_ends_17 (by decide) (by omega) (fun c_17 => ?_) (fun c_17 => ?_)
    · refine V_vret (pc := 24) dX6_ends_24 rfl ?_
      first
        | (exact ⟨rfl, by unfold ENS; rw [if_pos (by omega)]; exact hR, OffG.rf⟩)
        | (exact ⟨rfl, by unfold ENS; rw [if_neg (by omega), if_neg (by omega)]; exact RSM.nx (by omega) (by rw [hR.1]; omega) (hR.2.2.2.1 (by omega)).2 h_21, h_21.2.g⟩)
    · refine V_aload_0 (pc := 20) dX6_ends_20 ?_
      refine V_callV0z (pc := 21) dX6_ends_21 kv_X6_136 rc_34 (by omega) (d - 1) (by omega) rfl (c_X6_next (by omega) hT hn hTr (i := TE T n s.2) (by omega) (hR.2.2.2.1 (by omega)).1.1) (fun σ_21 h_21 => ?_)
      refine V_vret (pc := 24) dX6_ends_24 rfl ?_
      first
        | (exact ⟨rfl, by unfold ENS; rw [if_pos (by omega)]; exact hR, OffG.rf⟩)
        | (exact ⟨rfl, by unfold ENS; rw [if_neg (by omega), if_neg (by omega)]; exact RSM.nx (by omega) (by rw [hR.1]; omega) (hR.2.2.2.1 (by omega)).2 h_21, h_21.2.g⟩)
  refine V_aload_0 (pc := 0) dX6_ends_0 ?_
  refine V_geti (pc := 1) dX6_ends_1 gf_X6_115 (by omega) rfl ?_
  refine V_iconst (pc := 4) dX6_ends_4 ?_
  refine V_icmp_eq (pc := 5) 13 dX6_ends_5 (by decide) (by omega) (by omega) (fun c_5 => ?_) (fun c_5 => ?_)
  · exact at13a (by omega)
  · refine V_aload_0 (pc := 8) dX6_ends_8 ?_
    refine V_iconst (pc := 9) dX6_ends_9 ?_
    refine V_callV1z (pc := 10) dX6_ends_10 kv_X6_142 rc_34 (by omega) (d - 1) (by omega) rfl (c_X6_fails (by omega) hR (by omega)) (fun σ_10 h_10 => ?_)
    refine at13b h_10.1 h_10.2 ?_ ?_
    · by_cases q : s.1 = 0
      · rw [hfl0 q]; show (1 : Int) ≠ 0; decide
      · rw [hfl1 q]; exact q
    · by_cases q : s.1 = 0
      · rw [hfl0 q]; unfold ENS; rw [if_neg (by omega), if_pos (by have := htk q; omega)]
      · rw [hfl1 q]; unfold ENS; rw [if_pos q]

set_option maxRecDepth 20000 in
set_option maxHeartbeats 1000000 in
theorem c_X6_begins {d : Nat} (hd : 2 ≤ d) {σ : MM} {T : Int → Int} {n : Int} (hT : TPE σ T n) (hn : 0 ≤ n ∧ n ≤ 700) (hTr : ∀ x : Int, 0 ≤ x ∧ x < n → -128 ≤ T x ∧ T x ≤ 127) : V yX6_begins cX6_begins 1 none d (QZ (fun σ' => RSM σ' T n (0, 0) ∧ OffG σ σ')) 0 [some (vR 34 0)] [] σ := by
  refine V_aload_0 (pc := 0) dX6_begins_0 ?_
  refine V_iconst (pc := 1) dX6_begins_1 ?_
  refine V_puti (pc := 2) dX6_begins_2 gf_X6_126 (by omega) ?_
  refine V_aload_0 (pc := 5) dX6_begins_5 ?_
  refine V_iconst (pc := 6) dX6_begins_6 ?_
  refine V_puti (pc := 7) dX6_begins_7 gf_X6_129 (by omega) ?_
  refine V_aload_0 (pc := 10) dX6_begins_10 ?_
  refine V_iconst (pc := 11) dX6_begins_11 ?_
  refine V_puti (pc := 12) dX6_begins_12 gf_X6_98 (by omega) ?_
  have hO3 : OffG σ (setI (setI (setI σ 34 0 12 0) 34 0 13 (-1)) 34 0 7 0) := (OffG.set (by omega)).tr ((OffG.set (by omega)).tr (OffG.set (by omega)))
  refine V_aload_0 (pc := 15) dX6_begins_15 ?_
  refine V_callV0z (pc := 16) dX6_begins_16 kv_X6_136 rc_34 (by omega) (d - 1) (by omega) rfl (c_X6_next (by omega) (hO3.tpe hT) hn hTr (i := 0) (by omega) (setI_same _ _ _ _ _)) (fun σ_16 h_16 => ?_)
  refine V_vret (pc := 19) dX6_begins_19 rfl ?_
  exact ⟨rfl, RSM.nx (by omega) (by rw [S34 (by decide), S34 (by decide), setI_same]) (by rw [S34 (by decide), setI_same]) h_16, hO3.tr h_16.2.g⟩

set_option maxRecDepth 20000 in
set_option maxHeartbeats 1000000 in
theorem c_X6_isOver {d : Nat} (hd : 0 ≤ d) {σ : MM} {a b : Int} (h12 : σ 34 0 12 = a) (h13 : σ 34 0 13 = b) (ha : IR a) : V yX6_isOver cX6_isOver 1 none d (QZ (fun σ' => σ' 34 0 6 = 0 ∧ (σ' 34 0 14 = a ∧ σ' 34 0 15 = if a = 0 then -1 else b) ∧ ∀ (t : Nat) (k z : Int), ¬ (t = 34 ∧ (z = 6 ∨ z = 14 ∨ z = 15)) → σ' t k z = σ t k z)) 0 [some (vR 34 0)] [] σ := by
  refine V_aload_0 (pc := 0) dX6_isOver_0 ?_
  refine V_iconst (pc := 1) dX6_isOver_1 ?_
  refine V_puti (pc := 2) dX6_isOver_2 gf_X6_91 (by omega) ?_
  refine V_aload_0 (pc := 5) dX6_isOver_5 ?_
  refine V_aload_0 (pc := 6) dX6_isOver_6 ?_
  refine V_geti (pc := 7) dX6_isOver_7 gf_X6_126 (by omega) (v := a) (by rw [S34 (by decide)]; exact h12) ?_
  refine V_puti (pc := 10) dX6_isOver_10 gf_X6_153 (by omega) ?_
  refine V_aload_0 (pc := 13) dX6_isOver_13 ?_
  refine V_aload_0 (pc := 14) dX6_isOver_14 ?_
  refine V_geti (pc := 15) dX6_isOver_15 gf_X6_126 (by omega) (v := a) (by rw [S34 (by decide), S34 (by decide)]; exact h12) ?_
  refine V_if_ne (pc := 18) 25 dX6_isOver_18 (by decide) (by omega) (fun c_18 => ?_) (fun c_18 => ?_)
  · refine V_aload_0 (pc := 25) dX6_isOver_25 ?_
    refine V_geti (pc := 26) dX6_isOver_26 gf_X6_129 (by omega) (v := b) (by rw [S34 (by decide), S34 (by decide)]; exact h13) ?_
    refine V_puti (pc := 29) dX6_isOver_29 gf_X6_27 (by omega) ?_
    refine V_vret (pc := 32) dX6_isOver_32 rfl ?_
    refine ⟨rfl, by rw [S34 (by decide), S34 (by decide), setI_same], ⟨by rw [S34 (by decide), setI_same], by rw [setI_same]; first | rw [if_pos (by omega)] | rw [if_neg (by omega)]⟩, fun t k z q => ?_⟩
    have g1 : ¬ (t = 34 ∧ k = 0 ∧ z = 6) := fun r => q ⟨r.1, by omega⟩
    have g2 : ¬ (t = 34 ∧ k = 0 ∧ z = 14) := fun r => q ⟨r.1, by omega⟩
    have g3 : ¬ (t = 34 ∧ k = 0 ∧ z = 15) := fun r => q ⟨r.1, by omega⟩
    simp only [setI_at, g1, g2, g3, if_false]
  · refine V_iconst (pc := 21) dX6_isOver_21 ?_
    refine V_goto (pc := 22) 29 dX6_isOver_22 (by decide) ?_
    refine V_puti (pc := 29) dX6_isOver_29 gf_X6_27 (by omega) ?_
    refine V_vret (pc := 32) dX6_isOver_32 rfl ?_
    refine ⟨rfl, by rw [S34 (by decide), S34 (by decide), setI_same], ⟨by rw [S34 (by decide), setI_same], by rw [setI_same]; first | rw [if_pos (by omega)] | rw [if_neg (by omega)]⟩, fun t k z q => ?_⟩
    have g1 : ¬ (t = 34 ∧ k = 0 ∧ z = 6) := fun r => q ⟨r.1, by omega⟩
    have g2 : ¬ (t = 34 ∧ k = 0 ∧ z = 14) := fun r => q ⟨r.1, by omega⟩
    have g3 : ¬ (t = 34 ∧ k = 0 ∧ z = 15) := fun r => q ⟨r.1, by omega⟩
    simp only [setI_at, g1, g2, g3, if_false]

set_option maxRecDepth 20000 in
set_option maxHeartbeats 1000000 in
theorem c_X6_hasRead {d : Nat} (hd : 0 ≤ d) {σ : MM} {j x : Int} (hj : 0 ≤ j ∧ j < 7) (hx : σ 41 0 (28 + j) = x) : V yX6_hasRead cX6_hasRead 2 (some .int) d (QI (fun v σ' => v = x ∧ σ' = σ)) 0 [some (vR 34 0), some (vI j)] [] σ := by
  refine V_aload_0 (pc := 0) dX6_hasRead_0 ?_
  refine V_getc (pc := 1) dX6_hasRead_1 gf_X6_34 (by omega) ?_
  refine V_bipush (pc := 4) dX6_hasRead_4 (by decide) ?_
  refine V_iload_1 (pc := 6) dX6_hasRead_6 ?_
  refine V_iadd (pc := 7) dX6_hasRead_7 ?_
  refine V_iald (pc := 8) dX6_hasRead_8 sh_41 (by omega) (by omega) hx ?_
  refine V_iretI (pc := 9) dX6_hasRead_9 rfl ?_
  exact ⟨_, rfl, by first | rfl | omega, rfl⟩

set_option maxRecDepth 20000 in
set_option maxHeartbeats 1000000 in
theorem c_X6_tells {d : Nat} (hd : 0 ≤ d) {σ : MM} {j x : Int} (hj : 0 ≤ j ∧ j < 7) : V yX6_tells cX6_tells 3 none d (QZ (fun σ' => σ' = setI σ 41 0 (28 + j) x)) 0 [some (vR 34 0), some (vI j), some (vI x)] [] σ := by
  refine V_aload_0 (pc := 0) dX6_tells_0 ?_
  refine V_getc (pc := 1) dX6_tells_1 gf_X6_34 (by omega) ?_
  refine V_bipush (pc := 4) dX6_tells_4 (by decide) ?_
  refine V_iload_1 (pc := 6) dX6_tells_6 ?_
  refine V_iadd (pc := 7) dX6_tells_7 ?_
  refine V_iload_2 (pc := 8) dX6_tells_8 ?_
  refine V_iast (pc := 9) dX6_tells_9 sh_41 (by omega) (by omega) ?_
  refine V_vret (pc := 10) dX6_tells_10 rfl ?_
  exact ⟨rfl, rfl⟩
