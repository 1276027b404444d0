theorem bt_FTY {B : BK} {Z : Nat → Int → Int → Int} {s e : Int} {i : Nat} (hi : i < (B 1 0 + 1).toNat) : bt (FTY B Z s e) i = 1 ↔ FIT (sB B 13 e i) (bt 0) Z s := by
  unfold FTY
  exact bt_I (p := fun w => FIT (sB B 13 e w) (bt 0) Z s) (by omega)

set_option maxRecDepth 20000 in
set_option maxHeartbeats 1000000 in
theorem dates_D {d : Nat} (hd : 5 ≤ d) {σ : MM} {B : BK} {Z : Nat → Int → Int → Int} {s e : Int} (hM0 : MB σ 0 B) (hG : GB B) (hZ : MZ σ Z) (he : 0 ≤ e ∧ e < B 6 0) : ∀ i : Nat, i ≤ (B 1 0 + 1).toNat → ∀ σi : MM, (σi 34 0 37 = (FTY B Z s e) ∧ (σi 34 0 38 = (BQ B e (FTY B Z s e) i).1 ∧ σi 34 0 39 = (BQ B e (FTY B Z s e) i).2) ∧ (∀ y z : Int, 0 ≤ y ∧ y ≤ B 1 0 → 0 ≤ z ∧ z ≤ 60 → σi 53 0 (61 * y + z) = TLY B e (FTY B Z s e) y z (B 1 0 + 1).toNat) ∧ KM σ σi) → V yX6_laysDates cX6_laysDates 6 none d (QZ (fun σ' => σ' 34 0 37 = FTY B Z s e ∧ (σ' 34 0 38 = (BQ B e (FTY B Z s e) (B 1 0 + 1).toNat).1 ∧ σ' 34 0 39 = (BQ B e (FTY B Z s e) (B 1 0 + 1).toNat).2) ∧ KM σ σ')) 139 [some (vR 34 0), some (vI s), some (vI e), some (vI (i : Int)), none, none] [] σi := by
  have hW := hG.w
  have hs := hW.s
  refine up_ind (P := fun i : Nat => ∀ σi : MM, (σi 34 0 37 = (FTY B Z s e) ∧ (σi 34 0 38 = (BQ B e (FTY B Z s e) i).1 ∧ σi 34 0 39 = (BQ B e (FTY B Z s e) i).2) ∧ (∀ y z : Int, 0 ≤ y ∧ y ≤ B 1 0 → 0 ≤ z ∧ z ≤ 60 → σi 53 0 (61 * y + z) = TLY B e (FTY B Z s e) y z (B 1 0 + 1).toNat) ∧ KM σ σi) → V yX6_laysDates cX6_laysDates 6 none d (QZ (fun σ' => σ' 34 0 37 = FTY B Z s e ∧ (σ' 34 0 38 = (BQ B e (FTY B Z s e) (B 1 0 + 1).toNat).1 ∧ σ' 34 0 39 = (BQ B e (FTY B Z s e) (B 1 0 + 1).toNat).2) ∧ KM σ σ')) 139 [some (vR 34 0), some (vI s), some (vI e), some (vI (i : Int)), none, none] [] σi) ?_ ?_
  · intro σi ⟨h37, ⟨h38, h39⟩, hT, hK⟩
    have hM := hK.mb hM0
    refine V_iload_3 (pc := 139) dX6_laysDates_139 ?_
    refine V_aload_0 (pc := 140) dX6_laysDates_140 ?_
    refine V_callV0p (pc := 141) dX6_laysDates_141 kv_X6_243 rc_34 (by omega) (d - 1) (by omega) rfl (c_X6_years (by omega) hM hW) ?_
    refine V_icmp_gt (pc := 144) 214 dX6_laysDates_144 (by decide) (by omega) (by omega) (fun c_144 => ?_) (fun c_144 => ?_)
    · refine V_vret (pc := 214) dX6_laysDates_214 rfl ?_
      exact ⟨rfl, h37, ⟨h38, h39⟩, hK⟩
    · exact absurd c_144 (by omega)
  · intro i hi ih σi ⟨h37, ⟨h38, h39⟩, hT, hK⟩
    have hM := hK.mb hM0
    have hbq := BQ_in hs e (FTY B Z s e) i
    have hlf := LFW_in hs e (FTY B Z s e) i
    have hLd : mxv (fun z => TLY B e (FTY B Z s e) i z (B 1 0 + 1).toNat) 61 = LFW B e (FTY B Z s e) i := rfl
    have hSn : BQ B e (FTY B Z s e) (i + 1) = if LFW B e (FTY B Z s e) i < (BQ B e (FTY B Z s e) i).2 then ((i : Int), LFW B e (FTY B Z s e) i) else BQ B e (FTY B Z s e) i := rfl
    rw [← hLd] at hSn hlf
    have loopE : ∀ j : Nat, j ≤ 61 → V yX6_laysDates cX6_laysDates 6 none d (QZ (fun σ' => σ' 34 0 37 = FTY B Z s e ∧ (σ' 34 0 38 = (BQ B e (FTY B Z s e) (B 1 0 + 1).toNat).1 ∧ σ' 34 0 39 = (BQ B e (FTY B Z s e) (B 1 0 + 1).toNat).2) ∧ KM σ σ')) 153 [some (vR 34 0), some (vI s), some (vI e), some (vI (i : Int)), some (vI (mxv (fun z => TLY B e (FTY B Z s e) i z (B 1 0 + 1).toNat) j)), some (vI (j : Int))] [] σi := by
      refine up_ind (P := fun j : Nat => V yX6_laysDates cX6_laysDates 6 none d (QZ (fun σ' => σ' 34 0 37 = FTY B Z s e ∧ (σ' 34 0 38 = (BQ B e (FTY B Z s e) (B 1 0 + 1).toNat).1 ∧ σ' 34 0 39 = (BQ B e (FTY B Z s e) (B 1 0 + 1).toNat).2) ∧ KM σ σ')) 153 [some (vR 34 0), some (vI s), some (vI e), some (vI (i : Int)), some (vI (mxv (fun z => TLY B e (FTY B Z s e) i z (B 1 0 + 1).toNat) j)), some (vI (j : Int))] [] σi) ?_ ?_
      ·
        refine V_iload_5 (pc := 153) dX6_laysDates_153 ?_
        refine V_bipush (pc := 155) dX6_laysDates_155 (by decide) ?_
        refine V_icmp_gt (pc := 157) 185 dX6_laysDates_157 (by decide) (by omega) (by omega) (fun c_157 => ?_) (fun c_157 => ?_)
        · refine V_iload_4 (pc := 185) dX6_laysDates_185 ?_
          refine V_aload_0 (pc := 187) dX6_laysDates_187 ?_
          refine V_geti (pc := 188) dX6_laysDates_188 gf_X6_380 (by omega) h39 ?_
          refine V_icmp_lt (pc := 191) 197 dX6_laysDates_191 (by decide) (by omega) (by omega) (fun c_191 => ?_) (fun c_191 => ?_)
          · refine V_aload_0 (pc := 197) dX6_laysDates_197 ?_
            refine V_iload_3 (pc := 198) dX6_laysDates_198 ?_
            refine V_puti (pc := 199) dX6_laysDates_199 gf_X6_374 (by omega) ?_
            refine V_aload_0 (pc := 202) dX6_laysDates_202 ?_
            refine V_iload_4 (pc := 203) dX6_laysDates_203 ?_
            refine V_puti (pc := 205) dX6_laysDates_205 gf_X6_380 (by omega) ?_
            refine V_iinc_3 (pc := 208) dX6_laysDates_208 ?_
            refine V_goto (pc := 211) 139 dX6_laysDates_211 (by decide) ?_
            refine V.sub (by simp only [subL, Option.some.injEq, Sum.inl.injEq, reduceCtorEq, true_or, or_true, false_or, true_and, and_true]; omega) (ih _ ⟨?_, ⟨?_, ?_⟩, fun y z hy hz => ?_, hK.tr ((KM.set (t := 34) (k := 0) (by unfold SCM; omega)).tr (KM.set (t := 34) (k := 0) (by unfold SCM; omega)))⟩)
            · rw [S34 (by decide), S34 (by decide)]; exact h37
            · rw [S34 (by decide), setI_same, hSn, if_pos (by omega)]
            · rw [setI_same, hSn, if_pos (by omega)]
            · rw [setI_ne (by decide), setI_ne (by decide)]; exact hT y z hy hz
          · refine V_goto (pc := 194) 208 dX6_laysDates_194 (by decide) ?_
            refine V_iinc_3 (pc := 208) dX6_laysDates_208 ?_
            refine V_goto (pc := 211) 139 dX6_laysDates_211 (by decide) ?_
            refine V.sub (by simp only [subL, Option.some.injEq, Sum.inl.injEq, reduceCtorEq, true_or, or_true, false_or, true_and, and_true]; omega) (ih _ ⟨h37, ⟨by rw [hSn, if_neg (by omega)]; exact h38, by rw [hSn, if_neg (by omega)]; exact h39⟩, hT, hK⟩)
        · exact absurd c_157 (by omega)
      · intro j hj ih2
        have ht := TLY_in B e (FTY B Z s e) i (j : Int) (B 1 0 + 1).toNat
        have hmx := mxv_in (c := 21) (by omega) (n := j) (f := (fun z => TLY B e (FTY B Z s e) i z (B 1 0 + 1).toNat)) (fun k _ => by have := TLY_in B e (FTY B Z s e) i k (B 1 0 + 1).toNat; show TLY B e (FTY B Z s e) i k (B 1 0 + 1).toNat ≤ 21; omega)
        refine V_iload_5 (pc := 153) dX6_laysDates_153 ?_
        refine V_bipush (pc := 155) dX6_laysDates_155 (by decide) ?_
        refine V_icmp_gt (pc := 157) 185 dX6_laysDates_157 (by decide) (by omega) (by omega) (fun c_157 => ?_) (fun c_157 => ?_)
        · exact absurd c_157 (by omega)
        · refine V_iload_4 (pc := 160) dX6_laysDates_160 ?_
          refine V_aload_0 (pc := 162) dX6_laysDates_162 ?_
          refine V_getc (pc := 163) dX6_laysDates_163 gf_X6_71 (by omega) ?_
          refine V_bipush (pc := 166) dX6_laysDates_166 (by decide) ?_
          refine V_iload_3 (pc := 168) dX6_laysDates_168 ?_
          refine V_imul (pc := 169) dX6_laysDates_169 ?_
          refine V_iload_5 (pc := 170) dX6_laysDates_170 ?_
          refine V_iadd (pc := 172) dX6_laysDates_172 ?_
          refine V_iald (pc := 173) dX6_laysDates_173 sh_53 (by omega) (by omega) (hT (i : Int) (j : Int) (by omega) (by omega)) ?_
          refine V_callS2p (pc := 174) dX6_laysDates_174 kv_X6_280 (d - 1) (by omega) rfl (c_X6_moreOf (by omega) (by omega) (by omega)) ?_
          refine V_istore_4 (pc := 177) dX6_laysDates_177 ?_
          refine V_iinc_5 (pc := 179) dX6_laysDates_179 ?_
          refine V_goto (pc := 182) 153 dX6_laysDates_182 (by decide) ?_
          refine V.sub (by simp only [subL, Option.some.injEq, Sum.inl.injEq, Sum.inr.injEq, reduceCtorEq, true_or, or_true, false_or, true_and, and_true]; refine ⟨?_, by omega⟩; rfl) ih2
    refine V_iload_3 (pc := 139) dX6_laysDates_139 ?_
    refine V_aload_0 (pc := 140) dX6_laysDates_140 ?_
    refine V_callV0p (pc := 141) dX6_laysDates_141 kv_X6_243 rc_34 (by omega) (d - 1) (by omega) rfl (c_X6_years (by omega) hM hW) ?_
    refine V_icmp_gt (pc := 144) 214 dX6_laysDates_144 (by decide) (by omega) (by omega) (fun c_144 => ?_) (fun c_144 => ?_)
    · exact absurd c_144 (by omega)
    · refine V_iconst (pc := 147) dX6_laysDates_147 ?_
      refine V_istore_4 (pc := 148) dX6_laysDates_148 ?_
      refine V_iconst (pc := 150) dX6_laysDates_150 ?_
      refine V_istore_5 (pc := 151) dX6_laysDates_151 ?_
      exact loopE 0 (by omega)

set_option maxRecDepth 20000 in
set_option maxHeartbeats 1000000 in
theorem dates_B {d : Nat} (hd : 5 ≤ d) {σ : MM} {B : BK} {Z : Nat → Int → Int → Int} {s e : Int} (hM0 : MB σ 0 B) (hG : GB B) (hZ : MZ σ Z) (he : 0 ≤ e ∧ e < B 6 0) (hk4 : 0 ≤ s ∧ s < 4) (h1 : Z 0 s 0 = 1) (hSN0 : SND B Z s) : ∀ i : Nat, i ≤ (B 1 0 + 1).toNat → ∀ σi : MM, (σi 34 0 37 = bsN (fun w => bI (FIT (sB B 13 e w) (bt 0) Z s)) i ∧ (∀ y z : Int, 0 ≤ y ∧ y ≤ B 1 0 → 0 ≤ z ∧ z ≤ 60 → σi 53 0 (61 * y + z) = TLY B e (FTY B Z s e) y z i) ∧ KM σ σi) → V yX6_laysDates cX6_laysDates 6 none d (QZ (fun σ' => σ' 34 0 37 = FTY B Z s e ∧ (σ' 34 0 38 = (BQ B e (FTY B Z s e) (B 1 0 + 1).toNat).1 ∧ σ' 34 0 39 = (BQ B e (FTY B Z s e) (B 1 0 + 1).toNat).2) ∧ KM σ σ')) 29 [some (vR 34 0), some (vI s), some (vI e), some (vI (i : Int)), none, none] [] σi := by
  have hW := hG.w
  have hs := hW.s
  have hfr := FTY_in hs Z s e
  refine up_ind (P := fun i : Nat => ∀ σi : MM, (σi 34 0 37 = bsN (fun w => bI (FIT (sB B 13 e w) (bt 0) Z s)) i ∧ (∀ y z : Int, 0 ≤ y ∧ y ≤ B 1 0 → 0 ≤ z ∧ z ≤ 60 → σi 53 0 (61 * y + z) = TLY B e (FTY B Z s e) y z i) ∧ KM σ σi) → V yX6_laysDates cX6_laysDates 6 none d (QZ (fun σ' => σ' 34 0 37 = FTY B Z s e ∧ (σ' 34 0 38 = (BQ B e (FTY B Z s e) (B 1 0 + 1).toNat).1 ∧ σ' 34 0 39 = (BQ B e (FTY B Z s e) (B 1 0 + 1).toNat).2) ∧ KM σ σ')) 29 [some (vR 34 0), some (vI s), some (vI e), some (vI (i : Int)), none, none] [] σi) ?_ ?_
  · intro σi ⟨h37, hT, hK⟩
    have hM := hK.mb hM0
    have h37 : σi 34 0 37 = (FTY B Z s e) := h37
    refine V_iload_3 (pc := 29) dX6_laysDates_29 ?_
    refine V_aload_0 (pc := 30) dX6_laysDates_30 ?_
    refine V_callV0p (pc := 31) dX6_laysDates_31 kv_X6_243 rc_34 (by omega) (d - 1) (by omega) rfl (c_X6_years (by omega) hM hW) ?_
    refine V_icmp_gt (pc := 34) 121 dX6_laysDates_34 (by decide) (by omega) (by omega) (fun c_34 => ?_) (fun c_34 => ?_)
    · refine V_aload_0 (pc := 121) dX6_laysDates_121 ?_
      refine V_iconst (pc := 122) dX6_laysDates_122 ?_
      refine V_puti (pc := 123) dX6_laysDates_123 gf_X6_374 (by omega) ?_
      refine V_aload_0 (pc := 126) dX6_laysDates_126 ?_
      refine V_aload_0 (pc := 127) dX6_laysDates_127 ?_
      refine V_geti (pc := 128) dX6_laysDates_128 gf_X6_368 (by omega) (show setI σi 34 0 38 (-1) 34 0 37 = (FTY B Z s e) by rw [S34 (by decide)]; exact h37) ?_
      refine V_callS1p (pc := 131) dX6_laysDates_131 kv_X6_377 (d - 1) (by omega) rfl (c_sizeOfI (by omega) (by omega)) ?_
      refine V_puti (pc := 134) dX6_laysDates_134 gf_X6_380 (by omega) ?_
      refine V_iconst (pc := 137) dX6_laysDates_137 ?_
      refine V_istore_3 (pc := 138) dX6_laysDates_138 ?_
      refine dates_D hd hM0 hG hZ he 0 (by omega) _ ⟨?_, ⟨?_, ?_⟩, fun y z hy hz => ?_, hK.tr ((KM.set (t := 34) (k := 0) (by unfold SCM; omega)).tr (KM.set (t := 34) (k := 0) (by unfold SCM; omega)))⟩
      · rw [S34 (by decide), S34 (by decide)]; exact h37
      · rw [S34 (by decide), setI_same]; rfl
      · rw [setI_same]; rfl
      · rw [setI_ne (by decide), setI_ne (by decide)]; exact hT y z hy hz
    · exact absurd c_34 (by omega)
  · intro i hi ih σi ⟨h37, hT, hK⟩
    have hM := hK.mb hM0
    have hb := bsI_in (fun w => FIT (sB B 13 e w) (bt 0) Z s) i
    have hS_ := bsN_S (fun w => bI (FIT (sB B 13 e w) (bt 0) Z s)) i
    have hbt := bt_FTY (B := B) (Z := Z) (s := s) (e := e) hi
    have hSN : SND B Z s := hSN0
    have loopC : FIT (sB B 13 e (i : Int)) (bt 0) Z s → ∀ j : Nat, j ≤ (B 1 0 + 1).toNat → ∀ σj : MM, (σj 34 0 37 = bsN (fun w => bI (FIT (sB B 13 e w) (bt 0) Z s)) i + p2 i ∧ (∀ y z : Int, 0 ≤ y ∧ y ≤ B 1 0 → 0 ≤ z ∧ z ≤ 60 → σj 53 0 (61 * y + z) = TLY B e (FTY B Z s e) y z i + (if y < (j : Int) then bI (SHD (sB B 13 e (i : Int)) (bt 0) y e = z) else 0)) ∧ SHM σj B (sB B 13 e (i : Int)) 0 ∧ KM σ σj) → V yX6_laysDates cX6_laysDates 6 none d (QZ (fun σ' => σ' 34 0 37 = FTY B Z s e ∧ (σ' 34 0 38 = (BQ B e (FTY B Z s e) (B 1 0 + 1).toNat).1 ∧ σ' 34 0 39 = (BQ B e (FTY B Z s e) (B 1 0 + 1).toNat).2) ∧ KM σ σ')) 78 [some (vR 34 0), some (vI s), some (vI e), some (vI (i : Int)), some (vI (j : Int)), none] [] σj := by
      intro hfit
      refine up_ind (P := fun j : Nat => ∀ σj : MM, (σj 34 0 37 = bsN (fun w => bI (FIT (sB B 13 e w) (bt 0) Z s)) i + p2 i ∧ (∀ y z : Int, 0 ≤ y ∧ y ≤ B 1 0 → 0 ≤ z ∧ z ≤ 60 → σj 53 0 (61 * y + z) = TLY B e (FTY B Z s e) y z i + (if y < (j : Int) then bI (SHD (sB B 13 e (i : Int)) (bt 0) y e = z) else 0)) ∧ SHM σj B (sB B 13 e (i : Int)) 0 ∧ KM σ σj) → V yX6_laysDates cX6_laysDates 6 none d (QZ (fun σ' => σ' 34 0 37 = FTY B Z s e ∧ (σ' 34 0 38 = (BQ B e (FTY B Z s e) (B 1 0 + 1).toNat).1 ∧ σ' 34 0 39 = (BQ B e (FTY B Z s e) (B 1 0 + 1).toNat).2) ∧ KM σ σ')) 78 [some (vR 34 0), some (vI s), some (vI e), some (vI (i : Int)), some (vI (j : Int)), none] [] σj) ?_ ?_
      · intro σj ⟨h37, hT, hS, hK⟩
        have hM := hK.mb hM0
        refine V_iload_4 (pc := 78) dX6_laysDates_78 ?_
        refine V_aload_0 (pc := 80) dX6_laysDates_80 ?_
        refine V_callV0p (pc := 81) dX6_laysDates_81 kv_X6_243 rc_34 (by omega) (d - 1) (by omega) rfl (c_X6_years (by omega) hM hW) ?_
        refine V_icmp_gt (pc := 84) 115 dX6_laysDates_84 (by decide) (by omega) (by omega) (fun c_84 => ?_) (fun c_84 => ?_)
        · refine V_iinc_3 (pc := 115) dX6_laysDates_115 ?_
          refine V_goto (pc := 118) 29 dX6_laysDates_118 (by decide) ?_
          refine V.sub (by simp only [subL, Option.some.injEq, Sum.inl.injEq, reduceCtorEq, true_or, or_true, false_or, true_and, and_true]; omega) (ih _ ⟨by rw [hS_, bI_t hfit]; omega, fun y z hy hz => ?_, hK⟩)
          rw [TLY_S, hT y z hy hz, if_pos (by omega)]
          exact congrArg (TLY B e (FTY B Z s e) y z i + ·) (bI_cong ⟨fun q => ⟨hbt.mpr hfit, q⟩, fun q => q.2⟩)
        · exact absurd c_84 (by omega)
      · intro j hj ih2 σj ⟨h37, hT, hS, hK⟩
        have hM := hK.mb hM0
        have hsh := SHD_in (r := 0) (y := (j : Int)) (WB_wrote (k := e) (v := (i : Int)) hW (by omega)) (e := e) he
        refine V_iload_4 (pc := 78) dX6_laysDates_78 ?_
        refine V_aload_0 (pc := 80) dX6_laysDates_80 ?_
        refine V_callV0p (pc := 81) dX6_laysDates_81 kv_X6_243 rc_34 (by omega) (d - 1) (by omega) rfl (c_X6_years (by omega) hM hW) ?_
        refine V_icmp_gt (pc := 84) 115 dX6_laysDates_84 (by decide) (by omega) (by omega) (fun c_84 => ?_) (fun c_84 => ?_)
        · exact absurd c_84 (by omega)
        · refine V_aload_0 (pc := 87) dX6_laysDates_87 ?_
          refine V_getc (pc := 88) dX6_laysDates_88 gf_X6_71 (by omega) ?_
          refine V_bipush (pc := 91) dX6_laysDates_91 (by decide) ?_
          refine V_iload_4 (pc := 93) dX6_laysDates_93 ?_
          refine V_imul (pc := 95) dX6_laysDates_95 ?_
          refine V_aload_0 (pc := 96) dX6_laysDates_96 ?_
          refine V_iload_2 (pc := 97) dX6_laysDates_97 ?_
          refine V_iload_4 (pc := 98) dX6_laysDates_98 ?_
          refine V_callV2p (pc := 100) dX6_laysDates_100 kv_X6_283 rc_34 (by omega) (d - 1) (by omega) rfl (c_X6_shadeOf (by omega) (by omega) (by omega) (hS.s (by omega) he)) ?_
          refine V_iadd (pc := 103) dX6_laysDates_103 ?_
          refine V_dup2 (pc := 104) dX6_laysDates_104 rfl rfl ?_
          refine V_iald (pc := 105) dX6_laysDates_105 sh_53 (by omega) (by omega) (hT (j : Int) _ (by omega) (by omega)) ?_
          refine V_iconst (pc := 106) dX6_laysDates_106 ?_
          refine V_iadd (pc := 107) dX6_laysDates_107 ?_
          refine V_iast (pc := 108) dX6_laysDates_108 sh_53 (by omega) (by omega) ?_
          refine V_iinc_4 (pc := 109) dX6_laysDates_109 ?_
          refine V_goto (pc := 112) 78 dX6_laysDates_112 (by decide) ?_
          refine V.sub (by simp only [subL, Option.some.injEq, Sum.inl.injEq, reduceCtorEq, true_or, or_true, false_or, true_and, and_true]; omega) (ih2 _ ⟨?_, fun y z hy hz => ?_, hS.mono (setI_tag (by decide)) (setI_tag (by decide)), hK.tr (KM.set (t := 53) (k := 0) (by unfold SCM; omega))⟩)
          · rw [setI_ne (by decide)]; exact h37
          · by_cases q : 61 * y + z = 61 * (j : Int) + SHD (sB B 13 e (i : Int)) (bt 0) j e
            · have q1 : y = j := by omega
              have q2 : z = SHD (sB B 13 e (i : Int)) (bt 0) j e := by omega
              rw [q, setI_same, if_neg (by omega), Int.add_zero, if_pos (by omega), q2, q1, bI_t rfl]
            · rw [setI_x q, hT y z hy hz]
              by_cases q1 : y = j
              · subst q1
                rw [if_neg (by omega), if_pos (by omega), bI_f (fun q2 => q (by rw [q2]))]
              · by_cases q3 : y < j
                · rw [if_pos q3, if_pos (by omega)]
                · rw [if_neg q3, if_neg (by omega)]
    refine V_iload_3 (pc := 29) dX6_laysDates_29 ?_
    refine V_aload_0 (pc := 30) dX6_laysDates_30 ?_
    refine V_callV0p (pc := 31) dX6_laysDates_31 kv_X6_243 rc_34 (by omega) (d - 1) (by omega) rfl (c_X6_years (by omega) hM hW) ?_
    refine V_icmp_gt (pc := 34) 121 dX6_laysDates_34 (by decide) (by omega) (by omega) (fun c_34 => ?_) (fun c_34 => ?_)
    · exact absurd c_34 (by omega)
    · refine V_aload_0 (pc := 37) dX6_laysDates_37 ?_
      refine V_callV0z (pc := 38) dX6_laysDates_38 kv_X6_315 rc_34 (by omega) (d - 1) (by omega) rfl (c_lays2 (by omega) hM hW) (fun σ_38 h_38 => ?_)
      obtain ⟨hL, hKl⟩ := h_38
      have h37 := (hKl 34 0 37 (by unfold SCL; omega)).trans h37
      have hT := fun y z hy hz => (hKl 53 0 (61 * y + z) (by unfold SCL; omega)).trans (hT y z hy hz)
      have hK := hK.tr hKl.km
      have hM := hK.mb hM0
      refine V_aload_0 (pc := 41) dX6_laysDates_41 ?_
      refine V_getc (pc := 42) dX6_laysDates_42 gf_X6_53 (by omega) ?_
      refine V_iload_2 (pc := 45) dX6_laysDates_45 ?_
      refine V_iload_3 (pc := 46) dX6_laysDates_46 ?_
      refine V_iast (pc := 47) dX6_laysDates_47 sh_47 (by omega) (by omega) ?_
      refine V_aload_0 (pc := 48) dX6_laysDates_48 ?_
      have hL := hL.p_wrote (e := e) (v := (i : Int)) (hG.n99 e he) (by omega)
      have h37 := (setI_ne (σ := σ_38) (t := 47) (k := 0) (z := e) (v := (i : Int)) (t' := 34) (by decide) 0 37).trans h37
      have hT := fun y z hy hz => (setI_ne (σ := σ_38) (t := 47) (k := 0) (z := e) (v := (i : Int)) (t' := 53) (by decide) 0 (61 * y + z)).trans (hT y z hy hz)
      have hK := hK.tr (KM.set (t := 47) (k := 0) (z := e) (v := (i : Int)) (by unfold SCM; omega))
      have hM := hK.mb hM0
      refine V_callV0z (pc := 49) dX6_laysDates_49 kv_X6_318 rc_34 (by omega) (d - 1) (by omega) rfl (c_X6_runs (by omega) hM hW hL) (fun σ_49 h_49 => ?_)
      obtain ⟨hS, hR_⟩ := h_49
      have hL := hR_.ld hL
      have h37 := (congrFun (congrFun (hR_ 34 (by decide) (by decide) (by decide)) 0) 37).trans h37
      have hT := fun y z hy hz => (congrFun (congrFun (hR_ 53 (by decide) (by decide) (by decide)) 0) (61 * y + z)).trans (hT y z hy hz)
      have hK := hK.tr hR_.km
      have hM := hK.mb hM0
      refine V_aload_0 (pc := 52) dX6_laysDates_52 ?_
      refine V_iload_1 (pc := 53) dX6_laysDates_53 ?_
      refine V_callV1p (pc := 54) dX6_laysDates_54 kv_X6_371 rc_34 (by omega) (d - 1) (by omega) rfl (c_X6_isSo (by omega) hM hW hL hS (hK.mz hZ) hk4 h1 hSN) ?_
      refine V_if_ne_b (pc := 57) 63 dX6_laysDates_57 (by decide) (fun c_57 => ?_) (fun c_57 => ?_)
      · refine V_aload_0 (pc := 63) dX6_laysDates_63 ?_
        refine V_dup (pc := 64) dX6_laysDates_64 rfl ?_
        refine V_geti (pc := 65) dX6_laysDates_65 gf_X6_368 (by omega) h37 ?_
        refine V_iconst (pc := 68) dX6_laysDates_68 ?_
        refine V_iload_3 (pc := 69) dX6_laysDates_69 ?_
        refine V_ishl_1 (pc := 70) dX6_laysDates_70 (by omega) ?_
        refine V_ior_add (pc := 71) dX6_laysDates_71 (by assumption) ?_
        refine V_puti (pc := 72) dX6_laysDates_72 gf_X6_368 (by omega) ?_
        refine V_iconst (pc := 75) dX6_laysDates_75 ?_
        refine V_istore_4 (pc := 76) dX6_laysDates_76 ?_
        have hfit : FIT (sB B 13 e (i : Int)) (bt 0) Z s := by assumption
        refine loopC hfit 0 (by omega) _ ⟨?_, fun y z hy hz => ?_, ?_, hK.tr (KM.set (t := 34) (k := 0) (by unfold SCM; omega))⟩
        · rw [setI_same]
        · rw [setI_ne (by decide), if_neg (by omega), Int.add_zero]; exact hT y z hy hz
        · exact hS.mono (setI_tag (by decide)) (setI_tag (by decide))
      · refine V_goto (pc := 60) 115 dX6_laysDates_60 (by decide) ?_
        refine V_iinc_3 (pc := 115) dX6_laysDates_115 ?_
        refine V_goto (pc := 118) 29 dX6_laysDates_118 (by decide) ?_
        refine V.sub (by simp only [subL, Option.some.injEq, Sum.inl.injEq, reduceCtorEq, true_or, or_true, false_or, true_and, and_true]; omega) (ih _ ⟨by rw [hS_, bI_f (by assumption)]; omega, fun y z hy hz => ?_, hK⟩)
        rw [TLY_S, bI_f (fun q => absurd (hbt.mp q.1) (by assumption)), Int.add_zero]
        exact hT y z hy hz

set_option maxRecDepth 20000 in
set_option maxHeartbeats 1000000 in
theorem c_X6_laysDates {d : Nat} (hd : 5 ≤ d) {σ : MM} {B : BK} {Z : Nat → Int → Int → Int} {s e : Int} (hM : MB σ 0 B) (hG : GB B) (hZ : MZ σ Z) (he : 0 ≤ e ∧ e < B 6 0) (hk4 : 0 ≤ s ∧ s < 4) (h1 : Z 0 s 0 = 1) (hSN : SND B Z s) : V yX6_laysDates cX6_laysDates 6 none d (QZ (fun σ' => σ' 34 0 37 = FTY B Z s e ∧ (σ' 34 0 38 = (BQ B e (FTY B Z s e) (B 1 0 + 1).toNat).1 ∧ σ' 34 0 39 = (BQ B e (FTY B Z s e) (B 1 0 + 1).toNat).2) ∧ KM σ σ')) 0 [some (vR 34 0), some (vI s), some (vI e), none, none, none] [] σ := by
  have hW := hG.w
  have hs := hW.s
  have loopA : ∀ i : Nat, i ≤ 1281 → ∀ σi : MM, (σi 34 0 37 = 0 ∧ (∀ x : Int, 0 ≤ x ∧ x < (i : Int) → σi 53 0 x = 0) ∧ KM σ σi) → V yX6_laysDates cX6_laysDates 6 none d (QZ (fun σ' => σ' 34 0 37 = FTY B Z s e ∧ (σ' 34 0 38 = (BQ B e (FTY B Z s e) (B 1 0 + 1).toNat).1 ∧ σ' 34 0 39 = (BQ B e (FTY B Z s e) (B 1 0 + 1).toNat).2) ∧ KM σ σ')) 7 [some (vR 34 0), some (vI s), some (vI e), some (vI (i : Int)), none, none] [] σi := by
    refine up_ind (P := fun i : Nat => ∀ σi : MM, (σi 34 0 37 = 0 ∧ (∀ x : Int, 0 ≤ x ∧ x < (i : Int) → σi 53 0 x = 0) ∧ KM σ σi) → V yX6_laysDates cX6_laysDates 6 none d (QZ (fun σ' => σ' 34 0 37 = FTY B Z s e ∧ (σ' 34 0 38 = (BQ B e (FTY B Z s e) (B 1 0 + 1).toNat).1 ∧ σ' 34 0 39 = (BQ B e (FTY B Z s e) (B 1 0 + 1).toNat).2) ∧ KM σ σ')) 7 [some (vR 34 0), some (vI s), some (vI e), some (vI (i : Int)), none, none] [] σi) ?_ ?_
    · intro σi hI
      refine V_iload_3 (pc := 7) dX6_laysDates_7 ?_
      refine V_sipush (pc := 8) dX6_laysDates_8 (by decide) ?_
      refine V_icmp_ge (pc := 11) 27 dX6_laysDates_11 (by decide) (by omega) (by omega) (fun c_11 => ?_) (fun c_11 => ?_)
      · refine V_iconst (pc := 27) dX6_laysDates_27 ?_
        refine V_istore_3 (pc := 28) dX6_laysDates_28 ?_
        exact dates_B hd hM hG hZ he hk4 h1 hSN 0 (by omega) _ ⟨hI.1, fun y z hy hz => hI.2.1 _ (by have := hW.s; omega), hI.2.2⟩
      · exact absurd c_11 (by omega)
    · intro i hi ih σi hI
      refine V_iload_3 (pc := 7) dX6_laysDates_7 ?_
      refine V_sipush (pc := 8) dX6_laysDates_8 (by decide) ?_
      refine V_icmp_ge (pc := 11) 27 dX6_laysDates_11 (by decide) (by omega) (by omega) (fun c_11 => ?_) (fun c_11 => ?_)
      · exact absurd c_11 (by omega)
      · refine V_aload_0 (pc := 14) dX6_laysDates_14 ?_
        refine V_getc (pc := 15) dX6_laysDates_15 gf_X6_71 (by omega) ?_
        refine V_iload_3 (pc := 18) dX6_laysDates_18 ?_
        refine V_iconst (pc := 19) dX6_laysDates_19 ?_
        refine V_iast (pc := 20) dX6_laysDates_20 sh_53 (by omega) (by omega) ?_
        refine V_iinc_3 (pc := 21) dX6_laysDates_21 ?_
        refine V_goto (pc := 24) 7 dX6_laysDates_24 (by decide) ?_
        refine V.sub (by simp only [subL, Option.some.injEq, Sum.inl.injEq, reduceCtorEq, true_or, or_true, false_or, true_and, and_true]; omega) (ih _ ⟨?_, fun x hx => ?_, hI.2.2.tr (KM.set (t := 53) (k := 0) (by unfold SCM; omega))⟩)
        · rw [setI_ne (by decide)]; exact hI.1
        · by_cases q : x = i
          · rw [q, setI_same]
          · rw [setI_x q]; exact hI.2.1 x (by omega)
  refine V_aload_0 (pc := 0) dX6_laysDates_0 ?_
  refine V_iconst (pc := 1) dX6_laysDates_1 ?_
  refine V_puti (pc := 2) dX6_laysDates_2 gf_X6_368 (by omega) ?_
  refine V_iconst (pc := 5) dX6_laysDates_5 ?_
  refine V_istore_3 (pc := 6) dX6_laysDates_6 ?_
  exact loopA 0 (by omega) _ ⟨setI_same _ _ _ _ _, fun x hx => by omega, KM.set (by unfold SCM; omega)⟩

set_option maxRecDepth 20000 in
set_option maxHeartbeats 1000000 in
theorem c_X6_dates {d : Nat} (hd : 6 ≤ d) {σ : MM} {B : BK} {Z : Nat → Int → Int → Int} {s e : Int} (hM : MB σ 0 B) (hG : GB B) (hZ : MZ σ Z) (hs0 : IR s) (he : IR e) : V yX6_dates cX6_dates 4 (some .int) d (QI (fun v σ' => v = q_dates B Z s e ∧ KM σ σ')) 0 [some (vR 34 0), some (vI s), some (vI e), none] [] σ := by
  have hW := hG.w
  have hs := hW.s
  have hM0 := hM
  have hfr := FTY_in hs Z s e
  have hbq := BQ_in hs e (FTY B Z s e) (B 1 0 + 1).toNat
  refine V_aload_0 (pc := 0) dX6_dates_0 ?_
  refine V_iconst (pc := 1) dX6_dates_1 ?_
  refine V_puti (pc := 2) dX6_dates_2 gf_X6_74 (by omega) ?_
  have hM := (KM.set (σ := σ) (t := 34) (k := 0) (z := 0) (v := 0) (by unfold SCM; omega)).mb hM
  have hK := (KM.set (σ := σ) (t := 34) (k := 0) (z := 0) (v := 0) (by unfold SCM; omega))
  refine V_aload_0 (pc := 5) dX6_dates_5 ?_
  refine V_iload_1 (pc := 6) dX6_dates_6 ?_
  refine V_aload_0 (pc := 7) dX6_dates_7 ?_
  refine V_iload_2 (pc := 8) dX6_dates_8 ?_
  refine V_i2l (pc := 9) dX6_dates_9 (by omega) ?_
  refine V_callV1p (pc := 10) dX6_dates_10 kv_X6_246 rc_34 (by omega) (d - 1) (by omega) rfl (c_X6_isEntry (by omega) hM hW (by omega)) ?_
  refine V_callV2p (pc := 13) dX6_dates_13 kv_X6_383 rc_34 (by omega) (d - 1) (by omega) rfl (c_whyE (e := e) (by omega) hM hW (KM.mz (KM.set (σ := σ) (t := 34) (k := 0) (z := 0) (v := 0) (by unfold SCM; omega)) hZ) (by omega)) ?_
  obtain hW9 := RW9_in B Z s e
  have hW8 := RFS_in B Z s
  refine V_istore_3 (pc := 16) dX6_dates_16 ?_
  refine V_iload_3 (pc := 17) dX6_dates_17 ?_
  refine V_if_eq (pc := 18) 23 dX6_dates_18 (by decide) (by omega) (fun c_18 => ?_) (fun c_18 => ?_)
  · refine V_aload_0 (pc := 23) dX6_dates_23 ?_
    refine V_iload_1 (pc := 24) dX6_dates_24 ?_
    have hrf : RFS B Z s = 0 := by omega
    have hR0 := RFS_0 hrf
    have hk4 := hR0.1
    have h1 : Z 0 s 0 = 1 := by have := hZ.w (k := s) hk4; omega
    have hSN := hR0.2.2.2
    refine V_iload_2 (pc := 25) dX6_dates_25 ?_
    refine V_callV2z (pc := 26) dX6_dates_26 kv_X6_387 rc_34 (by omega) (d - 1) (by omega) rfl (c_X6_laysDates (by omega) hM hG (hK.mz hZ) (by omega) hk4 h1 hSN) (fun σ_26 h_26 => ?_)
    obtain ⟨h37, ⟨h38, h39⟩, hK2⟩ := h_26
    have hK := hK.tr hK2
    have hM := hK.mb hM0
    refine V_aload_0 (pc := 29) dX6_dates_29 ?_
    refine V_geti (pc := 30) dX6_dates_30 gf_X6_368 (by omega) h37 ?_
    refine V_callS1p (pc := 33) dX6_dates_33 kv_X6_377 (d - 1) (by omega) rfl (c_sizeOfI (by omega) (by omega)) ?_
    refine V_iretI (pc := 36) dX6_dates_36 rfl ?_
    first | exact ⟨_, rfl, RQ_no (by omega), hK⟩ | exact ⟨_, rfl, (RQ_ok (by omega)).symm, hK⟩
  · refine V_iload_3 (pc := 21) dX6_dates_21 ?_
    refine V_iretI (pc := 22) dX6_dates_22 rfl ?_
    first | exact ⟨_, rfl, RQ_no (by omega), hK⟩ | exact ⟨_, rfl, (RQ_ok (by omega)).symm, hK⟩

set_option maxRecDepth 20000 in
set_option maxHeartbeats 1000000 in
theorem c_X6_ask {d : Nat} (hd : 6 ≤ d) {σ : MM} {B : BK} {Z : Nat → Int → Int → Int} {s e : Int} (hM : MB σ 0 B) (hG : GB B) (hZ : MZ σ Z) (hs0 : IR s) (he : IR e) : V yX6_ask cX6_ask 4 (some .int) d (QI (fun v σ' => v = q_ask B Z s e ∧ KM σ σ')) 0 [some (vR 34 0), some (vI s), some (vI e), none] [] σ := by
  have hW := hG.w
  have hs := hW.s
  have hM0 := hM
  have hfr := FTY_in hs Z s e
  have hbq := BQ_in hs e (FTY B Z s e) (B 1 0 + 1).toNat
  refine V_aload_0 (pc := 0) dX6_ask_0 ?_
  refine V_iconst (pc := 1) dX6_ask_1 ?_
  refine V_puti (pc := 2) dX6_ask_2 gf_X6_74 (by omega) ?_
  have hM := (KM.set (σ := σ) (t := 34) (k := 0) (z := 0) (v := 0) (by unfold SCM; omega)).mb hM
  have hK := (KM.set (σ := σ) (t := 34) (k := 0) (z := 0) (v := 0) (by unfold SCM; omega))
  refine V_aload_0 (pc := 5) dX6_ask_5 ?_
  refine V_iload_1 (pc := 6) dX6_ask_6 ?_
  refine V_aload_0 (pc := 7) dX6_ask_7 ?_
  refine V_iload_2 (pc := 8) dX6_ask_8 ?_
  refine V_i2l (pc := 9) dX6_ask_9 (by omega) ?_
  refine V_callV1p (pc := 10) dX6_ask_10 kv_X6_246 rc_34 (by omega) (d - 1) (by omega) rfl (c_X6_isEntry (by omega) hM hW (by omega)) ?_
  refine V_callV2p (pc := 13) dX6_ask_13 kv_X6_383 rc_34 (by omega) (d - 1) (by omega) rfl (c_whyE (e := e) (by omega) hM hW (KM.mz (KM.set (σ := σ) (t := 34) (k := 0) (z := 0) (v := 0) (by unfold SCM; omega)) hZ) (by omega)) ?_
  obtain hW9 := RW9_in B Z s e
  have hW8 := RFS_in B Z s
  refine V_istore_3 (pc := 16) dX6_ask_16 ?_
  refine V_iload_3 (pc := 17) dX6_ask_17 ?_
  refine V_if_eq (pc := 18) 23 dX6_ask_18 (by decide) (by omega) (fun c_18 => ?_) (fun c_18 => ?_)
  · refine V_aload_0 (pc := 23) dX6_ask_23 ?_
    refine V_iload_1 (pc := 24) dX6_ask_24 ?_
    have hrf : RFS B Z s = 0 := by omega
    have hR0 := RFS_0 hrf
    have hk4 := hR0.1
    have h1 : Z 0 s 0 = 1 := by have := hZ.w (k := s) hk4; omega
    have hSN := hR0.2.2.2
    refine V_iload_2 (pc := 25) dX6_ask_25 ?_
    refine V_callV2z (pc := 26) dX6_ask_26 kv_X6_387 rc_34 (by omega) (d - 1) (by omega) rfl (c_X6_laysDates (by omega) hM hG (hK.mz hZ) (by omega) hk4 h1 hSN) (fun σ_26 h_26 => ?_)
    obtain ⟨h37, ⟨h38, h39⟩, hK2⟩ := h_26
    have hK := hK.tr hK2
    have hM := hK.mb hM0
    refine V_aload_0 (pc := 29) dX6_ask_29 ?_
    refine V_geti (pc := 30) dX6_ask_30 gf_X6_374 (by omega) h38 ?_
    refine V_iretI (pc := 33) dX6_ask_33 rfl ?_
    first | exact ⟨_, rfl, RQ_no (by omega), hK⟩ | exact ⟨_, rfl, (RQ_ok (by omega)).symm, hK⟩
  · refine V_iload_3 (pc := 21) dX6_ask_21 ?_
    refine V_iretI (pc := 22) dX6_ask_22 rfl ?_
    first | exact ⟨_, rfl, RQ_no (by omega), hK⟩ | exact ⟨_, rfl, (RQ_ok (by omega)).symm, hK⟩

set_option maxRecDepth 20000 in
set_option maxHeartbeats 1000000 in
theorem c_X6_leaves {d : Nat} (hd : 6 ≤ d) {σ : MM} {B : BK} {Z : Nat → Int → Int → Int} {s e : Int} (hM : MB σ 0 B) (hG : GB B) (hZ : MZ σ Z) (hs0 : IR s) (he : IR e) : V yX6_leaves cX6_leaves 4 (some .int) d (QI (fun v σ' => v = q_leaves B Z s e ∧ KM σ σ')) 0 [some (vR 34 0), some (vI s), some (vI e), none] [] σ := by
  have hW := hG.w
  have hs := hW.s
  have hM0 := hM
  have hfr := FTY_in hs Z s e
  have hbq := BQ_in hs e (FTY B Z s e) (B 1 0 + 1).toNat
  refine V_aload_0 (pc := 0) dX6_leaves_0 ?_
  refine V_iconst (pc := 1) dX6_leaves_1 ?_
  refine V_puti (pc := 2) dX6_leaves_2 gf_X6_74 (by omega) ?_
  have hM := (KM.set (σ := σ) (t := 34) (k := 0) (z := 0) (v := 0) (by unfold SCM; omega)).mb hM
  have hK := (KM.set (σ := σ) (t := 34) (k := 0) (z := 0) (v := 0) (by unfold SCM; omega))
  refine V_aload_0 (pc := 5) dX6_leaves_5 ?_
  refine V_iload_1 (pc := 6) dX6_leaves_6 ?_
  refine V_aload_0 (pc := 7) dX6_leaves_7 ?_
  refine V_iload_2 (pc := 8) dX6_leaves_8 ?_
  refine V_i2l (pc := 9) dX6_leaves_9 (by omega) ?_
  refine V_callV1p (pc := 10) dX6_leaves_10 kv_X6_246 rc_34 (by omega) (d - 1) (by omega) rfl (c_X6_isEntry (by omega) hM hW (by omega)) ?_
  refine V_callV2p (pc := 13) dX6_leaves_13 kv_X6_383 rc_34 (by omega) (d - 1) (by omega) rfl (c_whyE (e := e) (by omega) hM hW (KM.mz (KM.set (σ := σ) (t := 34) (k := 0) (z := 0) (v := 0) (by unfold SCM; omega)) hZ) (by omega)) ?_
  obtain hW9 := RW9_in B Z s e
  have hW8 := RFS_in B Z s
  refine V_istore_3 (pc := 16) dX6_leaves_16 ?_
  refine V_iload_3 (pc := 17) dX6_leaves_17 ?_
  refine V_if_eq (pc := 18) 23 dX6_leaves_18 (by decide) (by omega) (fun c_18 => ?_) (fun c_18 => ?_)
  · refine V_aload_0 (pc := 23) dX6_leaves_23 ?_
    refine V_iload_1 (pc := 24) dX6_leaves_24 ?_
    have hrf : RFS B Z s = 0 := by omega
    have hR0 := RFS_0 hrf
    have hk4 := hR0.1
    have h1 : Z 0 s 0 = 1 := by have := hZ.w (k := s) hk4; omega
    have hSN := hR0.2.2.2
    refine V_iload_2 (pc := 25) dX6_leaves_25 ?_
    refine V_callV2z (pc := 26) dX6_leaves_26 kv_X6_387 rc_34 (by omega) (d - 1) (by omega) rfl (c_X6_laysDates (by omega) hM hG (hK.mz hZ) (by omega) hk4 h1 hSN) (fun σ_26 h_26 => ?_)
    obtain ⟨h37, ⟨h38, h39⟩, hK2⟩ := h_26
    have hK := hK.tr hK2
    have hM := hK.mb hM0
    refine V_aload_0 (pc := 29) dX6_leaves_29 ?_
    refine V_geti (pc := 30) dX6_leaves_30 gf_X6_380 (by omega) h39 ?_
    refine V_iretI (pc := 33) dX6_leaves_33 rfl ?_
    first | exact ⟨_, rfl, RQ_no (by omega), hK⟩ | exact ⟨_, rfl, (RQ_ok (by omega)).symm, hK⟩
  · refine V_iload_3 (pc := 21) dX6_leaves_21 ?_
    refine V_iretI (pc := 22) dX6_leaves_22 rfl ?_
    first | exact ⟨_, rfl, RQ_no (by omega), hK⟩ | exact ⟨_, rfl, (RQ_ok (by omega)).symm, hK⟩

set_option maxRecDepth 20000 in
set_option maxHeartbeats 1000000 in
theorem c_X6_first {d : Nat} (hd : 6 ≤ d) {σ : MM} {B : BK} {Z : Nat → Int → Int → Int} {s e : Int} (hM : MB σ 0 B) (hG : GB B) (hZ : MZ σ Z) (hs : IR s) (he : IR e) : V yX6_first cX6_first 5 (some .int) d (QI (fun v σ' => v = q_first B Z s e ∧ KM σ σ')) 0 [some (vR 34 0), some (vI s), some (vI e), none, none] [] σ := by
  have hW := hG.w
  have hs := hW.s
  have hM0 := hM
  have hfr := FTY_in hs Z s e
  have loop : (RW9 B Z s e = 0) → ∀ i : Nat, i ≤ (B 1 0 + 1).toNat → ∀ σi : MM, (KM σ σi ∧ (σi 34 0 37 = (FTY B Z s e) ∧ (∀ x : Int, 0 ≤ x ∧ x < (i : Int) → ¬ (bt (FTY B Z s e) x = 1)))) → V yX6_first cX6_first 5 (some .int) d (QI (fun v σ' => v = q_first B Z s e ∧ KM σ σ')) 32 [some (vR 34 0), some (vI s), some (vI e), none, some (vI (i : Int))] [] σi := by
    intro hR
    refine up_ind (P := fun i : Nat => ∀ σi : MM, (KM σ σi ∧ (σi 34 0 37 = (FTY B Z s e) ∧ (∀ x : Int, 0 ≤ x ∧ x < (i : Int) → ¬ (bt (FTY B Z s e) x = 1)))) → V yX6_first cX6_first 5 (some .int) d (QI (fun v σ' => v = q_first B Z s e ∧ KM σ σ')) 32 [some (vR 34 0), some (vI s), some (vI e), none, some (vI (i : Int))] [] σi) ?_ ?_
    · intro σi hI
      obtain ⟨hK, hJ⟩ := hI
      have hM := hK.mb hM0
      obtain ⟨h37, hJ⟩ := hJ
      refine V_iload_4 (pc := 32) dX6_first_32 ?_
      refine V_aload_0 (pc := 34) dX6_first_34 ?_
      refine V_callV0p (pc := 35) dX6_first_35 kv_X6_243 rc_34 (by omega) (d - 1) (by omega) rfl (c_X6_years (by omega) hM hW) ?_
      refine V_icmp_gt (pc := 38) 62 dX6_first_38 (by decide) (by omega) (by omega) (fun c_38 => ?_) (fun c_38 => ?_)
      · refine V_iconst (pc := 62) dX6_first_62 ?_
        refine V_iretI (pc := 63) dX6_first_63 rfl ?_
        exact ⟨_, rfl, by unfold q_first; rw [RQ_ok hR]; exact (fst_no (p := (fun y => bt (FTY B Z s e) y = 1)) _ 0 (fun x hx => hJ x (by omega))).symm, hK⟩
      · exact absurd c_38 (by omega)
    · intro i hi ih σi hI
      obtain ⟨hK, hJ⟩ := hI
      have hM := hK.mb hM0
      obtain ⟨h37, hJ⟩ := hJ
      refine V_iload_4 (pc := 32) dX6_first_32 ?_
      refine V_aload_0 (pc := 34) dX6_first_34 ?_
      refine V_callV0p (pc := 35) dX6_first_35 kv_X6_243 rc_34 (by omega) (d - 1) (by omega) rfl (c_X6_years (by omega) hM hW) ?_
      refine V_icmp_gt (pc := 38) 62 dX6_first_38 (by decide) (by omega) (by omega) (fun c_38 => ?_) (fun c_38 => ?_)
      · exact absurd c_38 (by omega)
      · refine V_aload_0 (pc := 41) dX6_first_41 ?_
        refine V_geti (pc := 42) dX6_first_42 gf_X6_368 (by omega) rfl ?_
        refine V_iload_4 (pc := 45) dX6_first_45 ?_
        refine V_callS2p (pc := 47) dX6_first_47 kv_X6_273 (d - 1) (by omega) rfl (c_X6_isBit (by omega) (by omega) (by omega)) ?_
        refine V_if_eq_b (pc := 50) 56 dX6_first_50 (by decide) (fun c_50 => ?_) (fun c_50 => ?_)
        · refine V_iinc_4 (pc := 56) dX6_first_56 ?_
          refine V_goto (pc := 59) 32 dX6_first_59 (by decide) ?_
          refine V.sub (by simp only [subL, Option.some.injEq, Sum.inl.injEq, reduceCtorEq, true_or, or_true, false_or, true_and, and_true]; omega) (ih _ ⟨hK, h37, nx_step hJ (show ¬ bt (FTY B Z s e) (i : Int) = 1 by rw [← h37]; assumption) (by omega)⟩)
        · refine V_iload_4 (pc := 53) dX6_first_53 ?_
          refine V_iretI (pc := 55) dX6_first_55 rfl ?_
          exact ⟨_, rfl, by unfold q_first; rw [RQ_ok hR]; exact (fst_is (p := (fun y => bt (FTY B Z s e) y = 1)) (x := (i : Int)) (show bt (FTY B Z s e) (i : Int) = 1 by rw [← h37]; assumption) _ 0 (by omega) (fun x hx => hJ x (by omega))).symm, hK⟩
  refine V_aload_0 (pc := 0) dX6_first_0 ?_
  refine V_iconst (pc := 1) dX6_first_1 ?_
  refine V_puti (pc := 2) dX6_first_2 gf_X6_74 (by omega) ?_
  have hM := (KM.set (σ := σ) (t := 34) (k := 0) (z := 0) (v := 0) (by unfold SCM; omega)).mb hM
  have hK := (KM.set (σ := σ) (t := 34) (k := 0) (z := 0) (v := 0) (by unfold SCM; omega))
  refine V_aload_0 (pc := 5) dX6_first_5 ?_
  refine V_iload_1 (pc := 6) dX6_first_6 ?_
  refine V_aload_0 (pc := 7) dX6_first_7 ?_
  refine V_iload_2 (pc := 8) dX6_first_8 ?_
  refine V_i2l (pc := 9) dX6_first_9 (by omega) ?_
  refine V_callV1p (pc := 10) dX6_first_10 kv_X6_246 rc_34 (by omega) (d - 1) (by omega) rfl (c_X6_isEntry (by omega) hM hW (by omega)) ?_
  refine V_callV2p (pc := 13) dX6_first_13 kv_X6_383 rc_34 (by omega) (d - 1) (by omega) rfl (c_whyE (e := e) (by omega) hM hW (KM.mz (KM.set (σ := σ) (t := 34) (k := 0) (z := 0) (v := 0) (by unfold SCM; omega)) hZ) (by omega)) ?_
  obtain hW9 := RW9_in B Z s e
  have hW8 := RFS_in B Z s
  refine V_istore_3 (pc := 16) dX6_first_16 ?_
  refine V_iload_3 (pc := 17) dX6_first_17 ?_
  refine V_if_eq (pc := 18) 23 dX6_first_18 (by decide) (by omega) (fun c_18 => ?_) (fun c_18 => ?_)
  · refine V_aload_0 (pc := 23) dX6_first_23 ?_
    refine V_iload_1 (pc := 24) dX6_first_24 ?_
    have hrf : RFS B Z s = 0 := by omega
    have hR0 := RFS_0 hrf
    have hk4 := hR0.1
    have h1 : Z 0 s 0 = 1 := by have := hZ.w (k := s) hk4; omega
    have hSN := hR0.2.2.2
    refine V_iload_2 (pc := 25) dX6_first_25 ?_
    refine V_callV2z (pc := 26) dX6_first_26 kv_X6_387 rc_34 (by omega) (d - 1) (by omega) rfl (c_X6_laysDates (by omega) hM hG (hK.mz hZ) (by omega) hk4 h1 hSN) (fun σ_26 h_26 => ?_)
    obtain ⟨h37, ⟨h38, h39⟩, hK2⟩ := h_26
    have hK := hK.tr hK2
    have hM := hK.mb hM0
    refine V_iconst (pc := 29) dX6_first_29 ?_
    refine V_istore_4 (pc := 30) dX6_first_30 ?_
    refine V.sub (by simp only [subL, Option.some.injEq, Sum.inl.injEq, reduceCtorEq, true_or, or_true, false_or, true_and, and_true]; omega) (loop (by omega) 0 (by omega) _ ⟨hK, h37, fun x hx => by omega⟩)
  · refine V_iload_3 (pc := 21) dX6_first_21 ?_
    refine V_iretI (pc := 22) dX6_first_22 rfl ?_
    exact ⟨_, rfl, RQ_no (by omega), hK⟩

set_option maxRecDepth 20000 in
set_option maxHeartbeats 1000000 in
theorem c_X6_last {d : Nat} (hd : 6 ≤ d) {σ : MM} {B : BK} {Z : Nat → Int → Int → Int} {s e : Int} (hM : MB σ 0 B) (hG : GB B) (hZ : MZ σ Z) (hs : IR s) (he : IR e) : V yX6_last cX6_last 5 (some .int) d (QI (fun v σ' => v = q_last B Z s e ∧ KM σ σ')) 0 [some (vR 34 0), some (vI s), some (vI e), none, none] [] σ := by
  have hW := hG.w
  have hs := hW.s
  have hM0 := hM
  have hfr := FTY_in hs Z s e
  have loop : (RW9 B Z s e = 0) → ∀ i : Nat, i ≤ (B 1 0 + 1).toNat → ∀ σi : MM, (KM σ σi ∧ (σi 34 0 37 = (FTY B Z s e) ∧ (lst (fun y => bt (FTY B Z s e) y = 1) (B 1 0 + 1).toNat = lst (fun y => bt (FTY B Z s e) y = 1) ((B 1 0 + 1).toNat - i)))) → V yX6_last cX6_last 5 (some .int) d (QI (fun v σ' => v = q_last B Z s e ∧ KM σ σ')) 35 [some (vR 34 0), some (vI s), some (vI e), none, some (vI (B 1 0 - (i : Int)))] [] σi := by
    intro hR
    refine up_ind (P := fun i : Nat => ∀ σi : MM, (KM σ σi ∧ (σi 34 0 37 = (FTY B Z s e) ∧ (lst (fun y => bt (FTY B Z s e) y = 1) (B 1 0 + 1).toNat = lst (fun y => bt (FTY B Z s e) y = 1) ((B 1 0 + 1).toNat - i)))) → V yX6_last cX6_last 5 (some .int) d (QI (fun v σ' => v = q_last B Z s e ∧ KM σ σ')) 35 [some (vR 34 0), some (vI s), some (vI e), none, some (vI (B 1 0 - (i : Int)))] [] σi) ?_ ?_
    · intro σi hI
      obtain ⟨hK, hJ⟩ := hI
      have hM := hK.mb hM0
      obtain ⟨h37, hJ⟩ := hJ
      refine V_iload_4 (pc := 35) dX6_last_35 ?_
      refine V_if_lt (pc := 37) 61 dX6_last_37 (by decide) (by omega) (fun c_37 => ?_) (fun c_37 => ?_)
      · refine V_iconst (pc := 61) dX6_last_61 ?_
        refine V_iretI (pc := 62) dX6_last_62 rfl ?_
        exact ⟨_, rfl, by unfold q_last; rw [RQ_ok hR, hJ, Nat.sub_self]; rfl, hK⟩
      · exact absurd c_37 (by omega)
    · intro i hi ih σi hI
      obtain ⟨hK, hJ⟩ := hI
      have hM := hK.mb hM0
      obtain ⟨h37, hJ⟩ := hJ
      have hN : (B 1 0 + 1).toNat - i = ((B 1 0 + 1).toNat - (i + 1)) + 1 := by omega
      have hMm : (((B 1 0 + 1).toNat - (i + 1) : Nat) : Int) = B 1 0 - (i : Int) := by omega
      rw [hN, lst_S, hMm] at hJ
      refine V_iload_4 (pc := 35) dX6_last_35 ?_
      refine V_if_lt (pc := 37) 61 dX6_last_37 (by decide) (by omega) (fun c_37 => ?_) (fun c_37 => ?_)
      · exact absurd c_37 (by omega)
      · refine V_aload_0 (pc := 40) dX6_last_40 ?_
        refine V_geti (pc := 41) dX6_last_41 gf_X6_368 (by omega) rfl ?_
        refine V_iload_4 (pc := 44) dX6_last_44 ?_
        refine V_callS2p (pc := 46) dX6_last_46 kv_X6_273 (d - 1) (by omega) rfl (c_X6_isBit (by omega) (by omega) (by omega)) ?_
        refine V_if_eq_b (pc := 49) 55 dX6_last_49 (by decide) (fun c_49 => ?_) (fun c_49 => ?_)
        · refine V_iinc_4 (pc := 55) dX6_last_55 ?_
          refine V_goto (pc := 58) 35 dX6_last_58 (by decide) ?_
          refine V.sub (by simp only [subL, Option.some.injEq, Sum.inl.injEq, reduceCtorEq, true_or, or_true, false_or, true_and, and_true]; omega) (ih _ ⟨hK, h37, by rw [hJ, if_neg (show ¬ bt (FTY B Z s e) (B 1 0 - (i : Int)) = 1 by rw [← h37]; assumption)]⟩)
        · refine V_iload_4 (pc := 52) dX6_last_52 ?_
          refine V_iretI (pc := 54) dX6_last_54 rfl ?_
          exact ⟨_, rfl, by unfold q_last; rw [RQ_ok hR, hJ, if_pos (show bt (FTY B Z s e) (B 1 0 - (i : Int)) = 1 by rw [← h37]; assumption)], hK⟩
  refine V_aload_0 (pc := 0) dX6_last_0 ?_
  refine V_iconst (pc := 1) dX6_last_1 ?_
  refine V_puti (pc := 2) dX6_last_2 gf_X6_74 (by omega) ?_
  have hM := (KM.set (σ := σ) (t := 34) (k := 0) (z := 0) (v := 0) (by unfold SCM; omega)).mb hM
  have hK := (KM.set (σ := σ) (t := 34) (k := 0) (z := 0) (v := 0) (by unfold SCM; omega))
  refine V_aload_0 (pc := 5) dX6_last_5 ?_
  refine V_iload_1 (pc := 6) dX6_last_6 ?_
  refine V_aload_0 (pc := 7) dX6_last_7 ?_
  refine V_iload_2 (pc := 8) dX6_last_8 ?_
  refine V_i2l (pc := 9) dX6_last_9 (by omega) ?_
  refine V_callV1p (pc := 10) dX6_last_10 kv_X6_246 rc_34 (by omega) (d - 1) (by omega) rfl (c_X6_isEntry (by omega) hM hW (by omega)) ?_
  refine V_callV2p (pc := 13) dX6_last_13 kv_X6_383 rc_34 (by omega) (d - 1) (by omega) rfl (c_whyE (e := e) (by omega) hM hW (KM.mz (KM.set (σ := σ) (t := 34) (k := 0) (z := 0) (v := 0) (by unfold SCM; omega)) hZ) (by omega)) ?_
  obtain hW9 := RW9_in B Z s e
  have hW8 := RFS_in B Z s
  refine V_istore_3 (pc := 16) dX6_last_16 ?_
  refine V_iload_3 (pc := 17) dX6_last_17 ?_
  refine V_if_eq (pc := 18) 23 dX6_last_18 (by decide) (by omega) (fun c_18 => ?_) (fun c_18 => ?_)
  · refine V_aload_0 (pc := 23) dX6_last_23 ?_
    refine V_iload_1 (pc := 24) dX6_last_24 ?_
    have hrf : RFS B Z s = 0 := by omega
    have hR0 := RFS_0 hrf
    have hk4 := hR0.1
    have h1 : Z 0 s 0 = 1 := by have := hZ.w (k := s) hk4; omega
    have hSN := hR0.2.2.2
    refine V_iload_2 (pc := 25) dX6_last_25 ?_
    refine V_callV2z (pc := 26) dX6_last_26 kv_X6_387 rc_34 (by omega) (d - 1) (by omega) rfl (c_X6_laysDates (by omega) hM hG (hK.mz hZ) (by omega) hk4 h1 hSN) (fun σ_26 h_26 => ?_)
    obtain ⟨h37, ⟨h38, h39⟩, hK2⟩ := h_26
    have hK := hK.tr hK2
    have hM := hK.mb hM0
    refine V_aload_0 (pc := 29) dX6_last_29 ?_
    refine V_callV0p (pc := 30) dX6_last_30 kv_X6_243 rc_34 (by omega) (d - 1) (by omega) rfl (c_X6_years (by omega) hM hW) ?_
    refine V_istore_4 (pc := 33) dX6_last_33 ?_
    refine V.sub (by simp only [subL, Option.some.injEq, Sum.inl.injEq, reduceCtorEq, true_or, or_true, false_or, true_and, and_true]; omega) (loop (by omega) 0 (by omega) _ ⟨hK, h37, rfl⟩)
  · refine V_iload_3 (pc := 21) dX6_last_21 ?_
    refine V_iretI (pc := 22) dX6_last_22 rfl ?_
    exact ⟨_, rfl, RQ_no (by omega), hK⟩
