theorem YW_01 {w : Int → Int} (h : ∀ k : Int, 0 ≤ k → w k = 0 ∨ w k = 1) : ∀ i : Nat, YW w i = 0 ∨ YW w i = 1
  | 0 => Or.inl rfl
  | n + 1 => h n (by omega)
theorem YP_TB {E : BK} (hW : WB E) {w : Int → Int} (h : ∀ k : Int, 0 ≤ k → w k = 0 ∨ w k = 1) (i : Nat) : 1 ≤ (i : Int) → TB E ((i : Int) - 1) (YP E w i) := by
  intro h1
  cases i with
  | zero => omega
  | succ n =>
    rw [show ((n + 1 : Nat) : Int) - 1 = n by omega]
    exact TB_YS hW h n
theorem YP_eq (E : BK) (w : Int → Int) {i : Nat} (h : 1 ≤ (i : Int)) : YP E w i = YS E w ((i : Int) - 1).toNat := by
  cases i with
  | zero => omega
  | succ n => rw [show (((n + 1 : Nat) : Int) - 1).toNat = n by omega]; rfl
/-- the rows ahead of y are the years' -/
def RWS (σ : MM) (B E : BK) (wv : Int) (i : Int) : Prop := ∀ y e : Int, 0 ≤ y ∧ y < i → 0 ≤ e ∧ e < B 6 0 → σ 50 0 (7 * y + e) = SHD E (bt wv) y e ∧ σ 51 0 (7 * y + e) = RSD E (bt wv) y e
theorem RWS.off {σ σ' : MM} {B E : BK} {wv i : Int} (h : RWS σ B E wv i) (hO : ∀ x : Int, ¬ (7 * i ≤ x ∧ x < 7 * i + 7) → σ' 50 0 x = σ 50 0 x ∧ σ' 51 0 x = σ 51 0 x) (h7 : B 6 0 ≤ 7) : RWS σ' B E wv i := fun y e hy he => by
  have := hO (7 * y + e) (by omega)
  rw [this.1, this.2]
  exact h y e hy he

set_option maxRecDepth 20000 in
set_option maxHeartbeats 1000000 in
theorem c_X6_runs {d : Nat} (hd : 3 ≤ d) {σ : MM} {B E : BK} {wv : Int} (hM : MB σ 0 B) (hW : WB B) (hL : LD σ B E wv) : V yX6_runs cX6_runs 3 none d (QZ (fun σ' => SHM σ' B E wv ∧ KR σ σ')) 0 [some (vR 34 0), none, none] [] σ := by
  have hs := hW.s
  have hWE := hL.w
  have e7 : E 7 = B 7 := hL.e (by omega)
  have e8 : E 8 = B 8 := hL.e (by omega)
  have hs6 := hL.s6
  have hs4 := hL.s4
  have hs7 : B 6 0 ≤ 7 := by omega
  have hw01 : ∀ k : Int, 0 ≤ k → bt wv k = 0 ∨ bt wv k = 1 := fun k _ => bt_01 wv k
  have loop : ∀ i : Nat, i ≤ (B 1 0 + 1).toNat → ∀ σi, RWS σi B E wv i → (∀ e : Int, 0 ≤ e ∧ e < B 6 0 → E 13 e ≤ (i : Int) - 1 → σi 52 0 e = (YP E (bt wv) i) 1 e) → KR σ σi → V yX6_runs cX6_runs 3 none d (QZ (fun σ' => SHM σ' B E wv ∧ KR σ σ')) 2 [some (vR 34 0), some (vI (i : Int)), none] [] σi := by
    refine up_ind (P := fun i : Nat => ∀ σi, RWS σi B E wv i → (∀ e : Int, 0 ≤ e ∧ e < B 6 0 → E 13 e ≤ (i : Int) - 1 → σi 52 0 e = (YP E (bt wv) i) 1 e) → KR σ σi → V yX6_runs cX6_runs 3 none d (QZ (fun σ' => SHM σ' B E wv ∧ KR σ σ')) 2 [some (vR 34 0), some (vI (i : Int)), none] [] σi) ?_ ?_
    · intro σi hR hI hK
      refine V_iload_1 (pc := 2) dX6_runs_2 ?_
      refine V_aload_0 (pc := 3) dX6_runs_3 ?_
      refine V_callV0p (pc := 4) dX6_runs_4 kv_X6_243 rc_34 (by omega) (d - 1) (by omega) rfl (c_X6_years (by omega) (hK.mb hM) hW) ?_
      refine V_icmp_gt (pc := 7) 104 dX6_runs_7 (by decide) (by omega) (by omega) (fun c_7 => ?_) (fun c_7 => ?_)
      · refine V_vret (pc := 104) dX6_runs_104 rfl ?_
        exact ⟨rfl, fun y e hy he => hR y e (by omega) he, hK⟩
      · exact absurd c_7 (by omega)
    · intro i hi ih σi hR hI hK
      have hTBP := YP_TB hWE hw01 i
      have hTB : TB E i (RUB E (YP E (bt wv) i) i (BAS E (YP E (bt wv) i) i (YW (bt wv) i))) := TB_RUB (TB_BAS hWE hTBP (YW_01 hw01 i))
      have hyw : 1 ≤ (i : Int) → YW (bt wv) i = bt wv ((i : Int) - 1) := by
        intro q
        cases i with
        | zero => omega
        | succ n => rw [show ((n + 1 : Nat) : Int) - 1 = n by omega]; rfl
      have loop2 : ∀ j : Nat, j ≤ (B 6 0).toNat → ∀ σj, RWS σj B E wv i → (∀ e : Int, 0 ≤ e ∧ e < (j : Int) → σj 50 0 (7 * i + e) = (RUB E (YP E (bt wv) i) i (BAS E (YP E (bt wv) i) i (YW (bt wv) i))) 0 e ∧ σj 51 0 (7 * i + e) = (RUB E (YP E (bt wv) i) i (BAS E (YP E (bt wv) i) i (YW (bt wv) i))) 2 e ∧ (E 13 e ≤ i → σj 52 0 e = (RUB E (YP E (bt wv) i) i (BAS E (YP E (bt wv) i) i (YW (bt wv) i))) 1 e)) → (∀ e : Int, (j : Int) ≤ e ∧ e < B 6 0 → E 13 e ≤ (i : Int) - 1 → σj 52 0 e = (YP E (bt wv) i) 1 e) → KR σ σj → V yX6_runs cX6_runs 3 none d (QZ (fun σ' => SHM σ' B E wv ∧ KR σ σ')) 12 [some (vR 34 0), some (vI (i : Int)), some (vI (j : Int))] [] σj := by
        refine up_ind (P := fun j : Nat => ∀ σj, RWS σj B E wv i → (∀ e : Int, 0 ≤ e ∧ e < (j : Int) → σj 50 0 (7 * i + e) = (RUB E (YP E (bt wv) i) i (BAS E (YP E (bt wv) i) i (YW (bt wv) i))) 0 e ∧ σj 51 0 (7 * i + e) = (RUB E (YP E (bt wv) i) i (BAS E (YP E (bt wv) i) i (YW (bt wv) i))) 2 e ∧ (E 13 e ≤ i → σj 52 0 e = (RUB E (YP E (bt wv) i) i (BAS E (YP E (bt wv) i) i (YW (bt wv) i))) 1 e)) → (∀ e : Int, (j : Int) ≤ e ∧ e < B 6 0 → E 13 e ≤ (i : Int) - 1 → σj 52 0 e = (YP E (bt wv) i) 1 e) → KR σ σj → V yX6_runs cX6_runs 3 none d (QZ (fun σ' => SHM σ' B E wv ∧ KR σ σ')) 12 [some (vR 34 0), some (vI (i : Int)), some (vI (j : Int))] [] σj) ?_ ?_
        · intro σj hR hT hI hK
          refine V_iload_2 (pc := 12) dX6_runs_12 ?_
          refine V_aload_0 (pc := 13) dX6_runs_13 ?_
          refine V_callV0p (pc := 14) dX6_runs_14 kv_X6_236 rc_34 (by omega) (d - 1) (by omega) rfl (c_X6_entries (by omega) (hK.mb hM) hW) ?_
          refine V_icmp_ge (pc := 17) 93 dX6_runs_17 (by decide) (by omega) (by omega) (fun c_17 => ?_) (fun c_17 => ?_)
          · refine V_aload_0 (pc := 93) dX6_runs_93 ?_
            refine V_iload_1 (pc := 94) dX6_runs_94 ?_
            refine V_callV1z (pc := 95) dX6_runs_95 kv_X6_312 rc_34 (by omega) (d - 1) (by omega) rfl (c_X6_actsOf (by omega) (T := (RUB E (YP E (bt wv) i) i (BAS E (YP E (bt wv) i) i (YW (bt wv) i)))) (hK.mb hM) hW (hK.ld hL) (by omega) hTB (fun e he => hT e (by omega))) (fun σ_95 h_95 => ?_)
            refine V_iinc_1 (pc := 98) dX6_runs_98 ?_
            refine V_goto (pc := 101) 2 dX6_runs_101 (by decide) ?_
            have hY := YS_P E (bt wv) i
            refine V.sub (by simp only [subL, Option.some.injEq, Sum.inl.injEq, reduceCtorEq, true_or, or_true, false_or, true_and, and_true]; omega) (ih _ ?_ ?_ (hK.tr h_95.2.1))
            · have hR2 := hR.off h_95.2.2 hs7
              intro y e hy he
              by_cases q : y = i
              · subst q
                have h9 := h_95.1 e (by omega)
                rw [← hY] at h9
                exact ⟨h9.1, h9.2.1⟩
              · exact hR2 y e (by omega) he
            · intro e he hle
              have h9 := (h_95.1 e (by omega)).2.2 (by omega)
              rw [← hY] at h9
              rw [h9, YP_eq E (bt wv) (i := i + 1) (by omega)]
              rw [show (((i + 1 : Nat) : Int) - 1).toNat = i by omega]
          · exact absurd c_17 (by omega)
        · intro j hj ih2 σj hR hT hI hK
          have hEj := hWE.e (i := (j : Int)) (by omega)
          have hpr : ∀ x : Int, 0 ≤ x ∧ x < B 6 0 → 1 ≤ (i : Int) → (setI (setI σj 50 0 (7 * i + j) 0) 51 0 (7 * i + j) 0) 50 0 (7 * ((i : Int) - 1) + x) = (YP E (bt wv) i) 0 x ∧ (0 ≤ (YP E (bt wv) i) 0 x ∧ (YP E (bt wv) i) 0 x ≤ 60) := by
            intro x hx h1
            have q1 : ¬ 7 * ((i : Int) - 1) + x = 7 * i + j := by omega
            have g := (hR ((i : Int) - 1) x (by omega) hx).1
            rw [YP_eq E (bt wv) h1]
            refine ⟨?_, ((TB_YS hWE hw01 _) x (by omega)).1⟩
            simp only [setI_at, q1, and_false, false_and, if_false]
            exact g
          have hpr2 : 1 ≤ (i : Int) → (setI (setI σj 50 0 (7 * i + j) 0) 51 0 (7 * i + j) 0) 51 0 (7 * ((i : Int) - 1) + j) = (YP E (bt wv) i) 2 j := by
            intro h1
            have q1 : ¬ 7 * ((i : Int) - 1) + (j : Int) = 7 * i + j := by omega
            have g := (hR ((i : Int) - 1) j (by omega) (by omega)).2
            rw [YP_eq E (bt wv) h1]
            simp only [setI_at, q1, and_false, false_and, if_false]
            exact g
          refine V_iload_2 (pc := 12) dX6_runs_12 ?_
          refine V_aload_0 (pc := 13) dX6_runs_13 ?_
          refine V_callV0p (pc := 14) dX6_runs_14 kv_X6_236 rc_34 (by omega) (d - 1) (by omega) rfl (c_X6_entries (by omega) (hK.mb hM) hW) ?_
          refine V_icmp_ge (pc := 17) 93 dX6_runs_17 (by decide) (by omega) (by omega) (fun c_17 => ?_) (fun c_17 => ?_)
          · exact absurd c_17 (by omega)
          · refine V_aload_0 (pc := 20) dX6_runs_20 ?_
            refine V_getc (pc := 21) dX6_runs_21 gf_X6_62 (by omega) ?_
            refine V_bipush (pc := 24) dX6_runs_24 (by decide) ?_
            refine V_iload_1 (pc := 26) dX6_runs_26 ?_
            refine V_imul (pc := 27) dX6_runs_27 ?_
            refine V_iload_2 (pc := 28) dX6_runs_28 ?_
            refine V_iadd (pc := 29) dX6_runs_29 ?_
            refine V_iconst (pc := 30) dX6_runs_30 ?_
            refine V_iast (pc := 31) dX6_runs_31 sh_50 (by omega) (by omega) ?_
            refine V_aload_0 (pc := 32) dX6_runs_32 ?_
            refine V_getc (pc := 33) dX6_runs_33 gf_X6_65 (by omega) ?_
            refine V_bipush (pc := 36) dX6_runs_36 (by decide) ?_
            refine V_iload_1 (pc := 38) dX6_runs_38 ?_
            refine V_imul (pc := 39) dX6_runs_39 ?_
            refine V_iload_2 (pc := 40) dX6_runs_40 ?_
            refine V_iadd (pc := 41) dX6_runs_41 ?_
            refine V_iconst (pc := 42) dX6_runs_42 ?_
            refine V_zast (pc := 43) dX6_runs_43 sh_51 (by omega) (by omega) (by omega) ?_
            refine V_aload_0 (pc := 44) dX6_runs_44 ?_
            refine V_iload_2 (pc := 45) dX6_runs_45 ?_
            refine V_iload_1 (pc := 46) dX6_runs_46 ?_
            refine V_callV2p (pc := 47) dX6_runs_47 kv_X6_293 rc_34 (by omega) (d - 1) (by omega) rfl (c_X6_isThere (by omega) ((hK.tr ((KR.set (by omega)).tr (KR.set (by omega)))).mb hM) hW ((hK.tr ((KR.set (by omega)).tr (KR.set (by omega)))).ld hL) (by omega) (by omega)) ?_
            refine V_if_ne_b (pc := 50) 56 dX6_runs_50 (by decide) (fun c_50 => ?_) (fun c_50 => ?_)
            · have hwr := (hL.wr (e := (j : Int)) (by omega)).resolve_left (fun q => by omega)
              have e47 : σj 47 = σ 47 := hK 47 (by decide) (by decide) (by decide)
              have e48 : σj 48 = σ 48 := hK 48 (by decide) (by decide) (by decide)
              refine V_aload_0 (pc := 56) dX6_runs_56 ?_
              refine V_getc (pc := 57) dX6_runs_57 gf_X6_53 (by omega) ?_
              refine V_iload_2 (pc := 60) dX6_runs_60 ?_
              refine V_iald (pc := 61) dX6_runs_61 sh_47 (by omega) (by omega) (v := E 13 j) (by rw [setI_ne (by decide), setI_ne (by decide), e47]; exact hwr.2) ?_
              refine V_iload_1 (pc := 62) dX6_runs_62 ?_
              refine V_icmp_ne (pc := 63) 81 dX6_runs_63 (by decide) (by omega) (by omega) (fun c_63 => ?_) (fun c_63 => ?_)
              · refine V_aload_0 (pc := 81) dX6_runs_81 ?_
                refine V_iload_2 (pc := 82) dX6_runs_82 ?_
                refine V_iload_1 (pc := 83) dX6_runs_83 ?_
                refine V_callV2z (pc := 84) dX6_runs_84 kv_X6_309 rc_34 (by omega) (d - 1) (by omega) rfl (c_X6_steps (by omega) (P := (YP E (bt wv) i)) ((hK.tr ((KR.set (by omega)).tr (KR.set (by omega)))).mb hM) hW ((hK.tr ((KR.set (by omega)).tr (KR.set (by omega)))).ld hL) (by omega) (by omega) (fun x hx => hpr x hx (by omega)) (hpr2 (by omega)) (hTBP (by omega) j (by omega)).2.1 (by simp only [setI_at]; simp (config := {decide := true}) only [false_and, if_false]; exact hI j (by omega) (by omega)) (by have := (hTBP (by omega) j (by omega)).2.2 (by omega); omega) (by omega)) (fun σ_84 h_84 => ?_)
                refine V_iinc_2 (pc := 87) dX6_runs_87 ?_
                refine V_goto (pc := 90) 12 dX6_runs_90 (by decide) ?_
                have hRA := ROW_at (E := E) (P := (YP E (bt wv) i)) (y := i) (w := YW (bt wv) i) (e := (j : Int)) (by omega)
                refine V.sub (by simp only [subL, Option.some.injEq, Sum.inl.injEq, reduceCtorEq, true_or, or_true, false_or, true_and, and_true]; omega) (ih2 _ ?_ ?_ ?_ ((hK.tr ((KR.set (by omega)).tr (KR.set (by omega)))).tr h_84.2.2.2))
                · refine RWS.off hR (fun x hx => ?_) hs7
                  have q1 : ¬ x = 7 * (i : Int) + j := by omega
                  have g := (h_84.2.1 x q1)
                  rw [g.1, g.2]
                  simp [setI_at, q1]
                · intro e he
                  by_cases q : e = j
                  · subst q
                    have g := hRA.2.1 (by omega) (by omega)
                    rw [hyw (by omega)] at g ⊢
                    have hg1 := (GON_in hWE (P := (YP E (bt wv) i)) (e := (j : Int)) (y := i) (w := bt wv ((i : Int) - 1)) (bt_01 _ _) (by omega) (hTBP (by omega) j (by omega)).1 ((hTBP (by omega) j (by omega)).2.2 (by omega))).2.1
                    exact ⟨h_84.1.1.trans g.1.symm, h_84.1.2.2.trans g.2.2.symm, fun _ => (h_84.1.2.1.trans hg1.symm).trans g.2.1.symm⟩
                  · have h9 := hT e (by omega)
                    have q1 : ¬ 7 * (i : Int) + e = 7 * i + j := by omega
                    have g := h_84.2.1 _ q1
                    rw [g.1, g.2, h_84.2.2.1 e q]
                    simp only [setI_at, q1, and_false, false_and, if_false]
                    exact h9
                · intro e he hle
                  have q : ¬ e = j := by omega
                  rw [h_84.2.2.1 e q]
                  simp only [setI_at]
                  simp (config := {decide := true}) only [false_and, if_false]
                  exact hI e (by omega) hle
              · refine V_aload_0 (pc := 66) dX6_runs_66 ?_
                refine V_iload_2 (pc := 67) dX6_runs_67 ?_
                refine V_iload_1 (pc := 68) dX6_runs_68 ?_
                refine V_aload_0 (pc := 69) dX6_runs_69 ?_
                refine V_getc (pc := 70) dX6_runs_70 gf_X6_56 (by omega) ?_
                refine V_iload_2 (pc := 73) dX6_runs_73 ?_
                refine V_iald (pc := 74) dX6_runs_74 sh_48 (by omega) (by omega) (v := E 12 j) (by rw [setI_ne (by decide), setI_ne (by decide), e48]; exact hL.ik (by omega)) ?_
                refine V_callV3z (pc := 75) dX6_runs_75 kv_X6_296 rc_34 (by omega) (d - 1) (by omega) rfl (c_X6_begin0 (by omega) ((hK.tr ((KR.set (by omega)).tr (KR.set (by omega)))).mb hM) hW (by omega) (by omega) (by omega)) (fun σ_75 h_75 => ?_)
                refine V_goto (pc := 78) 87 dX6_runs_78 (by decide) ?_
                refine V_iinc_2 (pc := 87) dX6_runs_87 ?_
                refine V_goto (pc := 90) 12 dX6_runs_90 (by decide) ?_
                have hRA := ROW_at (E := E) (P := (YP E (bt wv) i)) (y := i) (w := YW (bt wv) i) (e := (j : Int)) (by omega)
                refine V.sub (by simp only [subL, Option.some.injEq, Sum.inl.injEq, reduceCtorEq, true_or, or_true, false_or, true_and, and_true]; omega) (ih2 _ ?_ ?_ ?_ ((hK.tr ((KR.set (by omega)).tr (KR.set (by omega)))).tr h_75.2.2.2))
                · refine RWS.off hR (fun x hx => ?_) hs7
                  have q1 : ¬ x = 7 * (i : Int) + j := by omega
                  have g := (h_75.2.1 x q1)
                  rw [g.1, g.2]
                  simp [setI_at, q1]
                · intro e he
                  by_cases q : e = j
                  · subst q
                    rw [e7, e8] at hRA
                    have g := hRA.1 (by omega)
                    exact ⟨h_75.1.1.trans g.1.symm, h_75.1.2.2.trans g.2.2.symm, fun _ => h_75.1.2.1.trans g.2.1.symm⟩
                  · have h9 := hT e (by omega)
                    have q1 : ¬ 7 * (i : Int) + e = 7 * i + j := by omega
                    have g := h_75.2.1 _ q1
                    rw [g.1, g.2, h_75.2.2.1 e q]
                    simp only [setI_at, q1, and_false, false_and, if_false]
                    exact h9
                · intro e he hle
                  have q : ¬ e = j := by omega
                  rw [h_75.2.2.1 e q]
                  simp only [setI_at]
                  simp (config := {decide := true}) only [false_and, if_false]
                  exact hI e (by omega) hle
            · refine V_goto (pc := 53) 87 dX6_runs_53 (by decide) ?_
              refine V_iinc_2 (pc := 87) dX6_runs_87 ?_
              refine V_goto (pc := 90) 12 dX6_runs_90 (by decide) ?_
              have hRA := ROW_at (E := E) (P := (YP E (bt wv) i)) (y := i) (w := YW (bt wv) i) (e := (j : Int)) (by omega)
              refine V.sub (by simp only [subL, Option.some.injEq, Sum.inl.injEq, reduceCtorEq, true_or, or_true, false_or, true_and, and_true]; omega) (ih2 _ ?_ ?_ ?_ ((hK.tr ((KR.set (by omega)).tr (KR.set (by omega))))))
              · refine RWS.off hR (fun x hx => ?_) hs7
                have q1 : ¬ x = 7 * (i : Int) + j := by omega
                simp [setI_at, q1]
              · intro e he
                by_cases q : e = j
                · subst q
                  have g := hRA.2.2 (by omega)
                  exact ⟨by rw [g 0 (Or.inl rfl)]; simp [setI_at], by rw [g 2 (Or.inr rfl)]; simp [setI_at], fun q => by omega⟩
                · have h9 := hT e (by omega)
                  have q1 : ¬ 7 * (i : Int) + e = 7 * i + j := by omega
                  simp only [setI_at, q1, and_false, false_and, if_false]
                  exact h9
              · intro e he hle
                simp only [setI_at]
                simp (config := {decide := true}) only [false_and, if_false]
                exact hI e (by omega) hle
      refine V_iload_1 (pc := 2) dX6_runs_2 ?_
      refine V_aload_0 (pc := 3) dX6_runs_3 ?_
      refine V_callV0p (pc := 4) dX6_runs_4 kv_X6_243 rc_34 (by omega) (d - 1) (by omega) rfl (c_X6_years (by omega) (hK.mb hM) hW) ?_
      refine V_icmp_gt (pc := 7) 104 dX6_runs_7 (by decide) (by omega) (by omega) (fun c_7 => ?_) (fun c_7 => ?_)
      · exact absurd c_7 (by omega)
      · refine V_iconst (pc := 10) dX6_runs_10 ?_
        refine V_istore_2 (pc := 11) dX6_runs_11 ?_
        exact loop2 0 (by omega) σi hR (fun e he => by omega) hI hK
  refine V_iconst (pc := 0) dX6_runs_0 ?_
  refine V_istore_1 (pc := 1) dX6_runs_1 ?_
  exact loop 0 (by omega) σ (fun y e hy => by omega) (fun e he hle => by have := (hWE.e (i := e) (by omega)); omega) KR.rf
