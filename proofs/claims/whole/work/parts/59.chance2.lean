section ROWS6
variable {yy : MethodName} {cc : ByteArray} {nL d pc : Nat} {ret : Option FieldType} {Q : Option AV → MM → Prop} {ls : List (Option AV)} {st : List AV} {σ : MM}
theorem V_callS6j {y : MethodName} {cy : ByteArray} {nY idx : Nat} {rY : Option FieldType} {x0 x1 x2 x3 x4 x5 : AV} {ls1 : List (Option AV)} {P : Int → MM → Prop} (d0 : decode cc pc = .ok (.invokestatic idx, 3)) (hK : KS yy.cls idx y cy nY rY 6) (d1 : Nat) (hd : d1 + 1 ≤ d) (he : entL nY [x0, x1, x2, x3, x4, x5] = ls1) (hV : V y cy nY rY d1 (QJ P) 0 ls1 [] σ) (kk : ∀ v σ', P v σ' → V yy cc nL ret d Q (pc + 3) ls (vL v :: st) σ') (hw : (st.map avc).sum ≤ 8 := by exact Nat.le_of_ble_eq_true rfl) (hfit : (entA [x0, x1, x2, x3, x4, x5]).length ≤ nY := by exact Nat.le_of_ble_eq_true rfl) : V yy cc nL ret d Q pc ls (x5 :: x4 :: x3 :: x2 :: x1 :: x0 :: st) σ :=
  V_callS (as := [x0, x1, x2, x3, x4, x5]) d0 hK rfl hd hw he hfit hV (fun r σ' h => by obtain ⟨v, rfl, hp⟩ := h; exact kk v σ' hp)
end ROWS6
/-- only years behind y of the guess change -/
def OffY (y : Int) (σ σ' : MM) : Prop := ∀ (t : Nat) (k z : Int), ¬ ((t = 22 ∨ t = 23) ∧ 21 + y < k) → ¬ (t = 21 ∧ k = 1 ∧ y < z) → σ' t k z = σ t k z
theorem OffY.rf {y : Int} {σ : MM} : OffY y σ σ := fun _ _ _ _ _ => rfl
theorem OffY.tr {y : Int} {σ σ1 σ2 : MM} (h : OffY y σ σ1) (h2 : OffY y σ1 σ2) : OffY y σ σ2 := fun t k z a b => (h2 t k z a b).trans (h t k z a b)
theorem OffY.up {y : Int} {σ σ' : MM} (h : OffY (y + 1) σ σ') : OffY y σ σ' := fun t k z a b => h t k z (fun q => a ⟨q.1, by omega⟩) (fun q => b ⟨q.1, q.2.1, by omega⟩)
theorem Off.Y {y : Int} {σ σ' : MM} (h : Off 1 (y + 1) σ σ') : OffY y σ σ' := fun t k z a b => h t k z (fun q => a ⟨Or.inl q.1, by omega⟩) (fun q => a ⟨Or.inr q.1, by omega⟩) (fun q => b ⟨q.1, q.2.1, by omega⟩)
theorem OffY.keep {y : Int} {σ σ' : MM} (h : OffY y σ σ') (hy : -1 ≤ y) : Keep σ σ' := fun t k z a => h t k z (fun q => a (by unfold SCR; omega)) (fun q => a (by unfold SCR; omega))
theorem OffY.CB {y b : Int} {σ σ' : MM} {B : BK} (h : OffY y σ σ') (hB : CB σ b B) : CB σ' b B := hB.cong (fun t ht => by funext z; exact h t b z (by omega) (by omega))
theorem OffY.rk {y : Int} {σ σ' : MM} {B T : BK} (h : OffY y σ σ') (hk : RK σ 1 y B T) : RK σ' 1 y B T := by
  have e1 : RS σ' 1 y = RS σ 1 y := by
    funext f x
    unfold RS
    rw [h 22 (21 * 1 + y) x (by omega) (by omega), h 23 (21 * 1 + y) x (by omega) (by omega), h 21 1 y (by omega) (by omega)]
  unfold RK at hk ⊢
  rw [e1, h 21 1 y (by omega) (by omega)]
  exact hk

theorem Off.keep0 {y : Int} {σ σ' : MM} (h : Off 1 y σ σ') (hy : 0 ≤ y := by omega) : Keep σ σ' := fun t k z a => h t k z (fun q => a (by unfold SCR; omega)) (fun q => a (by unfold SCR; omega)) (fun q => a (by unfold SCR; omega))

theorem WGT_S (B : BK) (e n : Int) (k : Nat) (w : Int → Int) (y : Nat) : WGT B e n (k + 1) w y = B 3 0 * WGT B e n k (upW w y 1) (y + 1) + (10 - B 3 0) * WGT B e n k (upW w y 0) (y + 1) := rfl
theorem YS_up (B : BK) (w : Int → Int) (y : Nat) (v : Int) : YS B (upW w y v) (y + 1) = PAS B (YS B w y) ((y : Int) + 1) v := by
  rw [YS, YS_cong (w := upW w y v) (w' := w) y (fun k hk => by unfold upW; rw [if_neg (by omega)])]
  unfold upW
  rw [if_pos rfl]

set_option maxRecDepth 20000 in
set_option maxHeartbeats 1000000 in
theorem w_base {d : Nat} (hd : 6 ≤ d) {σ : MM} {B : BK} {e n z : Int} {w : Int → Int} {y : Nat} (hW : WB B) (he : e = -1 ∨ (0 ≤ e ∧ e < B 6 0)) (hn : 0 ≤ n ∧ n ≤ 60) (hz : (y : Int) = z) (hz8 : z ≤ 8) (hw : ∀ k : Int, 0 ≤ k → w k = 0 ∨ w k = 1) (hB : CB σ 1 B) (hK : RK σ 1 (y : Nat) B (YS B w y)) : V yX5_weighed cX5_weighed 8 (some .long) d (QJ (fun v σ' => v = WGT B e n 0 w y ∧ OffY (y : Nat) σ σ')) 0 [some (vR 3 1), some (vR 18 1), some (vI ((y : Nat) : Int)), some (vI z), some (vI e), some (vI n), none, none] [] σ := by
  have hs := hW.s
  have hsh : 0 ≤ e ∧ e < B 6 0 → _ := fun q => ((TB_YS hW hw y) e q).1
  have hal := ALS_in hs (TB_YS hW hw y)
  refine V_iload_2 (pc := 0) dX5_weighed_0 ?_
  refine V_iload_3 (pc := 1) dX5_weighed_1 ?_
  refine V_icmp_ge (pc := 2) 11 dX5_weighed_2 (by decide) (by omega) (by omega) (fun c_2 => ?_) (fun c_2 => ?_)
  · refine V_iload_4 (pc := 11) dX5_weighed_11 ?_
    refine V_iconst (pc := 13) dX5_weighed_13 ?_
    refine V_icmp_ne (pc := 14) 25 dX5_weighed_14 (by decide) (by omega) (by omega) (fun c_14 => ?_) (fun c_14 => ?_)
    · refine V_aload_1 (pc := 25) dX5_weighed_25 ?_
      refine V_gets (pc := 26) dX5_weighed_26 gf_X5_169 (by omega) ?_
      refine V_iload_2 (pc := 29) dX5_weighed_29 ?_
      refine V_aald_19 (pc := 30) dX5_weighed_30 (by omega) (by omega) ?_
      refine V_iload_4 (pc := 31) dX5_weighed_31 ?_
      refine V_iald (pc := 33) dX5_weighed_33 sh_22 (by omega) (by omega) ((hK.2.1 e (by omega)).1) ?_
      refine V_iload_5 (pc := 34) dX5_weighed_34 ?_
      refine V_icmp_lt (pc := 36) 43 dX5_weighed_36 (by decide) (by omega) (by omega) (fun c_36 => ?_) (fun c_36 => ?_)
      · refine V_lconst (pc := 43) dX5_weighed_43 (z := 0) rfl ?_
        refine V_lret (pc := 44) dX5_weighed_44 rfl ?_
        first | exact ⟨_, rfl, by rw [WGT]; unfold ASK; rw [if_neg (by omega), bI_t (by omega)], OffY.rf⟩ | exact ⟨_, rfl, by rw [WGT]; unfold ASK; rw [if_neg (by omega), bI_f (by omega)], OffY.rf⟩
      · refine V_lconst (pc := 39) dX5_weighed_39 (z := 1) rfl ?_
        refine V_goto (pc := 40) 44 dX5_weighed_40 (by decide) ?_
        refine V_lret (pc := 44) dX5_weighed_44 rfl ?_
        first | exact ⟨_, rfl, by rw [WGT]; unfold ASK; rw [if_neg (by omega), bI_t (by omega)], OffY.rf⟩ | exact ⟨_, rfl, by rw [WGT]; unfold ASK; rw [if_neg (by omega), bI_f (by omega)], OffY.rf⟩
    · refine V_aload_1 (pc := 17) dX5_weighed_17 ?_
      refine V_aload_0 (pc := 18) dX5_weighed_18 ?_
      refine V_iload_2 (pc := 19) dX5_weighed_19 ?_
      refine V_callV2p (pc := 20) dX5_weighed_20 kv_X5_196 rc_18 (by omega) (d - 1) (by omega) rfl (c_X2_total (by omega) (T := YS B w y) (by omega) (by omega) hB hW (by omega) hK) ?_
      refine V_i2l (pc := 23) dX5_weighed_23 (by omega) ?_
      refine V_lret (pc := 24) dX5_weighed_24 rfl ?_
      exact ⟨_, rfl, by rw [WGT]; unfold ASK; rw [if_pos (by omega)], OffY.rf⟩
  · exact absurd c_2 (by omega)
set_option maxRecDepth 20000 in
set_option maxHeartbeats 1000000 in
theorem w_step {d k : Nat} (hd : 6 + (k + 1) ≤ d) {σ0 : MM} {B : BK} {e n z : Int} {w : Int → Int} {y : Nat} (hW : WB B) (he : e = -1 ∨ (0 ≤ e ∧ e < B 6 0)) (hn : 0 ≤ n ∧ n ≤ 60) (hz : (y : Int) + (k + 1) = z) (hz8 : z ≤ 8)
    (ih : ∀ {d : Nat} {σ : MM} {w : Int → Int} {y : Nat}, 6 + k ≤ d → (y : Int) + k = z → (∀ k : Int, 0 ≤ k → w k = 0 ∨ w k = 1) → CB σ 1 B → RK σ 1 (y : Nat) B (YS B w y) → V yX5_weighed cX5_weighed 8 (some .long) d (QJ (fun v σ' => v = WGT B e n k w y ∧ OffY (y : Nat) σ σ')) 0 [some (vR 3 1), some (vR 18 1), some (vI ((y : Nat) : Int)), some (vI z), some (vI e), some (vI n), none, none] [] σ) (hw : ∀ k : Int, 0 ≤ k → w k = 0 ∨ w k = 1) (hB : CB σ0 1 B) (hK : RK σ0 1 (y : Nat) B (YS B w y)) : V yX5_weighed cX5_weighed 8 (some .long) d (QJ (fun v σ' => v = WGT B e n (k + 1) w y ∧ OffY (y : Nat) σ0 σ')) 0 [some (vR 3 1), some (vR 18 1), some (vI ((y : Nat) : Int)), some (vI z), some (vI e), some (vI n), none, none] [] σ0 := by
  have hs9 := hW.s
  have at133 : ∀ {s : Int} {σ : MM}, s = WGT B e n (k + 1) w y → OffY y σ0 σ → V yX5_weighed cX5_weighed 8 (some .long) d (QJ (fun v σ' => v = WGT B e n (k + 1) w y ∧ OffY y σ0 σ')) 133 [some (vR 3 1), some (vR 18 1), some (vI (y : Int)), some (vI z), some (vI e), some (vI n), some (vL s), none] [] σ := by
    intro s σ hs hO
    refine V_lload_6 (pc := 133) dX5_weighed_133 ?_
    refine V_lret (pc := 135) dX5_weighed_135 rfl ?_
    exact ⟨_, rfl, hs, hO⟩
  have at88 : ∀ {s : Int} {σ : MM}, s = B 3 0 * WGT B e n k (upW w y 1) (y + 1) → OffY y σ0 σ → CB σ 1 B → RK σ 1 (y : Nat) B (YS B w y) → V yX5_weighed cX5_weighed 8 (some .long) d (QJ (fun v σ' => v = WGT B e n (k + 1) w y ∧ OffY y σ0 σ')) 88 [some (vR 3 1), some (vR 18 1), some (vI (y : Int)), some (vI z), some (vI e), some (vI n), some (vL s), none] [] σ := by
    intro s σ hs hO hB hK
    refine V_aload_0 (pc := 88) dX5_weighed_88 ?_
    refine V_geti (pc := 89) dX5_weighed_89 gf_X5_307 (by omega) hB.s3 ?_
    refine V_bipush (pc := 92) dX5_weighed_92 (by decide) ?_
    refine V_icmp_ge (pc := 94) 133 dX5_weighed_94 (by decide) (by omega) (by omega) (fun c_94 => ?_) (fun c_94 => ?_)
    · exact at133 (by rw [hs, WGT_S, show B 3 0 = 10 by omega]; omega) hO
    · refine V_aload_1 (pc := 97) dX5_weighed_97 ?_
      refine V_aload_0 (pc := 98) dX5_weighed_98 ?_
      refine V_iload_2 (pc := 99) dX5_weighed_99 ?_
      refine V_iconst (pc := 100) dX5_weighed_100 ?_
      refine V_iadd (pc := 101) dX5_weighed_101 ?_
      refine V_iconst (pc := 102) dX5_weighed_102 ?_
      refine V_callV3z (pc := 103) dX5_weighed_103 kv_X5_283 rc_18 (by omega) (d - 1) (by omega) rfl (c_X2_pass (by omega) (w := 0) (P := YS B w y) (by omega) (by omega) hB hW (by omega) (by omega) (fun _ => ⟨by rw [show (y : Int) + 1 - 1 = y by omega]; exact hK, by rw [show (y : Int) + 1 - 1 = y by omega]; exact TB_YS hW hw y⟩)) (fun σ_103 h_103 => ?_)
      have hO0 := Off.Y h_103.2
      have h3 := (h_103.2.CB hB).s3
      refine V_lload_6 (pc := 106) dX5_weighed_106 ?_
      refine V_bipush (pc := 108) dX5_weighed_108 (by decide) ?_
      refine V_aload_0 (pc := 110) dX5_weighed_110 ?_
      refine V_geti (pc := 111) dX5_weighed_111 gf_X5_307 (by omega) h3 ?_
      refine V_isub (pc := 114) dX5_weighed_114 ?_
      refine V_i2l (pc := 115) dX5_weighed_115 (by omega) ?_
      refine V_aload_0 (pc := 116) dX5_weighed_116 ?_
      refine V_aload_1 (pc := 117) dX5_weighed_117 ?_
      refine V_iload_2 (pc := 118) dX5_weighed_118 ?_
      refine V_iconst (pc := 119) dX5_weighed_119 ?_
      refine V_iadd (pc := 120) dX5_weighed_120 ?_
      refine V_iload_3 (pc := 121) dX5_weighed_121 ?_
      refine V_iload_4 (pc := 122) dX5_weighed_122 ?_
      refine V_iload_5 (pc := 124) dX5_weighed_124 ?_
      refine V_callS6j (pc := 126) dX5_weighed_126 kv_X5_287 (d - 1) (by omega) rfl (ih (d := d - 1) (y := y + 1) (w := (upW w y 0)) (by omega) (by omega) (W01_up hw (Or.inl rfl)) (h_103.2.CB hB) (by rw [YS_up]; exact h_103.1)) (fun v0 σ0 q0 => ?_)
      obtain ⟨rfl, r0⟩ := q0
      have hO0' : OffY y σ_103 σ0 := OffY.up r0
      refine V_lmul (pc := 129) dX5_weighed_129 ?_
      refine V_ladd (pc := 130) dX5_weighed_130 ?_
      refine V_lstore_6 (pc := 131) dX5_weighed_131 ?_
      exact at133 (by rw [hs, WGT_S]) (hO.tr (hO0.tr hO0'))
  have at45 : V yX5_weighed cX5_weighed 8 (some .long) d (QJ (fun v σ' => v = WGT B e n (k + 1) w y ∧ OffY y σ0 σ')) 45 [some (vR 3 1), some (vR 18 1), some (vI (y : Int)), some (vI z), some (vI e), some (vI n), none, none] [] σ0 := by
    refine V_lconst (pc := 45) dX5_weighed_45 (z := 0) rfl ?_
    refine V_lstore_6 (pc := 46) dX5_weighed_46 ?_
    refine V_aload_0 (pc := 48) dX5_weighed_48 ?_
    refine V_geti (pc := 49) dX5_weighed_49 gf_X5_307 (by omega) hB.s3 ?_
    refine V_if_le (pc := 52) 88 dX5_weighed_52 (by decide) (by omega) (fun c_52 => ?_) (fun c_52 => ?_)
    · exact at88 (by rw [show B 3 0 = 0 by omega, Int.zero_mul]) OffY.rf hB hK
    · refine V_aload_1 (pc := 55) dX5_weighed_55 ?_
      refine V_aload_0 (pc := 56) dX5_weighed_56 ?_
      refine V_iload_2 (pc := 57) dX5_weighed_57 ?_
      refine V_iconst (pc := 58) dX5_weighed_58 ?_
      refine V_iadd (pc := 59) dX5_weighed_59 ?_
      refine V_iconst (pc := 60) dX5_weighed_60 ?_
      refine V_callV3z (pc := 61) dX5_weighed_61 kv_X5_283 rc_18 (by omega) (d - 1) (by omega) rfl (c_X2_pass (by omega) (w := 1) (P := YS B w y) (by omega) (by omega) hB hW (by omega) (by omega) (fun _ => ⟨by rw [show (y : Int) + 1 - 1 = y by omega]; exact hK, by rw [show (y : Int) + 1 - 1 = y by omega]; exact TB_YS hW hw y⟩)) (fun σ_61 h_61 => ?_)
      have hO1 := Off.Y h_61.2
      have h3 := (h_61.2.CB hB).s3
      refine V_lload_6 (pc := 64) dX5_weighed_64 ?_
      refine V_aload_0 (pc := 66) dX5_weighed_66 ?_
      refine V_geti (pc := 67) dX5_weighed_67 gf_X5_307 (by omega) h3 ?_
      refine V_i2l (pc := 70) dX5_weighed_70 (by omega) ?_
      refine V_aload_0 (pc := 71) dX5_weighed_71 ?_
      refine V_aload_1 (pc := 72) dX5_weighed_72 ?_
      refine V_iload_2 (pc := 73) dX5_weighed_73 ?_
      refine V_iconst (pc := 74) dX5_weighed_74 ?_
      refine V_iadd (pc := 75) dX5_weighed_75 ?_
      refine V_iload_3 (pc := 76) dX5_weighed_76 ?_
      refine V_iload_4 (pc := 77) dX5_weighed_77 ?_
      refine V_iload_5 (pc := 79) dX5_weighed_79 ?_
      refine V_callS6j (pc := 81) dX5_weighed_81 kv_X5_287 (d - 1) (by omega) rfl (ih (d := d - 1) (y := y + 1) (w := (upW w y 1)) (by omega) (by omega) (W01_up hw (Or.inr rfl)) (h_61.2.CB hB) (by rw [YS_up]; exact h_61.1)) (fun v1 σ1 q1 => ?_)
      obtain ⟨rfl, r1⟩ := q1
      have hO1' : OffY y σ_61 σ1 := OffY.up r1
      refine V_lmul (pc := 84) dX5_weighed_84 ?_
      refine V_ladd (pc := 85) dX5_weighed_85 ?_
      refine V_lstore_6 (pc := 86) dX5_weighed_86 ?_
      exact at88 (by rw [Int.zero_add]) (hO1.tr hO1') ((hO1.tr hO1').CB hB) ((hO1.tr hO1').rk hK)
  refine V_iload_2 (pc := 0) dX5_weighed_0 ?_
  refine V_iload_3 (pc := 1) dX5_weighed_1 ?_
  refine V_icmp_ge (pc := 2) 11 dX5_weighed_2 (by decide) (by omega) (by omega) (fun c_2 => ?_) (fun c_2 => ?_)
  · exact absurd c_2 (by omega)
  · refine V_iload_2 (pc := 5) dX5_weighed_5 ?_
    refine V_bipush (pc := 6) dX5_weighed_6 (by decide) ?_
    refine V_icmp_lt (pc := 8) 45 dX5_weighed_8 (by decide) (by omega) (by omega) (fun c_8 => ?_) (fun c_8 => ?_)
    · exact at45
    · exact absurd c_8 (by omega)
theorem c_weighed {B : BK} {e n z : Int} (hW : WB B) (he : e = -1 ∨ (0 ≤ e ∧ e < B 6 0)) (hn : 0 ≤ n ∧ n ≤ 60) (hz8 : z ≤ 8) : ∀ (k : Nat), ∀ {d : Nat} {σ : MM} {w : Int → Int} {y : Nat}, 6 + k ≤ d → (y : Int) + k = z → (∀ k : Int, 0 ≤ k → w k = 0 ∨ w k = 1) → CB σ 1 B → RK σ 1 (y : Nat) B (YS B w y) → V yX5_weighed cX5_weighed 8 (some .long) d (QJ (fun v σ' => v = WGT B e n k w y ∧ OffY (y : Nat) σ σ')) 0 [some (vR 3 1), some (vR 18 1), some (vI ((y : Nat) : Int)), some (vI z), some (vI e), some (vI n), none, none] [] σ
  | 0 => fun hd hz hw hB hK => w_base (by omega) hW he hn (by omega) hz8 hw hB hK
  | k + 1 => fun hd hz hw hB hK => w_step (by omega) hW he hn (by omega) hz8 (fun a b c d e => c_weighed hW he hn hz8 k a b c d e) hw hB hK

set_option maxRecDepth 20000 in
set_option maxHeartbeats 1000000 in
theorem c_X5_part {d : Nat} (hd : 0 ≤ d) {σ : MM} {a w : Int} {z : Nat} (ha : 0 ≤ a ∧ a ≤ 42000000000) (hz : z ≤ 8) (hw : IR w) : V yX5_part cX5_part 9 (some .long) d (QJ (fun v σ' => v = PRT a (P10 z) w ∧ σ' = σ)) 0 [some (vL a), none, some (vI (z : Int)), some (vI w), none, none, none, none, none] [] σ := by
  have hp := P10_pos z
  have hp8 := P10_le z (by omega)
  have loop2 : ∀ i : Nat, i ≤ z → V yX5_part cX5_part 9 (some .long) d (QJ (fun v σ' => v = PRT a (P10 z) w ∧ σ' = σ)) 32 [some (vL a), none, some (vI (z : Int)), some (vI w), some (vL (LOW a (P10 z) i).1), none, some (vL (LOW a (P10 z) i).2), none, some (vI (i : Int))] [] σ := by
    refine up_ind (P := fun i : Nat => V yX5_part cX5_part 9 (some .long) d (QJ (fun v σ' => v = PRT a (P10 z) w ∧ σ' = σ)) 32 [some (vL a), none, some (vI (z : Int)), some (vI w), some (vL (LOW a (P10 z) i).1), none, some (vL (LOW a (P10 z) i).2), none, some (vI (i : Int))] [] σ) ?_ ?_
    · have hL := LOW_in (a := a) (b := P10 z) (m := 42000000000) ha (by omega) z
      refine V_iload_8 (pc := 32) dX5_part_32 ?_
      refine V_iload_2 (pc := 34) dX5_part_34 ?_
      refine V_icmp_ge (pc := 35) 120 dX5_part_35 (by decide) (by omega) (by omega) (fun c_35 => ?_) (fun c_35 => ?_)
      · refine V_iload_3 (pc := 120) dX5_part_120 ?_
        refine V_if_ne (pc := 121) 129 dX5_part_121 (by decide) (by omega) (fun c_121 => ?_) (fun c_121 => ?_)
        · refine V_lload_6 (pc := 129) dX5_part_129 ?_
          refine V_lret (pc := 131) dX5_part_131 rfl ?_
          exact ⟨_, rfl, by unfold PRT; first | rw [if_pos (by assumption), LOW_ok ha.1] | rw [if_neg (by assumption), LOW_ok ha.1], rfl⟩
        · refine V_lload_4 (pc := 124) dX5_part_124 ?_
          refine V_goto (pc := 126) 131 dX5_part_126 (by decide) ?_
          refine V_lret (pc := 131) dX5_part_131 rfl ?_
          exact ⟨_, rfl, by unfold PRT; first | rw [if_pos (by assumption), LOW_ok ha.1] | rw [if_neg (by assumption), LOW_ok ha.1], rfl⟩
      · exact absurd c_35 (by omega)
    · intro i hi ih
      have hL := LOW_in (a := a) (b := P10 z) (m := 42000000000) ha (by omega) i
      have k1 := cmpZ_in ((LOW a (P10 z) i).1 % 2) 0
      have k2 := cmpZ_in ((LOW a (P10 z) i).2 % 2) 0
      have k3 := cmpZ_in ((LOWS (LOW a (P10 z) i).1 (LOW a (P10 z) i).2).1 % 5) 0
      have k4 := cmpZ_in ((LOWS (LOW a (P10 z) i).1 (LOW a (P10 z) i).2).2 % 5) 0
      have hL2 : (0 ≤ (LOWS (LOW a (P10 z) i).1 (LOW a (P10 z) i).2).1 ∧ (LOWS (LOW a (P10 z) i).1 (LOW a (P10 z) i).2).1 ≤ 42000000000) ∧ (0 ≤ (LOWS (LOW a (P10 z) i).1 (LOW a (P10 z) i).2).2 ∧ (LOWS (LOW a (P10 z) i).1 (LOW a (P10 z) i).2).2 ≤ 42000000000) := by
        unfold LOWS
        split <;> (try simp only) <;> omega
      have at76 : V yX5_part cX5_part 9 (some .long) d (QJ (fun v σ' => v = PRT a (P10 z) w ∧ σ' = σ)) 76 [some (vL a), none, some (vI (z : Int)), some (vI w), some (vL (LOWS (LOW a (P10 z) i).1 (LOW a (P10 z) i).2).1), none, some (vL (LOWS (LOW a (P10 z) i).1 (LOW a (P10 z) i).2).2), none, some (vI (i : Int))] [] σ := by
        refine V_lload_4 (pc := 76) dX5_part_76 ?_
        refine V_ldc2 (pc := 78) dX5_part_78 (z := 5) ldc_X5_364 ?_
        refine V_lrem_p (pc := 81) dX5_part_81 (by omega) (by omega) ?_
        refine V_lconst (pc := 82) dX5_part_82 (z := 0) rfl ?_
        refine V_lcmp (pc := 83) dX5_part_83 (by omega) (by omega) ?_
        refine V_if_ne (pc := 84) 114 dX5_part_84 (by decide) (by omega) (fun c_84 => ?_) (fun c_84 => ?_)
        · refine V_iinc_8 (pc := 114) dX5_part_114 ?_
          refine V_goto (pc := 117) 32 dX5_part_117 (by decide) ?_
          refine V.sub (by simp only [subL, Option.some.injEq, Sum.inl.injEq, Sum.inr.injEq, reduceCtorEq, true_or, or_true, false_or, true_and, and_true]; rw [show LOW a (P10 z) (i + 1) = LOW5 (LOWS (LOW a (P10 z) i).1 (LOW a (P10 z) i).2).1 (LOWS (LOW a (P10 z) i).1 (LOW a (P10 z) i).2).2 from rfl]; unfold LOW5; rw [if_neg (fun q => c_84 ((cmpZ_in _ 0).2.2.2.1.mpr q.1))]; refine ⟨rfl, rfl, by omega⟩) ih
        · refine V_lload_6 (pc := 87) dX5_part_87 ?_
          refine V_ldc2 (pc := 89) dX5_part_89 (z := 5) ldc_X5_364 ?_
          refine V_lrem_p (pc := 92) dX5_part_92 (by omega) (by omega) ?_
          refine V_lconst (pc := 93) dX5_part_93 (z := 0) rfl ?_
          refine V_lcmp (pc := 94) dX5_part_94 (by omega) (by omega) ?_
          refine V_if_ne (pc := 95) 114 dX5_part_95 (by decide) (by omega) (fun c_95 => ?_) (fun c_95 => ?_)
          · refine V_iinc_8 (pc := 114) dX5_part_114 ?_
            refine V_goto (pc := 117) 32 dX5_part_117 (by decide) ?_
            refine V.sub (by simp only [subL, Option.some.injEq, Sum.inl.injEq, Sum.inr.injEq, reduceCtorEq, true_or, or_true, false_or, true_and, and_true]; rw [show LOW a (P10 z) (i + 1) = LOW5 (LOWS (LOW a (P10 z) i).1 (LOW a (P10 z) i).2).1 (LOWS (LOW a (P10 z) i).1 (LOW a (P10 z) i).2).2 from rfl]; unfold LOW5; rw [if_neg (fun q => c_95 ((cmpZ_in _ 0).2.2.2.1.mpr q.2))]; refine ⟨rfl, rfl, by omega⟩) ih
          · refine V_lload_4 (pc := 98) dX5_part_98 ?_
            refine V_ldc2 (pc := 100) dX5_part_100 (z := 5) ldc_X5_364 ?_
            refine V_ldiv_p (pc := 103) dX5_part_103 (by omega) (by omega) ?_
            refine V_lstore_4 (pc := 104) dX5_part_104 ?_
            refine V_lload_6 (pc := 106) dX5_part_106 ?_
            refine V_ldc2 (pc := 108) dX5_part_108 (z := 5) ldc_X5_364 ?_
            refine V_ldiv_p (pc := 111) dX5_part_111 (by omega) (by omega) ?_
            refine V_lstore_6 (pc := 112) dX5_part_112 ?_
            refine V_iinc_8 (pc := 114) dX5_part_114 ?_
            refine V_goto (pc := 117) 32 dX5_part_117 (by decide) ?_
            refine V.sub (by simp only [subL, Option.some.injEq, Sum.inl.injEq, Sum.inr.injEq, reduceCtorEq, true_or, or_true, false_or, true_and, and_true]; rw [show LOW a (P10 z) (i + 1) = LOW5 (LOWS (LOW a (P10 z) i).1 (LOW a (P10 z) i).2).1 (LOWS (LOW a (P10 z) i).1 (LOW a (P10 z) i).2).2 from rfl]; unfold LOW5; rw [if_pos ⟨(cmpZ_in _ 0).2.2.2.1.mp c_84, (cmpZ_in _ 0).2.2.2.1.mp c_95⟩]; refine ⟨rfl, rfl, by omega⟩) ih
      refine V_iload_8 (pc := 32) dX5_part_32 ?_
      refine V_iload_2 (pc := 34) dX5_part_34 ?_
      refine V_icmp_ge (pc := 35) 120 dX5_part_35 (by decide) (by omega) (by omega) (fun c_35 => ?_) (fun c_35 => ?_)
      · exact absurd c_35 (by omega)
      · refine V_lload_4 (pc := 38) dX5_part_38 ?_
        refine V_ldc2 (pc := 40) dX5_part_40 (z := 2) ldc_X5_362 ?_
        refine V_lrem_p (pc := 43) dX5_part_43 (by omega) (by omega) ?_
        refine V_lconst (pc := 44) dX5_part_44 (z := 0) rfl ?_
        refine V_lcmp (pc := 45) dX5_part_45 (by omega) (by omega) ?_
        refine V_if_ne (pc := 46) 76 dX5_part_46 (by decide) (by omega) (fun c_46 => ?_) (fun c_46 => ?_)
        · refine V.sub (by simp only [subL, Option.some.injEq, Sum.inl.injEq, Sum.inr.injEq, reduceCtorEq, true_or, or_true, false_or, true_and, and_true]; unfold LOWS; rw [if_neg (fun q => c_46 ((cmpZ_in _ 0).2.2.2.1.mpr q.1))]; exact ⟨rfl, rfl⟩) at76
        · refine V_lload_6 (pc := 49) dX5_part_49 ?_
          refine V_ldc2 (pc := 51) dX5_part_51 (z := 2) ldc_X5_362 ?_
          refine V_lrem_p (pc := 54) dX5_part_54 (by omega) (by omega) ?_
          refine V_lconst (pc := 55) dX5_part_55 (z := 0) rfl ?_
          refine V_lcmp (pc := 56) dX5_part_56 (by omega) (by omega) ?_
          refine V_if_ne (pc := 57) 76 dX5_part_57 (by decide) (by omega) (fun c_57 => ?_) (fun c_57 => ?_)
          · refine V.sub (by simp only [subL, Option.some.injEq, Sum.inl.injEq, Sum.inr.injEq, reduceCtorEq, true_or, or_true, false_or, true_and, and_true]; unfold LOWS; rw [if_neg (fun q => c_57 ((cmpZ_in _ 0).2.2.2.1.mpr q.2))]; exact ⟨rfl, rfl⟩) at76
          · refine V_lload_4 (pc := 60) dX5_part_60 ?_
            refine V_ldc2 (pc := 62) dX5_part_62 (z := 2) ldc_X5_362 ?_
            refine V_ldiv_p (pc := 65) dX5_part_65 (by omega) (by omega) ?_
            refine V_lstore_4 (pc := 66) dX5_part_66 ?_
            refine V_lload_6 (pc := 68) dX5_part_68 ?_
            refine V_ldc2 (pc := 70) dX5_part_70 (z := 2) ldc_X5_362 ?_
            refine V_ldiv_p (pc := 73) dX5_part_73 (by omega) (by omega) ?_
            refine V_lstore_6 (pc := 74) dX5_part_74 ?_
            refine V.sub (by simp only [subL, Option.some.injEq, Sum.inl.injEq, Sum.inr.injEq, reduceCtorEq, true_or, or_true, false_or, true_and, and_true]; unfold LOWS; rw [if_pos ⟨(cmpZ_in _ 0).2.2.2.1.mp c_46, (cmpZ_in _ 0).2.2.2.1.mp c_57⟩]; exact ⟨rfl, rfl⟩) at76
  have loop1 : ∀ i : Nat, i ≤ z → V yX5_part cX5_part 9 (some .long) d (QJ (fun v σ' => v = PRT a (P10 z) w ∧ σ' = σ)) 9 [some (vL a), none, some (vI (z : Int)), some (vI w), some (vL a), none, some (vL (P10 i)), none, some (vI (i : Int))] [] σ := by
    refine up_ind (P := fun i : Nat => V yX5_part cX5_part 9 (some .long) d (QJ (fun v σ' => v = PRT a (P10 z) w ∧ σ' = σ)) 9 [some (vL a), none, some (vI (z : Int)), some (vI w), some (vL a), none, some (vL (P10 i)), none, some (vI (i : Int))] [] σ) ?_ ?_
    ·
      refine V_iload_8 (pc := 9) dX5_part_9 ?_
      refine V_iload_2 (pc := 11) dX5_part_11 ?_
      refine V_icmp_ge (pc := 12) 29 dX5_part_12 (by decide) (by omega) (by omega) (fun c_12 => ?_) (fun c_12 => ?_)
      · refine V_iconst (pc := 29) dX5_part_29 ?_
        refine V_istore_8 (pc := 30) dX5_part_30 ?_
        refine V.sub (by simp only [subL, Option.some.injEq, Sum.inl.injEq, Sum.inr.injEq, reduceCtorEq, true_or, or_true, false_or, true_and, and_true]; first | exact ⟨rfl, rfl, rfl⟩ | exact ⟨rfl, rfl⟩ | rfl) (loop2 0 (by omega))
      · exact absurd c_12 (by omega)
    · intro i hi ih
      refine V_iload_8 (pc := 9) dX5_part_9 ?_
      refine V_iload_2 (pc := 11) dX5_part_11 ?_
      refine V_icmp_ge (pc := 12) 29 dX5_part_12 (by decide) (by omega) (by omega) (fun c_12 => ?_) (fun c_12 => ?_)
      · exact absurd c_12 (by omega)
      · refine V_lload_6 (pc := 15) dX5_part_15 ?_
        refine V_ldc2 (pc := 17) dX5_part_17 (z := 10) ldc_X5_360 ?_
        refine V_lmul (pc := 20) dX5_part_20 ?_
        refine V_lstore_6 (pc := 21) dX5_part_21 ?_
        refine V_iinc_8 (pc := 23) dX5_part_23 ?_
        refine V_goto (pc := 26) 9 dX5_part_26 (by decide) ?_
        refine V.sub (by simp only [subL, Option.some.injEq, Sum.inl.injEq, Sum.inr.injEq, reduceCtorEq, true_or, or_true, false_or, true_and, and_true]; exact ⟨rfl, by omega⟩) ih
  refine V_lload_0 (pc := 0) dX5_part_0 ?_
  refine V_lstore_4 (pc := 1) dX5_part_1 ?_
  refine V_lconst (pc := 3) dX5_part_3 (z := 1) rfl ?_
  refine V_lstore_6 (pc := 4) dX5_part_4 ?_
  refine V_iconst (pc := 6) dX5_part_6 ?_
  refine V_istore_8 (pc := 7) dX5_part_7 ?_
  refine V.sub (by simp only [subL, Option.some.injEq, Sum.inl.injEq, Sum.inr.injEq, reduceCtorEq, true_or, or_true, false_or, true_and, and_true]; first | exact ⟨rfl, rfl⟩ | rfl) (loop1 0 (by omega))

set_option maxRecDepth 20000 in
set_option maxHeartbeats 1000000 in
theorem c_X5_wetYears {d : Nat} (hd : 0 ≤ d) {σ : MM} {B : BK} {s : Int} (hB : CB σ 1 B) (hW : WB B) (hs0 : 0 ≤ s ∧ s ≤ 2147483647) : V yX5_wetYears cX5_wetYears 7 (some .int) d (QI (fun v σ' => v = WET B s ∧ σ' = σ)) 0 [some (vR 0 0), some (vL s), none, none, none, none, none] [] σ := by
  have hs := hW.s
  have loop : ∀ i : Nat, i ≤ (B 1 0).toNat → V yX5_wetYears cX5_wetYears 7 (some .int) d (QI (fun v σ' => v = WET B s ∧ σ' = σ)) 8 [some (vR 0 0), some (vL s), none, some (vI (bsN (fun i => bI (WTC B s i)) i)), some (vL (LCG s i)), none, some (vI (i : Int))] [] σ := by
    refine up_ind (P := fun i : Nat => V yX5_wetYears cX5_wetYears 7 (some .int) d (QI (fun v σ' => v = WET B s ∧ σ' = σ)) 8 [some (vR 0 0), some (vL s), none, some (vI (bsN (fun i => bI (WTC B s i)) i)), some (vL (LCG s i)), none, some (vI (i : Int))] [] σ) ?_ ?_
    · 
      refine V_iload_6 (pc := 8) dX5_wetYears_8 ?_
      refine V_aload_0 (pc := 10) dX5_wetYears_10 ?_
      refine V_getc (pc := 11) dX5_wetYears_11 gf_X5_23 (by omega) ?_
      refine V_geti (pc := 14) dX5_wetYears_14 gf_X5_175 (by omega) hB.s1 ?_
      refine V_icmp_ge (pc := 17) 71 dX5_wetYears_17 (by decide) (by omega) (by omega) (fun c_17 => ?_) (fun c_17 => ?_)
      · refine V_iload_3 (pc := 71) dX5_wetYears_71 ?_
        refine V_iretI (pc := 72) dX5_wetYears_72 rfl ?_
        exact ⟨_, rfl, by first | rfl | omega, rfl⟩
      · exact absurd c_17 (by omega)
    · intro i hi ih
      have hx := LCG_in hs0 i
      have hx1 := LCG_in hs0 (i + 1)
      have hb := bsI_in (fun i => WTC B s i) i
      have hS := bsN_S (fun i => bI (WTC B s i)) i
      have hcz := cmpZ_in ((1103515245 * LCG s i + 12345) % 2147483648 / 65536 % 10) (B 3 0)
      have hWT : WTC B s i ↔ (1103515245 * LCG s i + 12345) % 2147483648 / 65536 % 10 < B 3 0 := Iff.rfl
      refine V_iload_6 (pc := 8) dX5_wetYears_8 ?_
      refine V_aload_0 (pc := 10) dX5_wetYears_10 ?_
      refine V_getc (pc := 11) dX5_wetYears_11 gf_X5_23 (by omega) ?_
      refine V_geti (pc := 14) dX5_wetYears_14 gf_X5_175 (by omega) hB.s1 ?_
      refine V_icmp_ge (pc := 17) 71 dX5_wetYears_17 (by decide) (by omega) (by omega) (fun c_17 => ?_) (fun c_17 => ?_)
      · exact absurd c_17 (by omega)
      · refine V_ldc2 (pc := 20) dX5_wetYears_20 (z := 1103515245) ldc_X5_366 ?_
        refine V_lload_4 (pc := 23) dX5_wetYears_23 ?_
        refine V_lmul (pc := 25) dX5_wetYears_25 ?_
        refine V_ldc2 (pc := 26) dX5_wetYears_26 (z := 12345) ldc_X5_368 ?_
        refine V_ladd (pc := 29) dX5_wetYears_29 ?_
        refine V_ldc2 (pc := 30) dX5_wetYears_30 (z := 2147483648) ldc_X5_370 ?_
        refine V_lrem_p (pc := 33) dX5_wetYears_33 (by omega) (by omega) ?_
        refine V_lstore_4 (pc := 34) dX5_wetYears_34 ?_
        refine V_lload_4 (pc := 36) dX5_wetYears_36 ?_
        refine V_ldc2 (pc := 38) dX5_wetYears_38 (z := 65536) ldc_X5_372 ?_
        refine V_ldiv_p (pc := 41) dX5_wetYears_41 (by omega) (by omega) ?_
        refine V_ldc2 (pc := 42) dX5_wetYears_42 (z := 10) ldc_X5_360 ?_
        refine V_lrem_p (pc := 45) dX5_wetYears_45 (by omega) (by omega) ?_
        refine V_aload_0 (pc := 46) dX5_wetYears_46 ?_
        refine V_getc (pc := 47) dX5_wetYears_47 gf_X5_23 (by omega) ?_
        refine V_geti (pc := 50) dX5_wetYears_50 gf_X5_307 (by omega) hB.s3 ?_
        refine V_i2l (pc := 53) dX5_wetYears_53 (by omega) ?_
        refine V_lcmp (pc := 54) dX5_wetYears_54 (by omega) (by omega) ?_
        refine V_if_ge (pc := 55) 65 dX5_wetYears_55 (by decide) (by omega) (fun c_55 => ?_) (fun c_55 => ?_)
        · refine V_iinc_6 (pc := 65) dX5_wetYears_65 ?_
          refine V_goto (pc := 68) 8 dX5_wetYears_68 (by decide) ?_
          refine V.sub (by simp only [subL, Option.some.injEq, Sum.inl.injEq, Sum.inr.injEq, reduceCtorEq, true_or, or_true, false_or, true_and, and_true]; rw [hS, bI_f (by rw [hWT]; omega)]; refine ⟨by omega, rfl, by omega⟩) ih
        · refine V_iload_3 (pc := 58) dX5_wetYears_58 ?_
          refine V_iconst (pc := 59) dX5_wetYears_59 ?_
          refine V_iload_6 (pc := 60) dX5_wetYears_60 ?_
          refine V_ishl_1 (pc := 62) dX5_wetYears_62 (by omega) ?_
          refine V_ior_add (pc := 63) dX5_wetYears_63 (by assumption) ?_
          refine V_istore_3 (pc := 64) dX5_wetYears_64 ?_
          refine V_iinc_6 (pc := 65) dX5_wetYears_65 ?_
          refine V_goto (pc := 68) 8 dX5_wetYears_68 (by decide) ?_
          refine V.sub (by simp only [subL, Option.some.injEq, Sum.inl.injEq, Sum.inr.injEq, reduceCtorEq, true_or, or_true, false_or, true_and, and_true]; rw [hS, bI_t (by rw [hWT]; omega)]; refine ⟨by omega, rfl, by omega⟩) ih
  refine V_iconst (pc := 0) dX5_wetYears_0 ?_
  refine V_istore_3 (pc := 1) dX5_wetYears_1 ?_
  refine V_lload_1 (pc := 2) dX5_wetYears_2 ?_
  refine V_lstore_4 (pc := 3) dX5_wetYears_3 ?_
  refine V_iconst (pc := 5) dX5_wetYears_5 ?_
  refine V_istore_6 (pc := 6) dX5_wetYears_6 ?_
  exact loop 0 (by omega)

set_option maxRecDepth 20000 in
set_option maxHeartbeats 1000000 in
theorem c_X5_chance {d : Nat} (hd : 16 ≤ d) {σ : MM} {B : BK} {e y n w : Int} (hB : CB σ 1 B) (hG : GB B) (he : IR e) (hy : IR y) (hn : IR n) (hw : IR w) : V yX5_chance cX5_chance 5 (some .int) d (QI (fun v σ' => v = q_chance B e y n w ∧ Keep σ σ')) 0 [some (vR 0 0), some (vI e), some (vI y), some (vI n), some (vI w)] [] σ := by
  have hW := hG.w
  have hs := hW.s
  have ho := hs.2.2.2.1
  have hWG := WGT_in hW (e := e) (n := n) y.toNat (fun _ => 0) 0 (fun _ _ => Or.inl rfl)
  have hp8 : y.toNat ≤ 8 → _ := fun q => P10_le y.toNat q
  have hpp := P10_pos y.toNat
  refine V_aload_0 (pc := 0) dX5_chance_0 ?_
  refine V_iload_1 (pc := 1) dX5_chance_1 ?_
  refine V_callV1p (pc := 2) dX5_chance_2 kv_X5_125 rc_0 (by omega) (d - 1) (by omega) rfl (c_X5_noEntry (by omega) hB hs (by omega)) ?_
  refine V_if_ne_b (pc := 5) 35 dX5_chance_5 (by decide) (fun c_5 => ?_) (fun c_5 => ?_)
  · refine V_bipush (pc := 35) dX5_chance_35 (by decide) ?_
    refine V_iretI (pc := 37) dX5_chance_37 rfl ?_
    first | exact ⟨_, rfl, by unfold q_chance; rw [if_pos (by omega)], Keep.rf⟩ | exact ⟨_, rfl, by unfold q_chance; rw [if_neg (by omega)]; exact h_69.1, by rw [h_69.2]; exact (Off.keep0 h_48.2).tr (hOy.keep (by omega))⟩
  · refine V_aload_0 (pc := 8) dX5_chance_8 ?_
    refine V_iload_2 (pc := 9) dX5_chance_9 ?_
    refine V_callV1p (pc := 10) dX5_chance_10 kv_X5_280 rc_0 (by omega) (d - 1) (by omega) rfl (c_X5_noChanceYear (by omega) hB hs (by omega)) ?_
    refine V_if_ne_b (pc := 13) 35 dX5_chance_13 (by decide) (fun c_13 => ?_) (fun c_13 => ?_)
    · refine V_bipush (pc := 35) dX5_chance_35 (by decide) ?_
      refine V_iretI (pc := 37) dX5_chance_37 rfl ?_
      first | exact ⟨_, rfl, by unfold q_chance; rw [if_pos (by omega)], Keep.rf⟩ | exact ⟨_, rfl, by unfold q_chance; rw [if_neg (by omega)]; exact h_69.1, by rw [h_69.2]; exact (Off.keep0 h_48.2).tr (hOy.keep (by omega))⟩
    · refine V_iload_3 (pc := 16) dX5_chance_16 ?_
      refine V_if_lt (pc := 17) 35 dX5_chance_17 (by decide) (by omega) (fun c_17 => ?_) (fun c_17 => ?_)
      · refine V_bipush (pc := 35) dX5_chance_35 (by decide) ?_
        refine V_iretI (pc := 37) dX5_chance_37 rfl ?_
        first | exact ⟨_, rfl, by unfold q_chance; rw [if_pos (by omega)], Keep.rf⟩ | exact ⟨_, rfl, by unfold q_chance; rw [if_neg (by omega)]; exact h_69.1, by rw [h_69.2]; exact (Off.keep0 h_48.2).tr (hOy.keep (by omega))⟩
      · refine V_iload_3 (pc := 20) dX5_chance_20 ?_
        refine V_bipush (pc := 21) dX5_chance_21 (by decide) ?_
        refine V_icmp_gt (pc := 23) 35 dX5_chance_23 (by decide) (by omega) (by omega) (fun c_23 => ?_) (fun c_23 => ?_)
        · refine V_bipush (pc := 35) dX5_chance_35 (by decide) ?_
          refine V_iretI (pc := 37) dX5_chance_37 rfl ?_
          first | exact ⟨_, rfl, by unfold q_chance; rw [if_pos (by omega)], Keep.rf⟩ | exact ⟨_, rfl, by unfold q_chance; rw [if_neg (by omega)]; exact h_69.1, by rw [h_69.2]; exact (Off.keep0 h_48.2).tr (hOy.keep (by omega))⟩
        · refine V_aload_0 (pc := 26) dX5_chance_26 ?_
          refine V_iload_4 (pc := 27) dX5_chance_27 ?_
          refine V_callV1p (pc := 29) dX5_chance_29 kv_X5_268 rc_0 (by omega) (d - 1) (by omega) rfl (c_X5_noPart (by omega) (by omega)) ?_
          refine V_if_eq_b (pc := 32) 38 dX5_chance_32 (by decide) (fun c_32 => ?_) (fun c_32 => ?_)
          · refine V_aload_0 (pc := 38) dX5_chance_38 ?_
            refine V_getc (pc := 39) dX5_chance_39 gf_X5_36 (by omega) ?_
            refine V_aload_0 (pc := 42) dX5_chance_42 ?_
            refine V_getc (pc := 43) dX5_chance_43 gf_X5_23 (by omega) ?_
            refine V_iconst (pc := 46) dX5_chance_46 ?_
            refine V_iconst (pc := 47) dX5_chance_47 ?_
            refine V_callV3z (pc := 48) dX5_chance_48 kv_X5_283 rc_18 (by omega) (d - 1) (by omega) rfl (c_X2_pass (by omega) (w := 0) (P := fun _ _ => 0) (by omega) (by omega) hB hW (by omega) (by omega) (fun q => by omega)) (fun σ_48 h_48 => ?_)
            refine V_aload_0 (pc := 51) dX5_chance_51 ?_
            refine V_getc (pc := 52) dX5_chance_52 gf_X5_23 (by omega) ?_
            refine V_aload_0 (pc := 55) dX5_chance_55 ?_
            refine V_getc (pc := 56) dX5_chance_56 gf_X5_36 (by omega) ?_
            refine V_iconst (pc := 59) dX5_chance_59 ?_
            refine V_iload_2 (pc := 60) dX5_chance_60 ?_
            refine V_iload_1 (pc := 61) dX5_chance_61 ?_
            refine V_iload_3 (pc := 62) dX5_chance_62 ?_
            refine V_callS6j (pc := 63) dX5_chance_63 kv_X5_287 (d - 1) (by omega) rfl (c_weighed (e := e) (n := n) (z := y) hW (by omega) (by omega) (by omega) y.toNat (d := d - 1) (w := fun _ => 0) (y := 0) (by omega) (by omega) (fun _ _ => Or.inl rfl) (h_48.2.CB hB) h_48.1) (fun v_63 σ_63 h_63 => ?_)
            obtain ⟨hv, hOy⟩ := h_63
            subst hv
            have hWm : 0 ≤ (WGT B e n y.toNat (fun _ => 0) 0) ∧ (WGT B e n y.toNat (fun _ => 0) 0) ≤ 42000000000 := by
              have h9 := hp8 (by omega)
              refine ⟨hWG.1, Int.le_trans hWG.2 ?_⟩
              split <;> omega
            refine V_iload_2 (pc := 66) dX5_chance_66 ?_
            refine V_iload_4 (pc := 67) dX5_chance_67 ?_
            refine V_callS3j (pc := 69) dX5_chance_69 kv_X5_291 (d - 1) (by omega) rfl (by have := c_X5_part (d := d - 1) (by omega) (a := (WGT B e n y.toNat (fun _ => 0) 0)) (w := w) (z := y.toNat) (σ := σ_63) hWm (by omega) (by omega); rw [show ((y.toNat : Nat) : Int) = y by omega] at this; exact this) (fun v_69 σ_69 h_69 => ?_)
            refine V_l2i (pc := 72) dX5_chance_72 ?_
            refine V_iretI (pc := 73) dX5_chance_73 rfl ?_
            first | exact ⟨_, rfl, by unfold q_chance; rw [if_pos (by omega)], Keep.rf⟩ | exact ⟨_, rfl, by unfold q_chance; rw [if_neg (by omega)]; exact h_69.1, by rw [h_69.2]; exact (Off.keep0 h_48.2).tr (hOy.keep (by omega))⟩
          · refine V_bipush (pc := 35) dX5_chance_35 (by decide) ?_
            refine V_iretI (pc := 37) dX5_chance_37 rfl ?_
            first | exact ⟨_, rfl, by unfold q_chance; rw [if_pos (by omega)], Keep.rf⟩ | exact ⟨_, rfl, by unfold q_chance; rw [if_neg (by omega)]; exact h_69.1, by rw [h_69.2]; exact (Off.keep0 h_48.2).tr (hOy.keep (by omega))⟩

set_option maxRecDepth 20000 in
set_option maxHeartbeats 1000000 in
theorem c_X5_mean {d : Nat} (hd : 16 ≤ d) {σ : MM} {B : BK} {y w : Int} (hB : CB σ 1 B) (hG : GB B) (hy : IR y) (hw : IR w) : V yX5_mean cX5_mean 3 (some .long) d (QJ (fun v σ' => v = q_mean B y w ∧ Keep σ σ')) 0 [some (vR 0 0), some (vI y), some (vI w)] [] σ := by
  have hW := hG.w
  have hs := hW.s
  have ho := hs.2.2.2.1
  have hWG := WGT_in hW (e := (-1)) (n := 0) y.toNat (fun _ => 0) 0 (fun _ _ => Or.inl rfl)
  have hp8 : y.toNat ≤ 8 → _ := fun q => P10_le y.toNat q
  have hpp := P10_pos y.toNat
  refine V_aload_0 (pc := 0) dX5_mean_0 ?_
  refine V_iload_1 (pc := 1) dX5_mean_1 ?_
  refine V_callV1p (pc := 2) dX5_mean_2 kv_X5_280 rc_0 (by omega) (d - 1) (by omega) rfl (c_X5_noChanceYear (by omega) hB hs (by omega)) ?_
  refine V_if_ne_b (pc := 5) 16 dX5_mean_5 (by decide) (fun c_5 => ?_) (fun c_5 => ?_)
  · refine V_ldc2 (pc := 16) dX5_mean_16 (z := -2) ldc_X5_295 ?_
    refine V_lret (pc := 19) dX5_mean_19 rfl ?_
    first | exact ⟨_, rfl, by unfold q_mean; rw [if_pos (by omega)], Keep.rf⟩ | exact ⟨_, rfl, by unfold q_mean; rw [if_neg (by omega)]; exact h_50.1, by rw [h_50.2]; exact (Off.keep0 h_30.2).tr (hOy.keep (by omega))⟩
  · refine V_aload_0 (pc := 8) dX5_mean_8 ?_
    refine V_iload_2 (pc := 9) dX5_mean_9 ?_
    refine V_callV1p (pc := 10) dX5_mean_10 kv_X5_268 rc_0 (by omega) (d - 1) (by omega) rfl (c_X5_noPart (by omega) (by omega)) ?_
    refine V_if_eq_b (pc := 13) 20 dX5_mean_13 (by decide) (fun c_13 => ?_) (fun c_13 => ?_)
    · refine V_aload_0 (pc := 20) dX5_mean_20 ?_
      refine V_getc (pc := 21) dX5_mean_21 gf_X5_36 (by omega) ?_
      refine V_aload_0 (pc := 24) dX5_mean_24 ?_
      refine V_getc (pc := 25) dX5_mean_25 gf_X5_23 (by omega) ?_
      refine V_iconst (pc := 28) dX5_mean_28 ?_
      refine V_iconst (pc := 29) dX5_mean_29 ?_
      refine V_callV3z (pc := 30) dX5_mean_30 kv_X5_283 rc_18 (by omega) (d - 1) (by omega) rfl (c_X2_pass (by omega) (w := 0) (P := fun _ _ => 0) (by omega) (by omega) hB hW (by omega) (by omega) (fun q => by omega)) (fun σ_30 h_30 => ?_)
      refine V_aload_0 (pc := 33) dX5_mean_33 ?_
      refine V_getc (pc := 34) dX5_mean_34 gf_X5_23 (by omega) ?_
      refine V_aload_0 (pc := 37) dX5_mean_37 ?_
      refine V_getc (pc := 38) dX5_mean_38 gf_X5_36 (by omega) ?_
      refine V_iconst (pc := 41) dX5_mean_41 ?_
      refine V_iload_1 (pc := 42) dX5_mean_42 ?_
      refine V_iconst (pc := 43) dX5_mean_43 ?_
      refine V_iconst (pc := 44) dX5_mean_44 ?_
      refine V_callS6j (pc := 45) dX5_mean_45 kv_X5_287 (d - 1) (by omega) rfl (c_weighed (e := (-1)) (n := 0) (z := y) hW (by omega) (by omega) (by omega) y.toNat (d := d - 1) (w := fun _ => 0) (y := 0) (by omega) (by omega) (fun _ _ => Or.inl rfl) (h_30.2.CB hB) h_30.1) (fun v_45 σ_45 h_45 => ?_)
      obtain ⟨hv, hOy⟩ := h_45
      subst hv
      have hWm : 0 ≤ (WGT B (-1) 0 y.toNat (fun _ => 0) 0) ∧ (WGT B (-1) 0 y.toNat (fun _ => 0) 0) ≤ 42000000000 := by
        have h9 := hp8 (by omega)
        refine ⟨hWG.1, Int.le_trans hWG.2 ?_⟩
        split <;> omega
      refine V_iload_1 (pc := 48) dX5_mean_48 ?_
      refine V_iload_2 (pc := 49) dX5_mean_49 ?_
      refine V_callS3j (pc := 50) dX5_mean_50 kv_X5_291 (d - 1) (by omega) rfl (by have := c_X5_part (d := d - 1) (by omega) (a := (WGT B (-1) 0 y.toNat (fun _ => 0) 0)) (w := w) (z := y.toNat) (σ := σ_45) hWm (by omega) (by omega); rw [show ((y.toNat : Nat) : Int) = y by omega] at this; exact this) (fun v_50 σ_50 h_50 => ?_)
      refine V_lret (pc := 53) dX5_mean_53 rfl ?_
      first | exact ⟨_, rfl, by unfold q_mean; rw [if_pos (by omega)], Keep.rf⟩ | exact ⟨_, rfl, by unfold q_mean; rw [if_neg (by omega)]; exact h_50.1, by rw [h_50.2]; exact (Off.keep0 h_30.2).tr (hOy.keep (by omega))⟩
    · refine V_ldc2 (pc := 16) dX5_mean_16 (z := -2) ldc_X5_295 ?_
      refine V_lret (pc := 19) dX5_mean_19 rfl ?_
      first | exact ⟨_, rfl, by unfold q_mean; rw [if_pos (by omega)], Keep.rf⟩ | exact ⟨_, rfl, by unfold q_mean; rw [if_neg (by omega)]; exact h_50.1, by rw [h_50.2]; exact (Off.keep0 h_30.2).tr (hOy.keep (by omega))⟩

set_option maxRecDepth 20000 in
set_option maxHeartbeats 1000000 in
theorem c_X5_drawn {d : Nat} (hd : 6 ≤ d) {σ : MM} {B : BK} {s w : Int} (hB : CB σ 1 B) (hG : GB B) (hs0 : IR s) (hw : IR w) : V yX5_drawn cX5_drawn 4 (some .int) d (QI (fun v σ' => v = q_drawn B s w ∧ Keep σ σ')) 0 [some (vR 0 0), some (vI s), some (vI w), none] [] σ := by
  have hW := hG.w
  have hs := hW.s
  have hwt := WET_in hs s
  refine V_aload_0 (pc := 0) dX5_drawn_0 ?_
  refine V_callV0p (pc := 1) dX5_drawn_1 kv_X5_155 rc_0 (by omega) (d - 1) (by omega) rfl (c_X5_noBook (by omega) hB hs) ?_
  refine V_if_ne_b (pc := 4) 23 dX5_drawn_4 (by decide) (fun c_4 => ?_) (fun c_4 => ?_)
  · refine V_bipush (pc := 23) dX5_drawn_23 (by decide) ?_
    refine V_iretI (pc := 25) dX5_drawn_25 rfl ?_
    first | exact ⟨_, rfl, by unfold q_drawn; rw [if_pos (by omega)], Keep.rf⟩ | exact ⟨_, rfl, by unfold q_drawn; rw [if_neg (by omega), if_pos (by omega)], Keep.rf⟩ | exact ⟨_, rfl, by unfold q_drawn; rw [if_neg (by omega), if_neg (by omega)], h_48.2.keep⟩
  · refine V_aload_0 (pc := 7) dX5_drawn_7 ?_
    refine V_iload_1 (pc := 8) dX5_drawn_8 ?_
    refine V_callV1p (pc := 9) dX5_drawn_9 kv_X5_297 rc_0 (by omega) (d - 1) (by omega) rfl (c_X5_noSeed (by omega) (by omega)) ?_
    refine V_if_ne_b (pc := 12) 23 dX5_drawn_12 (by decide) (fun c_12 => ?_) (fun c_12 => ?_)
    · refine V_bipush (pc := 23) dX5_drawn_23 (by decide) ?_
      refine V_iretI (pc := 25) dX5_drawn_25 rfl ?_
      first | exact ⟨_, rfl, by unfold q_drawn; rw [if_pos (by omega)], Keep.rf⟩ | exact ⟨_, rfl, by unfold q_drawn; rw [if_neg (by omega), if_pos (by omega)], Keep.rf⟩ | exact ⟨_, rfl, by unfold q_drawn; rw [if_neg (by omega), if_neg (by omega)], h_48.2.keep⟩
    · refine V_aload_0 (pc := 15) dX5_drawn_15 ?_
      refine V_iload_2 (pc := 16) dX5_drawn_16 ?_
      refine V_callV1p (pc := 17) dX5_drawn_17 kv_X5_268 rc_0 (by omega) (d - 1) (by omega) rfl (c_X5_noPart (by omega) (by omega)) ?_
      refine V_if_eq_b (pc := 20) 26 dX5_drawn_20 (by decide) (fun c_20 => ?_) (fun c_20 => ?_)
      · refine V_aload_0 (pc := 26) dX5_drawn_26 ?_
        refine V_iload_1 (pc := 27) dX5_drawn_27 ?_
        refine V_i2l (pc := 28) dX5_drawn_28 (by omega) ?_
        refine V_callV1p (pc := 29) dX5_drawn_29 kv_X5_300 rc_0 (by omega) (d - 1) (by omega) rfl (c_X5_wetYears (by omega) hB hW (by omega)) ?_
        refine V_istore_3 (pc := 32) dX5_drawn_32 ?_
        refine V_iload_2 (pc := 33) dX5_drawn_33 ?_
        refine V_if_ne (pc := 34) 39 dX5_drawn_34 (by decide) (by omega) (fun c_34 => ?_) (fun c_34 => ?_)
        · refine V_aload_0 (pc := 39) dX5_drawn_39 ?_
          refine V_getc (pc := 40) dX5_drawn_40 gf_X5_36 (by omega) ?_
          refine V_aload_0 (pc := 43) dX5_drawn_43 ?_
          refine V_getc (pc := 44) dX5_drawn_44 gf_X5_23 (by omega) ?_
          refine V_iload_3 (pc := 47) dX5_drawn_47 ?_
          refine V_callV2z (pc := 48) dX5_drawn_48 kv_X5_99 rc_18 (by omega) (d - 1) (by omega) rfl (c_X2_follow (by omega) (by omega) (by omega) hB hW (by omega)) (fun σ_48 h_48 => ?_)
          refine V_aload_0 (pc := 51) dX5_drawn_51 ?_
          refine V_aload_0 (pc := 52) dX5_drawn_52 ?_
          refine V_getc (pc := 53) dX5_drawn_53 gf_X5_36 (by omega) ?_
          refine V_aload_0 (pc := 56) dX5_drawn_56 ?_
          refine V_getc (pc := 57) dX5_drawn_57 gf_X5_23 (by omega) ?_
          refine V_geti (pc := 60) dX5_drawn_60 gf_X5_175 (by omega) (h_48.2.CB hB).s1 ?_
          refine V_callV2p (pc := 63) dX5_drawn_63 kv_X5_192 rc_0 (by omega) (d - 1) (by omega) rfl (c_X5_clearBits (by omega) (j := 1) (r := WET B s) (h_48.2.CB hB) hW (by omega) h_48.1 (by omega)) ?_
          refine V_iretI (pc := 66) dX5_drawn_66 rfl ?_
          first | exact ⟨_, rfl, by unfold q_drawn; rw [if_pos (by omega)], Keep.rf⟩ | exact ⟨_, rfl, by unfold q_drawn; rw [if_neg (by omega), if_pos (by omega)], Keep.rf⟩ | exact ⟨_, rfl, by unfold q_drawn; rw [if_neg (by omega), if_neg (by omega)], h_48.2.keep⟩
        · refine V_iload_3 (pc := 37) dX5_drawn_37 ?_
          refine V_iretI (pc := 38) dX5_drawn_38 rfl ?_
          first | exact ⟨_, rfl, by unfold q_drawn; rw [if_pos (by omega)], Keep.rf⟩ | exact ⟨_, rfl, by unfold q_drawn; rw [if_neg (by omega), if_pos (by omega)], Keep.rf⟩ | exact ⟨_, rfl, by unfold q_drawn; rw [if_neg (by omega), if_neg (by omega)], h_48.2.keep⟩
      · refine V_bipush (pc := 23) dX5_drawn_23 (by decide) ?_
        refine V_iretI (pc := 25) dX5_drawn_25 rfl ?_
        first | exact ⟨_, rfl, by unfold q_drawn; rw [if_pos (by omega)], Keep.rf⟩ | exact ⟨_, rfl, by unfold q_drawn; rw [if_neg (by omega), if_pos (by omega)], Keep.rf⟩ | exact ⟨_, rfl, by unfold q_drawn; rw [if_neg (by omega), if_neg (by omega)], h_48.2.keep⟩

set_option maxRecDepth 20000 in
set_option maxHeartbeats 1000000 in
theorem c_X5_luck {d : Nat} (hd : 6 ≤ d) {σ : MM} {B : BK} {s n e : Int} (hB : CB σ 1 B) (hG : GB B) (hs0 : IR s) (hn : IR n) (he : IR e) : V yX5_luck cX5_luck 6 (some .int) d (QI (fun v σ' => v = q_luck B s n e ∧ Keep σ σ')) 0 [some (vR 0 0), some (vI s), some (vI n), some (vI e), none, none] [] σ := by
  have hW := hG.w
  have hs := hW.s
  have loop : (¬ ((e < 0 ∨ B 6 0 ≤ e) ∨ (s < 0 ∨ 2000000000 < s) ∨ (n < 1 ∨ 20 < n))) → ∀ i : Nat, i ≤ n.toNat → ∀ σi : MM, (Keep σ σi) → V yX5_luck cX5_luck 6 (some .int) d (QI (fun v σ' => v = q_luck B s n e ∧ Keep σ σ')) 36 [some (vR 0 0), some (vI s), some (vI n), some (vI e), some (vI (sumN (fun i => bI (5 ≤ SHD B (bt (WET B (s + i))) (B 1 0) e)) i)), some (vI (i : Int))] [] σi := by
    intro hR
    refine up_ind (P := fun i : Nat => ∀ σi : MM, (Keep σ σi) → V yX5_luck cX5_luck 6 (some .int) d (QI (fun v σ' => v = q_luck B s n e ∧ Keep σ σ')) 36 [some (vR 0 0), some (vI s), some (vI n), some (vI e), some (vI (sumN (fun i => bI (5 ≤ SHD B (bt (WET B (s + i))) (B 1 0) e)) i)), some (vI (i : Int))] [] σi) ?_ ?_
    · intro σi hI
      refine V_iload_5 (pc := 36) dX5_luck_36 ?_
      refine V_iload_2 (pc := 38) dX5_luck_38 ?_
      refine V_icmp_ge (pc := 39) 93 dX5_luck_39 (by decide) (by omega) (by omega) (fun c_39 => ?_) (fun c_39 => ?_)
      · refine V_iload_4 (pc := 93) dX5_luck_93 ?_
        refine V_iretI (pc := 95) dX5_luck_95 rfl ?_
        exact ⟨_, rfl, by unfold q_luck; rw [if_neg hR], hI⟩
      · exact absurd c_39 (by omega)
    · intro i hi ih σi hI
      have hBi := hI.CB (Or.inl rfl) hB
      have hwt := WET_in hs (s + i)
      have hsh := SHD_in (r := WET B (s + i)) (y := B 1 0) hW (e := e) (by omega)
      have hb := suI_in (fun i => 5 ≤ SHD B (bt (WET B (s + i))) (B 1 0) e) i
      have hS := sumN_S (fun i => bI (5 ≤ SHD B (bt (WET B (s + i))) (B 1 0) e)) i
      refine V_iload_5 (pc := 36) dX5_luck_36 ?_
      refine V_iload_2 (pc := 38) dX5_luck_38 ?_
      refine V_icmp_ge (pc := 39) 93 dX5_luck_39 (by decide) (by omega) (by omega) (fun c_39 => ?_) (fun c_39 => ?_)
      · exact absurd c_39 (by omega)
      · refine V_aload_0 (pc := 42) dX5_luck_42 ?_
        refine V_getc (pc := 43) dX5_luck_43 gf_X5_36 (by omega) ?_
        refine V_aload_0 (pc := 46) dX5_luck_46 ?_
        refine V_getc (pc := 47) dX5_luck_47 gf_X5_23 (by omega) ?_
        refine V_aload_0 (pc := 50) dX5_luck_50 ?_
        refine V_iload_1 (pc := 51) dX5_luck_51 ?_
        refine V_i2l (pc := 52) dX5_luck_52 (by omega) ?_
        refine V_iload_5 (pc := 53) dX5_luck_53 ?_
        refine V_i2l (pc := 55) dX5_luck_55 (by omega) ?_
        refine V_ladd (pc := 56) dX5_luck_56 ?_
        refine V_callV1p (pc := 57) dX5_luck_57 kv_X5_300 rc_0 (by omega) (d - 1) (by omega) rfl (c_X5_wetYears (by omega) hBi hW (by omega)) ?_
        refine V_callV2z (pc := 60) dX5_luck_60 kv_X5_99 rc_18 (by omega) (d - 1) (by omega) rfl (c_X2_follow (by omega) (by omega) (by omega) hBi hW (by omega)) (fun σ_60 h_60 => ?_)
        refine V_aload_0 (pc := 63) dX5_luck_63 ?_
        refine V_getc (pc := 64) dX5_luck_64 gf_X5_36 (by omega) ?_
        refine V_gets (pc := 67) dX5_luck_67 gf_X5_169 (by omega) ?_
        refine V_aload_0 (pc := 70) dX5_luck_70 ?_
        refine V_getc (pc := 71) dX5_luck_71 gf_X5_23 (by omega) ?_
        refine V_geti (pc := 74) dX5_luck_74 gf_X5_175 (by omega) (h_60.2.CB hBi).s1 ?_
        refine V_aald_19 (pc := 77) dX5_luck_77 (by omega) (by omega) ?_
        refine V_iload_3 (pc := 78) dX5_luck_78 ?_
        refine V_iald (pc := 79) dX5_luck_79 sh_22 (by omega) (by omega) (h_60.1.sh (y := B 1 0) (e := e) (by omega) (by omega)) ?_
        refine V_iconst (pc := 80) dX5_luck_80 ?_
        refine V_icmp_lt (pc := 81) 87 dX5_luck_81 (by decide) (by omega) (by omega) (fun c_81 => ?_) (fun c_81 => ?_)
        · refine V_iinc_5 (pc := 87) dX5_luck_87 ?_
          refine V_goto (pc := 90) 36 dX5_luck_90 (by decide) ?_
          refine V.sub (by simp only [subL, Option.some.injEq, Sum.inl.injEq, Sum.inr.injEq, reduceCtorEq, true_or, or_true, false_or, true_and, and_true]; rw [hS, bI_f (by omega)]; refine ⟨by omega, by omega⟩) (ih _ (hI.tr h_60.2.keep))
        · refine V_iinc_4 (pc := 84) dX5_luck_84 ?_
          refine V_iinc_5 (pc := 87) dX5_luck_87 ?_
          refine V_goto (pc := 90) 36 dX5_luck_90 (by decide) ?_
          refine V.sub (by simp only [subL, Option.some.injEq, Sum.inl.injEq, Sum.inr.injEq, reduceCtorEq, true_or, or_true, false_or, true_and, and_true]; rw [hS, bI_t (by omega)]; refine ⟨by omega, by omega⟩) (ih _ (hI.tr h_60.2.keep))
  refine V_aload_0 (pc := 0) dX5_luck_0 ?_
  refine V_iload_3 (pc := 1) dX5_luck_1 ?_
  refine V_callV1p (pc := 2) dX5_luck_2 kv_X5_125 rc_0 (by omega) (d - 1) (by omega) rfl (c_X5_noEntry (by omega) hB hs (by omega)) ?_
  refine V_if_ne_b (pc := 5) 27 dX5_luck_5 (by decide) (fun c_5 => ?_) (fun c_5 => ?_)
  · refine V_bipush (pc := 27) dX5_luck_27 (by decide) ?_
    refine V_iretI (pc := 29) dX5_luck_29 rfl ?_
    exact ⟨_, rfl, by unfold q_luck; rw [if_pos (by omega)], Keep.rf⟩
  · refine V_aload_0 (pc := 8) dX5_luck_8 ?_
    refine V_iload_1 (pc := 9) dX5_luck_9 ?_
    refine V_callV1p (pc := 10) dX5_luck_10 kv_X5_297 rc_0 (by omega) (d - 1) (by omega) rfl (c_X5_noSeed (by omega) (by omega)) ?_
    refine V_if_ne_b (pc := 13) 27 dX5_luck_13 (by decide) (fun c_13 => ?_) (fun c_13 => ?_)
    · refine V_bipush (pc := 27) dX5_luck_27 (by decide) ?_
      refine V_iretI (pc := 29) dX5_luck_29 rfl ?_
      exact ⟨_, rfl, by unfold q_luck; rw [if_pos (by omega)], Keep.rf⟩
    · refine V_iload_2 (pc := 16) dX5_luck_16 ?_
      refine V_iconst (pc := 17) dX5_luck_17 ?_
      refine V_icmp_lt (pc := 18) 27 dX5_luck_18 (by decide) (by omega) (by omega) (fun c_18 => ?_) (fun c_18 => ?_)
      · refine V_bipush (pc := 27) dX5_luck_27 (by decide) ?_
        refine V_iretI (pc := 29) dX5_luck_29 rfl ?_
        exact ⟨_, rfl, by unfold q_luck; rw [if_pos (by omega)], Keep.rf⟩
      · refine V_iload_2 (pc := 21) dX5_luck_21 ?_
        refine V_bipush (pc := 22) dX5_luck_22 (by decide) ?_
        refine V_icmp_le (pc := 24) 30 dX5_luck_24 (by decide) (by omega) (by omega) (fun c_24 => ?_) (fun c_24 => ?_)
        · refine V_iconst (pc := 30) dX5_luck_30 ?_
          refine V_istore_4 (pc := 31) dX5_luck_31 ?_
          refine V_iconst (pc := 33) dX5_luck_33 ?_
          refine V_istore_5 (pc := 34) dX5_luck_34 ?_
          exact loop (by omega) 0 (by omega) σ Keep.rf
        · refine V_bipush (pc := 27) dX5_luck_27 (by decide) ?_
          refine V_iretI (pc := 29) dX5_luck_29 rfl ?_
          exact ⟨_, rfl, by unfold q_luck; rw [if_pos (by omega)], Keep.rf⟩
