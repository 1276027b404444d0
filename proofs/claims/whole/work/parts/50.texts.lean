/-! TEXTS: the constants of the Reader, by their numbers -/
section ROWS5
variable {yy : MethodName} {cc : ByteArray} {nL d pc : Nat} {ret : Option FieldType} {Q : Option AV → MM → Prop} {ls : List (Option AV)} {st : List AV} {σ : MM}
theorem V_callVs {y : MethodName} {cy : ByteArray} {nY n idx d1 i : Nat} {rY : Option FieldType} {Q1 : Option AV → MM → Prop} {as : List AV} {ls1 : List (Option AV)} (d0 : decode cc pc = .ok (.invokevirtual idx, 3)) (hK : KV yy.cls idx y cy nY rY n) (hY : y.cls = "java/lang/String") (hn9 : as.length = n) (hi : i < 15) (hd : d1 + 1 ≤ d) (hw : (st.map avc).sum ≤ 8) (he : entL nY (vR 90 i :: as) = ls1) (hfit : (entA (vR 90 i :: as)).length ≤ nY) (hV : V y cy nY rY d1 Q1 0 ls1 [] σ) (kk : ∀ r σ', Q1 r σ' → V yy cc nL ret d Q (pc + 3) ls (r.toList ++ st) σ') : V yy cc nL ret d Q pc ls (as.reverse ++ vR 90 i :: st) σ := by
  intro hn p l e R s m args below meth c D ca ad A cells slots C H locs la hP hS hl
  obtain ⟨hKC, hlk, hin, hse⟩ := hK
  have hM := met_V (y := y) (cc := cy) (nL := nY) (ret := rY) (d := d1) (Q := Q1) (as := vR 90 i :: as) (σ := σ) l D ca ad A hKC.2.2.1 C.dw he hfit hV
  have hrec := vk_recv C.F.1 hi hS
  rw [← hY] at hrec
  have hr := va_runV (C := y.cls) (b := ad 90 i) (As := as.map (cv ad)) (rest := st.map (cv ad)) (g := F0 m pc la ((as.reverse ++ vR 90 i :: st).map (cv ad))) (H := H) (locs := locs) (cells := cells) (slots := slots) (e := e) (below := below) (meth := meth) (args := args) (R := R) (n := n) (mc := 0) (ms := 0) ⟨C.x, C.b, C.ml, C.own, C.ts⟩ hM ⟨cb_of hKC C.ts hlk C.fr C.lo hd, C.ts _ hin, C.ts _ hse⟩ ⟨KX.blind, hrec, fun U hU hW => ⟨rfl, C.kx hP hS hU hW⟩⟩ rfl (by rw [List.length_map]; exact hn9) hl.1 (by show List.map _ _ = _; rw [List.map_append, List.map_reverse, List.map_cons]; rfl) (lv_room (st_room hw)) d0 ⟨C.ce, C.sl⟩
  refine w_call hr hS (fun r σ' H1 locs1 hq1 hsc hP1 hS1 => ?_)
  have k9 := kk r σ' hq1 hn p l e R s m args below meth c D ca ad A cells slots (by rw [hsc]; exact C) H1 locs1 la hP1 hS1 hl
  rw [hsc, st_app] at k9
  exact k9
theorem V_callVs0 {y : MethodName} {cy : ByteArray} {nY idx i : Nat} {rY : Option FieldType} {ls1 : List (Option AV)} {v : Int} (d0 : decode cc pc = .ok (.invokevirtual idx, 3)) (hK : KV yy.cls idx y cy nY rY 0) (hY : y.cls = "java/lang/String") (hi : i < 15) (d1 : Nat) (hd : d1 + 1 ≤ d) (he : entL nY [vR 90 i] = ls1) (hV : V y cy nY rY d1 (QI (fun r σ' => r = v ∧ σ' = σ)) 0 ls1 [] σ) (kk : V yy cc nL ret d Q (pc + 3) ls (vI v :: st) σ) (hw : (st.map avc).sum ≤ 8 := by exact Nat.le_of_ble_eq_true rfl) (hfit : (entA [vR 90 i]).length ≤ nY := by exact Nat.le_of_ble_eq_true rfl) : V yy cc nL ret d Q pc ls (vR 90 i :: st) σ :=
  V_callVs (as := []) d0 hK hY rfl hi hd hw he hfit hV (fun r σ' h => by obtain ⟨v, rfl, rfl, rfl⟩ := h; exact kk)
theorem V_callVs1 {y : MethodName} {cy : ByteArray} {nY idx i : Nat} {rY : Option FieldType} {ls1 : List (Option AV)} {v : Int} {x0 : AV} (d0 : decode cc pc = .ok (.invokevirtual idx, 3)) (hK : KV yy.cls idx y cy nY rY 1) (hY : y.cls = "java/lang/String") (hi : i < 15) (d1 : Nat) (hd : d1 + 1 ≤ d) (he : entL nY [vR 90 i, x0] = ls1) (hV : V y cy nY rY d1 (QI (fun r σ' => r = v ∧ σ' = σ)) 0 ls1 [] σ) (kk : V yy cc nL ret d Q (pc + 3) ls (vI v :: st) σ) (hw : (st.map avc).sum ≤ 8 := by exact Nat.le_of_ble_eq_true rfl) (hfit : (entA [vR 90 i, x0]).length ≤ nY := by exact Nat.le_of_ble_eq_true rfl) : V yy cc nL ret d Q pc ls (x0 :: vR 90 i :: st) σ :=
  V_callVs (as := [x0]) d0 hK hY rfl hi hd hw he hfit hV (fun r σ' h => by obtain ⟨v, rfl, rfl, rfl⟩ := h; exact kk)
theorem V_strf {idx i : Nat} {n dd : String} {v : AV} (d0 : decode cc pc = .ok (.getfield idx, 3)) (hl9 : Cond.fieldLink yy.cls idx "java/lang/String" n dd ∈ lwG) (hv : ∀ (ad : ADD) (A : Nat → Prop) (s : State), vk_S 15 strN strB (ad 90) (ad 91) A s s.heap → va_OF "java/lang/String" n dd (cv ad v) (ad 90 i) A s s.heap) (k : V yy cc nL ret d Q (pc + 3) ls (v :: st) σ) : V yy cc nL ret d Q pc ls (vR 90 i :: st) σ := by
  intro hn p l e R s m args below meth c D ca ad A cells slots C H locs la hP hS hl
  exact vk_getf C.x C.b (hv ad A s C.F.1) hS C.own (C.ts _ hl9) (fun x hx => hx) d0 (k hn p l e R s m args below meth c D ca ad A cells slots C H locs la hP hS hl)
theorem V_comp {idx : Nat} (d0 : decode cc pc = .ok (.getstatic idx, 3)) (hl9 : Cond.fieldLink yy.cls idx "java/lang/String" "COMPACT_STRINGS" "Z" ∈ lwG) (k : V yy cc nL ret d Q (pc + 3) ls (vI 1 :: st) σ) : V yy cc nL ret d Q pc ls st σ := by
  intro hn p l e R s m args below meth c D ca ad A cells slots C H locs la hP hS hl
  exact va_gets C.x C.b C.F.2.1 hS C.own (C.ts _ hl9) (fun x hx => hx) d0 (k hn p l e R s m args below meth c D ca ad A cells slots C H locs la hP hS hl)
theorem V_form {idx : Nat} (d0 : decode cc pc = .ok (.getstatic idx, 3)) (hl9 : Cond.fieldLink yy.cls idx "jdk/internal/util/Preconditions" "SIOOBE_FORMATTER" "Ljava/util/function/BiFunction;" ∈ lwG) (k : ∀ v : Value, v.category = 1 → V yy cc nL ret d Q (pc + 3) ls (vV v :: st) σ) : V yy cc nL ret d Q pc ls st σ := by
  intro hn p l e R s m args below meth c D ca ad A cells slots C H locs la hP hS hl
  rcases C.F.2.2.1 with q | ⟨t, q⟩
  · exact va_gets C.x C.b q hS C.own (C.ts _ hl9) (fun x hx => hx) d0 (k _ rfl hn p l e R s m args below meth c D ca ad A cells slots C H locs la hP hS hl)
  · exact va_gets C.x C.b q hS C.own (C.ts _ hl9) (fun x hx => hx) d0 (k _ rfl hn p l e R s m args below meth c D ca ad A cells slots C H locs la hP hS hl)
theorem V_strn {i : Nat} (d0 : decode cc pc = .ok (.arraylength, 1)) (hi : i < 15) (k : V yy cc nL ret d Q (pc + 1) ls (vI (strN.getD i 0 : Nat) :: st) σ) : V yy cc nL ret d Q pc ls (vR 91 i :: st) σ := by
  intro hn p l e R s m args below meth c D ca ad A cells slots C H locs la hP hS hl
  exact va_tlen C.x C.b (C.F.1.1 i hi).2.2.2 hS (v := iN ((strN.getD i 0 : Nat) : Int)) (Int32.ofInt_eq_ofNat).symm d0 (k hn p l e R s m args below meth c D ca ad A cells slots C H locs la hP hS hl)
theorem V_strb {i : Nat} {x : Int} (d0 : decode cc pc = .ok (.baload, 1)) (hi : i < 15) (hx : 0 ≤ x ∧ x < (strN.getD i 0 : Nat)) (k : V yy cc nL ret d Q (pc + 1) ls (vI ((strB.getD i []).getD x.toNat 0).toInt :: st) σ) : V yy cc nL ret d Q pc ls (vI x :: vR 91 i :: st) σ := by
  intro hn p l e R s m args below meth c D ca ad A cells slots C H locs la hP hS hl
  have hlen : ∀ i : Nat, i < 15 → strN.getD i 0 < 2147483648 := by decide +kernel
  refine va_tb C.x C.b (C.F.1.1 i hi).2.2.2 hS (i := iN x) (v := .int (iN ((strB.getD i []).getD x.toNat 0).toInt)) (iN_in hx.1 hx.2 (hlen i hi)) ?_ d0 (k hn p l e R s m args below meth c D ca ad A cells slots C H locs la hP hS hl)
  show Value.int ((strB.getD i []).getD (iN x).toNatClampNeg 0) = _
  rw [iN_self]
  have := iN_cl (z := x) hx.1 hx.2 (hlen i hi)
  rw [show (iN x).toNatClampNeg = x.toNat by omega]
theorem V_iretB {x : Int} {ty : FieldType} (d0 : decode cc pc = .ok (.ireturn, 1)) (hr : ret = some ty) (hx : narrow ty (.int (iN x)) = .int (iN x)) (hq : Q (some (vI x)) σ) : V yy cc nL ret d Q pc ls [vI x] σ := V_iret d0 ⟨_, hr, hx⟩ hq
end ROWS5
theorem kc_J0_coder_7d493 : KC yJ0_coder_7d493 cJ0_coder_7d493 1 (some .byte) 0 := ⟨lwG_of (tb_2 (mem_drop (j := 90) rfl)) (by decide +kernel), lwG_of (tb_1 (mem_drop (j := 9) rfl)) (by decide +kernel), by decide +kernel, by decide +kernel, by decide +kernel, by decide +kernel, by decide⟩
theorem kc_J0_isLatin1_aae02 : KC yJ0_isLatin1_aae02 cJ0_isLatin1_aae02 1 (some .boolean) 0 := ⟨lwG_of (tb_2 (mem_drop (j := 100) rfl)) (by decide +kernel), lwG_of (tb_1 (mem_drop (j := 9) rfl)) (by decide +kernel), by decide +kernel, by decide +kernel, by decide +kernel, by decide +kernel, by decide⟩
theorem kc_J0_checkIndex_df160 : KC yJ0_checkIndex_df160 cJ0_checkIndex_df160 2 none 2 := ⟨lwG_of (tb_2 (mem_drop (j := 106) rfl)) (by decide +kernel), lwG_of (tb_1 (mem_drop (j := 9) rfl)) (by decide +kernel), by decide +kernel, by decide +kernel, by decide +kernel, by decide +kernel, by decide⟩
theorem kc_J1_charAt_3b067 : KC yJ1_charAt_3b067 cJ1_charAt_3b067 2 (some .char) 2 := ⟨lwG_of (tb_2 (mem_drop (j := 103) rfl)) (by decide +kernel), lwG_of (tb_1 (mem_drop (j := 10) rfl)) (by decide +kernel), by decide +kernel, by decide +kernel, by decide +kernel, by decide +kernel, by decide⟩
theorem kc_J3_checkIndex_8e157 : KC yJ3_checkIndex_8e157 cJ3_checkIndex_8e157 3 (some .int) 3 := ⟨lwG_of (tb_2 (mem_drop (j := 111) rfl)) (by decide +kernel), lwG_of (tb_1 (mem_drop (j := 11) rfl)) (by decide +kernel), by decide +kernel, by decide +kernel, by decide +kernel, by decide +kernel, by decide⟩
theorem kv_J0_335 : KV RJ0 335 yJ0_coder_7d493 cJ0_coder_7d493 1 (some .byte) 0 := ⟨kc_J0_coder_7d493, lwG_of (tb_2 (mem_drop (j := 87) rfl)) (by decide +kernel), lwG_of (tb_2 (mem_drop (j := 88) rfl)) (by decide +kernel), lwG_of (tb_2 (mem_drop (j := 89) rfl)) (by decide +kernel)⟩
theorem kv_J0_492 : KV RJ0 492 yJ0_isLatin1_aae02 cJ0_isLatin1_aae02 1 (some .boolean) 0 := ⟨kc_J0_isLatin1_aae02, lwG_of (tb_2 (mem_drop (j := 97) rfl)) (by decide +kernel), lwG_of (tb_2 (mem_drop (j := 98) rfl)) (by decide +kernel), lwG_of (tb_2 (mem_drop (j := 99) rfl)) (by decide +kernel)⟩
theorem kv_J0_495 : KS RJ0 495 yJ1_charAt_3b067 cJ1_charAt_3b067 2 (some .char) 2 := ⟨kc_J1_charAt_3b067, lwG_of (tb_2 (mem_drop (j := 101) rfl)) (by decide +kernel), lwG_of (tb_2 (mem_drop (j := 102) rfl)) (by decide +kernel)⟩
theorem kv_J1_9 : KS RJ1 9 yJ0_checkIndex_df160 cJ0_checkIndex_df160 2 none 2 := ⟨kc_J0_checkIndex_df160, lwG_of (tb_2 (mem_drop (j := 104) rfl)) (by decide +kernel), lwG_of (tb_2 (mem_drop (j := 105) rfl)) (by decide +kernel)⟩
theorem kv_J0_1059 : KS RJ0 1059 yJ3_checkIndex_8e157 cJ3_checkIndex_8e157 3 (some .int) 3 := ⟨kc_J3_checkIndex_8e157, lwG_of (tb_2 (mem_drop (j := 109) rfl)) (by decide +kernel), lwG_of (tb_2 (mem_drop (j := 110) rfl)) (by decide +kernel)⟩
theorem fl_J0_9 : Cond.fieldLink RJ0 9 "java/lang/String" "value" "[B" ∈ lwG := lwG_of (tb_8 (mem_drop (j := 59) rfl)) (by decide +kernel)
theorem fl_J0_15 : Cond.fieldLink RJ0 15 "java/lang/String" "coder" "B" ∈ lwG := lwG_of (tb_8 (mem_drop (j := 60) rfl)) (by decide +kernel)
theorem fl_J0_38 : Cond.fieldLink RJ0 38 "java/lang/String" "COMPACT_STRINGS" "Z" ∈ lwG := lwG_of (tb_2 (mem_drop (j := 91) rfl)) (by decide +kernel)
theorem fl_J0_1053 : Cond.fieldLink RJ0 1053 "jdk/internal/util/Preconditions" "SIOOBE_FORMATTER" "Ljava/util/function/BiFunction;" ∈ lwG := lwG_of (tb_2 (mem_drop (j := 107) rfl)) (by decide +kernel)
def SLN (i : Nat) : Int := ((strN.getD i 0 : Nat) : Int)
def SCH (i : Nat) (x : Int) : Int := ((strB.getD i []).getD x.toNat 0).toInt
theorem SLN_in : ∀ i : Nat, i < 15 → 2 ≤ SLN i ∧ SLN i ≤ 5 := by decide +kernel
theorem SCH_in0 : ∀ i : Nat, i < 15 → ∀ x : Nat, x < strN.getD i 0 → 97 ≤ SCH i x ∧ SCH i x ≤ 122 := by decide +kernel
theorem SCH_in {i : Nat} {x : Int} (hi : i < 15) (hx : 0 ≤ x ∧ x < SLN i) : 97 ≤ SCH i x ∧ SCH i x ≤ 122 := by
  obtain ⟨n, rfl⟩ := Int.eq_ofNat_of_zero_le hx.1
  exact SCH_in0 i hi n (by have := hx.2; unfold SLN at this; omega)
theorem bw_and255 : ∀ n : Nat, n < 128 → iN (n : Int) &&& iN 255 = iN (n : Int) := by decide +kernel
theorem bw_i2c : ∀ n : Nat, n < 128 → ((iN (n : Int)).toUInt32 % 65536).toInt32 = iN (n : Int) := by decide +kernel
theorem bw_and255i {x : Int} (h : 0 ≤ x ∧ x < 128) : iN x &&& iN 255 = iN x := by
  obtain ⟨n, rfl⟩ := Int.eq_ofNat_of_zero_le h.1
  exact bw_and255 n (by omega)
theorem bw_i2ci {x : Int} (h : 0 ≤ x ∧ x < 128) : ((iN x).toUInt32 % 65536).toInt32 = iN x := by
  obtain ⟨n, rfl⟩ := Int.eq_ofNat_of_zero_le h.1
  exact bw_i2c n (by omega)
theorem bw_narC : ∀ n : Nat, n < 128 → narrow .char (.int (iN (n : Int))) = .int (iN (n : Int)) := by decide +kernel
theorem bw_narCi {x : Int} (h : 0 ≤ x ∧ x < 128) : narrow .char (.int (iN x)) = .int (iN x) := by
  obtain ⟨n, rfl⟩ := Int.eq_ofNat_of_zero_le h.1
  exact bw_narC n (by omega)

set_option maxRecDepth 20000 in
set_option maxHeartbeats 1000000 in
theorem c_J0_coder {d : Nat} (hd : 0 ≤ d) {σ : MM} {i : Nat} (hi : i < 15) : V yJ0_coder_7d493 cJ0_coder_7d493 1 (some .byte) d (QI (fun v σ' => v = 0 ∧ σ' = σ)) 0 [some (vR 90 i)] [] σ := by
  refine V_comp (pc := 0) dJ0_coder_7d493_0 fl_J0_38 ?_
  refine V_if_eq (pc := 3) 13 dJ0_coder_7d493_3 (by decide) (by omega) (fun c => absurd c (by omega)) (fun _ => ?_)
  refine V_aload_0 (pc := 6) dJ0_coder_7d493_6 ?_
  refine V_strf (pc := 7) dJ0_coder_7d493_7 fl_J0_15 (v := vI 0) (fun ad A s h => (h.1 i hi).2.1) ?_
  refine V_goto (pc := 10) 14 dJ0_coder_7d493_10 (by decide) ?_
  refine V_iretB (pc := 14) dJ0_coder_7d493_14 rfl rfl ?_
  exact ⟨_, rfl, rfl, rfl⟩

set_option maxRecDepth 20000 in
set_option maxHeartbeats 1000000 in
theorem c_J0_length_8abf5 {d : Nat} (hd : 1 ≤ d) {σ : MM} {i : Nat} (hi : i < 15) : V yJ0_length_8abf5 cJ0_length_8abf5 1 (some .int) d (QI (fun v σ' => v = SLN i ∧ σ' = σ)) 0 [some (vR 90 i)] [] σ := by
  have hL := SLN_in i hi
  refine V_aload_0 (pc := 0) dJ0_length_8abf5_0 ?_
  refine V_strf (pc := 1) dJ0_length_8abf5_1 fl_J0_9 (v := vR 91 i) (fun ad A s h => (h.1 i hi).2.2.1) ?_
  refine V_strn (pc := 4) dJ0_length_8abf5_4 hi ?_
  refine V_aload_0 (pc := 5) dJ0_length_8abf5_5 ?_
  refine V_callVs0 (pc := 6) dJ0_length_8abf5_6 kv_J0_335 rfl hi (d - 1) (by omega) rfl (c_J0_coder (by omega) hi) ?_
  refine V_ishr_p (pc := 9) dJ0_length_8abf5_9 (by show IR (SLN i); omega) (by omega) ?_
  refine V_iretI (pc := 10) dJ0_length_8abf5_10 rfl ?_
  exact ⟨_, rfl, by show SLN i / p2 0 = SLN i; rw [p2_0, Int.ediv_one], rfl⟩

set_option maxRecDepth 20000 in
set_option maxHeartbeats 1000000 in
theorem c_J0_isLatin1 {d : Nat} (hd : 0 ≤ d) {σ : MM} {i : Nat} (hi : i < 15) : V yJ0_isLatin1_aae02 cJ0_isLatin1_aae02 1 (some .boolean) d (QI (fun v σ' => v = 1 ∧ σ' = σ)) 0 [some (vR 90 i)] [] σ := by
  refine V_comp (pc := 0) dJ0_isLatin1_aae02_0 fl_J0_38 ?_
  refine V_if_eq (pc := 3) 17 dJ0_isLatin1_aae02_3 (by decide) (by omega) (fun c => absurd c (by omega)) (fun _ => ?_)
  refine V_aload_0 (pc := 6) dJ0_isLatin1_aae02_6 ?_
  refine V_strf (pc := 7) dJ0_isLatin1_aae02_7 fl_J0_15 (v := vI 0) (fun ad A s h => (h.1 i hi).2.1) ?_
  refine V_if_ne (pc := 10) 17 dJ0_isLatin1_aae02_10 (by decide) (by omega) (fun c => absurd rfl c) (fun _ => ?_)
  refine V_iconst (pc := 13) dJ0_isLatin1_aae02_13 ?_
  refine V_goto (pc := 14) 18 dJ0_isLatin1_aae02_14 (by decide) ?_
  refine V_iretB (pc := 18) dJ0_isLatin1_aae02_18 rfl rfl ?_
  exact ⟨_, rfl, rfl, rfl⟩

set_option maxRecDepth 20000 in
set_option maxHeartbeats 1000000 in
theorem c_J3_checkIndex {d : Nat} (hd : 0 ≤ d) {σ : MM} {x n : Int} {v : Value} (hv : v.category = 1) (hx : 0 ≤ x ∧ x < n) (hn : n ≤ 1000) : V yJ3_checkIndex_8e157 cJ3_checkIndex_8e157 3 (some .int) d (QI (fun v σ' => v = x ∧ σ' = σ)) 0 [some (vI x), some (vI n), some (vV v)] [] σ := by
  refine V_iload_0 (pc := 0) dJ3_checkIndex_8e157_0 ?_
  refine V_if_lt (pc := 1) 9 dJ3_checkIndex_8e157_1 (by decide) (by omega) (fun c => absurd c (by omega)) (fun _ => ?_)
  refine V_iload_0 (pc := 4) dJ3_checkIndex_8e157_4 ?_
  refine V_iload_1 (pc := 5) dJ3_checkIndex_8e157_5 ?_
  refine V_icmp_lt (pc := 6) 16 dJ3_checkIndex_8e157_6 (by decide) (by omega) (by omega) (fun _ => ?_) (fun c => absurd c (by omega))
  refine V_iload_0 (pc := 16) dJ3_checkIndex_8e157_16 ?_
  refine V_iretI (pc := 17) dJ3_checkIndex_8e157_17 rfl ?_
  exact ⟨_, rfl, rfl, rfl⟩

set_option maxRecDepth 20000 in
set_option maxHeartbeats 1000000 in
theorem c_J0_checkIndex {d : Nat} (hd : 1 ≤ d) {σ : MM} {x n : Int} (hx : 0 ≤ x ∧ x < n) (hn : n ≤ 1000) : V yJ0_checkIndex_df160 cJ0_checkIndex_df160 2 none d (QZ (fun σ' => σ' = σ)) 0 [some (vI x), some (vI n)] [] σ := by
  refine V_iload_0 (pc := 0) dJ0_checkIndex_df160_0 ?_
  refine V_iload_1 (pc := 1) dJ0_checkIndex_df160_1 ?_
  refine V_form (pc := 2) dJ0_checkIndex_df160_2 fl_J0_1053 (fun v hv => ?_)
  refine V_callS3p (pc := 5) dJ0_checkIndex_df160_5 kv_J0_1059 (d - 1) (by omega) (ls1 := [some (vI x), some (vI n), some (vV v)]) ?_ (c_J3_checkIndex (by omega) hv hx hn) ?_ (by exact Nat.le_of_ble_eq_true rfl) ?_
  · have e : avc (vV v) = 1 := hv
    have e1 : avc (vI x) = 1 := rfl
    have e2 : avc (vI n) = 1 := rfl
    simp [entL, entA, e, e1, e2]
  · refine V_pop (pc := 8) dJ0_checkIndex_df160_8 rfl ?_
    refine V_vret (pc := 9) dJ0_checkIndex_df160_9 rfl ?_
    exact ⟨rfl, rfl⟩
  · have e : avc (vV v) = 1 := hv
    have e1 : avc (vI x) = 1 := rfl
    have e2 : avc (vI n) = 1 := rfl
    simp [entA, e, e1, e2]

set_option maxRecDepth 20000 in
set_option maxHeartbeats 1000000 in
theorem c_J1_charAt {d : Nat} (hd : 2 ≤ d) {σ : MM} {i : Nat} {x : Int} (hi : i < 15) (hx : 0 ≤ x ∧ x < SLN i) : V yJ1_charAt_3b067 cJ1_charAt_3b067 2 (some .char) d (QI (fun v σ' => v = SCH i x ∧ σ' = σ)) 0 [some (vR 91 i), some (vI x)] [] σ := by
  have hL := SLN_in i hi
  have hc := SCH_in hi hx
  refine V_iload_1 (pc := 0) dJ1_charAt_3b067_0 ?_
  refine V_aload_0 (pc := 1) dJ1_charAt_3b067_1 ?_
  refine V_strn (pc := 2) dJ1_charAt_3b067_2 hi ?_
  refine V_callS2z (pc := 3) dJ1_charAt_3b067_3 kv_J1_9 (d - 1) (by omega) rfl (c_J0_checkIndex (by omega) (n := SLN i) hx (by omega)) (fun σ1 h1 => ?_)
  subst h1
  refine V_aload_0 (pc := 6) dJ1_charAt_3b067_6 ?_
  refine V_iload_1 (pc := 7) dJ1_charAt_3b067_7 ?_
  refine V_strb (pc := 8) dJ1_charAt_3b067_8 hi hx ?_
  refine V_sipush (pc := 9) dJ1_charAt_3b067_9 (by decide) ?_
  refine V_iand (pc := 12) dJ1_charAt_3b067_12 (v := SCH i x) (bw_and255i (by show 0 ≤ SCH i x ∧ SCH i x < 128; omega)) ?_
  refine V_i2c (pc := 13) dJ1_charAt_3b067_13 (v := SCH i x) (bw_i2ci (by omega)) ?_
  refine V_iretB (pc := 14) dJ1_charAt_3b067_14 rfl (bw_narCi (by omega)) ?_
  exact ⟨_, rfl, rfl, rfl⟩

set_option maxRecDepth 20000 in
set_option maxHeartbeats 1000000 in
theorem c_J0_charAt_5068e {d : Nat} (hd : 3 ≤ d) {σ : MM} {i : Nat} {x : Int} (hi : i < 15) (hx : 0 ≤ x ∧ x < SLN i) : V yJ0_charAt_5068e cJ0_charAt_5068e 2 (some .char) d (QI (fun v σ' => v = SCH i x ∧ σ' = σ)) 0 [some (vR 90 i), some (vI x)] [] σ := by
  have hc := SCH_in hi hx
  refine V_aload_0 (pc := 0) dJ0_charAt_5068e_0 ?_
  refine V_callVs0 (pc := 1) dJ0_charAt_5068e_1 kv_J0_492 rfl hi (d - 1) (by omega) rfl (c_J0_isLatin1 (by omega) hi) ?_
  refine V_if_eq (pc := 4) 16 dJ0_charAt_5068e_4 (by decide) (by omega) (fun c => absurd c (by omega)) (fun _ => ?_)
  refine V_aload_0 (pc := 7) dJ0_charAt_5068e_7 ?_
  refine V_strf (pc := 8) dJ0_charAt_5068e_8 fl_J0_9 (v := vR 91 i) (fun ad A s h => (h.1 i hi).2.2.1) ?_
  refine V_iload_1 (pc := 11) dJ0_charAt_5068e_11 ?_
  refine V_callS2p (pc := 12) dJ0_charAt_5068e_12 kv_J0_495 (d - 1) (by omega) rfl (c_J1_charAt (by omega) hi hx) ?_
  refine V_iretB (pc := 15) dJ0_charAt_5068e_15 rfl (bw_narCi (by omega)) ?_
  exact ⟨_, rfl, rfl, rfl⟩

