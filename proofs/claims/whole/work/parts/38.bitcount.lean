theorem bcA_c (n : Nat) : (n : Int) - ((n / 2 ^ 1 &&& 1431655765 : Nat) : Int) = ((bcA 1431655765 n : Nat) : Int) := by
  have := Nat.and_le_left (n := n / 2) (m := 1431655765)
  unfold bcA
  rw [show (2 : Nat) ^ 1 = 2 from rfl]
  omega
theorem bcB_c (n : Nat) : ((n &&& 858993459 : Nat) : Int) + ((n / 2 ^ 2 &&& 858993459 : Nat) : Int) = ((bcB 858993459 n : Nat) : Int) := by
  unfold bcB
  rw [show (2 : Nat) ^ 2 = 4 from rfl]
  omega

set_option maxRecDepth 20000 in
set_option maxHeartbeats 1000000 in
theorem c_bitCount0 {d : Nat} (hd : 0 ≤ d) {σ : MM} {n : Nat} (hn : n < 16777216) : V yJ6_bitCount_0f7a4 cJ6_bitCount_0f7a4 1 (some .int) d (QI (fun v σ' => v = POP n ∧ σ' = σ)) 0 [some (vI (n : Int))] [] σ := by
  obtain ⟨k0, k1, k2, k3⟩ := pop_ok hn
  refine V_iload_0 (pc := 0) dJ6_bitCount_0f7a4_0 ?_
  refine V_iload_0 (pc := 1) dJ6_bitCount_0f7a4_1 ?_
  refine V_iconst (pc := 2) dJ6_bitCount_0f7a4_2 ?_
  refine V_iushr (pc := 3) dJ6_bitCount_0f7a4_3 (bw_ushr (n := n) (k := 1) (by omega) (by decide +kernel)) ?_
  refine V_ldcw (pc := 4) dJ6_bitCount_0f7a4_4 (z := 1431655765) ldc_J6_265 ?_
  refine V_iand (pc := 7) dJ6_bitCount_0f7a4_7 (bw_and (n / 2 ^ 1) 1431655765) ?_
  refine V_isub (pc := 8) dJ6_bitCount_0f7a4_8 ?_
  refine V.st (st' := [vI (((bcA 1431655765 n) : Nat) : Int)]) (by rw [bcA_c]) ?_
  refine V_istore_0 (pc := 9) dJ6_bitCount_0f7a4_9 ?_
  refine V_iload_0 (pc := 10) dJ6_bitCount_0f7a4_10 ?_
  refine V_ldcw (pc := 11) dJ6_bitCount_0f7a4_11 (z := 858993459) ldc_J6_266 ?_
  refine V_iand (pc := 14) dJ6_bitCount_0f7a4_14 (bw_and ((bcA 1431655765 n)) 858993459) ?_
  refine V_iload_0 (pc := 15) dJ6_bitCount_0f7a4_15 ?_
  refine V_iconst (pc := 16) dJ6_bitCount_0f7a4_16 ?_
  refine V_iushr (pc := 17) dJ6_bitCount_0f7a4_17 (bw_ushr (n := (bcA 1431655765 n)) (k := 2) (by omega) (by decide +kernel)) ?_
  refine V_ldcw (pc := 18) dJ6_bitCount_0f7a4_18 (z := 858993459) ldc_J6_266 ?_
  refine V_iand (pc := 21) dJ6_bitCount_0f7a4_21 (bw_and ((bcA 1431655765 n) / 2 ^ 2) 858993459) ?_
  refine V_iadd (pc := 22) dJ6_bitCount_0f7a4_22 ?_
  refine V.st (st' := [vI (((bcB 858993459 (bcA 1431655765 n)) : Nat) : Int)]) (by rw [bcB_c]) ?_
  refine V_istore_0 (pc := 23) dJ6_bitCount_0f7a4_23 ?_
  refine V_iload_0 (pc := 24) dJ6_bitCount_0f7a4_24 ?_
  refine V_iload_0 (pc := 25) dJ6_bitCount_0f7a4_25 ?_
  refine V_iconst (pc := 26) dJ6_bitCount_0f7a4_26 ?_
  refine V_iushr (pc := 27) dJ6_bitCount_0f7a4_27 (bw_ushr (n := (bcB 858993459 (bcA 1431655765 n))) (k := 4) (by omega) (by decide +kernel)) ?_
  refine V_iadd (pc := 28) dJ6_bitCount_0f7a4_28 ?_
  refine V.st (st' := [vI (((bcB 858993459 (bcA 1431655765 n)) + (bcB 858993459 (bcA 1431655765 n)) / 16 : Nat) : Int)]) (by rw [show (2 : Nat) ^ 4 = 16 from rfl, ← Int.natCast_add]) ?_
  refine V_ldcw (pc := 29) dJ6_bitCount_0f7a4_29 (z := 252645135) ldc_J6_267 ?_
  refine V_iand (pc := 32) dJ6_bitCount_0f7a4_32 (bw_and ((bcB 858993459 (bcA 1431655765 n)) + (bcB 858993459 (bcA 1431655765 n)) / 16) 252645135) ?_
  refine V.st (st' := [vI (((bcC 252645135 (bcB 858993459 (bcA 1431655765 n))) : Nat) : Int)]) (by rfl) ?_
  refine V_istore_0 (pc := 33) dJ6_bitCount_0f7a4_33 ?_
  refine V_iload_0 (pc := 34) dJ6_bitCount_0f7a4_34 ?_
  refine V_iload_0 (pc := 35) dJ6_bitCount_0f7a4_35 ?_
  refine V_bipush (pc := 36) dJ6_bitCount_0f7a4_36 (by decide) ?_
  refine V_iushr (pc := 38) dJ6_bitCount_0f7a4_38 (bw_ushr (n := (bcC 252645135 (bcB 858993459 (bcA 1431655765 n)))) (k := 8) (by omega) (by decide +kernel)) ?_
  refine V_iadd (pc := 39) dJ6_bitCount_0f7a4_39 ?_
  refine V.st (st' := [vI ((((bcC 252645135 (bcB 858993459 (bcA 1431655765 n))) + (bcC 252645135 (bcB 858993459 (bcA 1431655765 n))) / 256) : Nat) : Int)]) (by rw [show (2 : Nat) ^ 8 = 256 from rfl, ← Int.natCast_add]) ?_
  refine V_istore_0 (pc := 40) dJ6_bitCount_0f7a4_40 ?_
  refine V_iload_0 (pc := 41) dJ6_bitCount_0f7a4_41 ?_
  refine V_iload_0 (pc := 42) dJ6_bitCount_0f7a4_42 ?_
  refine V_bipush (pc := 43) dJ6_bitCount_0f7a4_43 (by decide) ?_
  refine V_iushr (pc := 45) dJ6_bitCount_0f7a4_45 (bw_ushr (n := ((bcC 252645135 (bcB 858993459 (bcA 1431655765 n))) + (bcC 252645135 (bcB 858993459 (bcA 1431655765 n))) / 256)) (k := 16) (by omega) (by decide +kernel)) ?_
  refine V_iadd (pc := 46) dJ6_bitCount_0f7a4_46 ?_
  refine V.st (st' := [vI ((((bcC 252645135 (bcB 858993459 (bcA 1431655765 n))) + (bcC 252645135 (bcB 858993459 (bcA 1431655765 n))) / 256) + ((bcC 252645135 (bcB 858993459 (bcA 1431655765 n))) + (bcC 252645135 (bcB 858993459 (bcA 1431655765 n))) / 256) / 65536 : Nat) : Int)]) (by rw [show (2 : Nat) ^ 16 = 65536 from rfl, ← Int.natCast_add]) ?_
  refine V_istore_0 (pc := 47) dJ6_bitCount_0f7a4_47 ?_
  refine V_iload_0 (pc := 48) dJ6_bitCount_0f7a4_48 ?_
  refine V_bipush (pc := 49) dJ6_bitCount_0f7a4_49 (by decide) ?_
  refine V_iand (pc := 51) dJ6_bitCount_0f7a4_51 (bw_and (((bcC 252645135 (bcB 858993459 (bcA 1431655765 n))) + (bcC 252645135 (bcB 858993459 (bcA 1431655765 n))) / 256) + ((bcC 252645135 (bcB 858993459 (bcA 1431655765 n))) + (bcC 252645135 (bcB 858993459 (bcA 1431655765 n))) / 256) / 65536) 63) ?_
  refine V_iretI (pc := 52) dJ6_bitCount_0f7a4_52 rfl ?_
  exact ⟨_, rfl, by rw [← k0, show (((bcC 252645135 (bcB 858993459 (bcA 1431655765 n))) + (bcC 252645135 (bcB 858993459 (bcA 1431655765 n))) / 256) + ((bcC 252645135 (bcB 858993459 (bcA 1431655765 n))) + (bcC 252645135 (bcB 858993459 (bcA 1431655765 n))) / 256) / 65536) &&& 63 = (((bcC 252645135 (bcB 858993459 (bcA 1431655765 n))) + (bcC 252645135 (bcB 858993459 (bcA 1431655765 n))) / 256) + ((bcC 252645135 (bcB 858993459 (bcA 1431655765 n))) + (bcC 252645135 (bcB 858993459 (bcA 1431655765 n))) / 256) / 65536) % 64 from Nat.and_two_pow_sub_one_eq_mod _ 6], rfl⟩

theorem c_J6_bitCount_0f7a4 {d : Nat} (hd : 0 ≤ d) {σ : MM} {r : Int} (hr : 0 ≤ r ∧ r < 16777216) : V yJ6_bitCount_0f7a4 cJ6_bitCount_0f7a4 1 (some .int) d (QI (fun v σ' => v = POP r ∧ σ' = σ)) 0 [some (vI r)] [] σ := by
  obtain ⟨n, rfl⟩ := Int.eq_ofNat_of_zero_le hr.1
  exact c_bitCount0 hd (by omega)
