/-! THE LAW'S LOOP -/
theorem seven {z : Int} : z = 0 ∨ z = 1 ∨ z = 2 ∨ z = 3 ∨ z = 4 ∨ z = 5 ∨ z = 6 ∨ z = 7 ∨ z = 8 ∨ z = 9 ∨ z = 10 ∨ z = 11 ∨ z = 12 ∨ z = 13 ∨ z = 14 ∨ z = 15 ∨ z = 16 ∨ z = 17 ∨ z = 18 ∨ z = 19 ∨ z = 20 ∨ z = 21 ∨ z = 22 ∨ z = 23 ∨ z = 24 ∨ z = 25 ∨ z = 26 ∨ z = 27 ∨ z = 28 ∨ z = 29 ∨ z = 30 ∨ z = 31 ∨ z = 32 ∨ z = 33 ∨ z = 34 ∨ z = 35 ∨ z = 36 ∨ z = 37 ∨ z = 38 ∨ z = 39 ∨ z = 40 ∨ z = 41 ∨ z = 42 ∨ z = 43 ∨ z = 44 ∨ z = 45 ∨ z = 46 ∨ z = 47 ∨ z = 48 ∨ z = 49 ∨ z = 50 ∨ z = 51 ∨ z = 52 ∨ z = 53 ∨ z = 54 ∨ z = 55 ∨ z = 56 ∨ z = 57 ∨ z = 58 ∨ z = 59 ∨ z = 60 ∨ z = 61 ∨ z = 62 ∨ z = 63 ∨ z = 64 ∨ z = 65 ∨ z = 66 ∨ z = 67 ∨ z = 68 ∨ z = 69 ∨ z = 70 ∨ z = 71 ∨ z = 72 ∨ z = 73 ∨ z = 74 ∨ z = 75 ∨ z = 76 ∨ (z < 0 ∨ 76 < z) := by omega
set_option maxRecDepth 20000 in
set_option maxHeartbeats 4000000 in
theorem law_body {d : Nat} (hd : 57 ≤ d) {σ : MM} {X : CST} {i n : Int} (hn : σ 92 1 0 = n) (hi : 0 ≤ i ∧ i + 6 ≤ n) (hnN : n ≤ 3072) (hs : ∀ z : Int, IR (σ 92 0 z)) (hC : CRl σ X) (hM : MRl σ X) (kk : ∀ (σ' : MM) (X' : CST), CRl σ' X' → MRl σ' X' → σ' 92 = σ 92 → V yL_law cL_law 4 (some .boolean) d LQ 2578 [some (vR 92 0), some (vR 0 0), some (vR 34 0), some (vI i)] [] σ') : V yL_law cL_law 4 (some .boolean) d LQ 18 [some (vR 92 0), some (vR 0 0), some (vR 34 0), some (vI i)] [] σ := by
  have hv7 := M7_in (σ 92 0 i)
  refine V_iload_3 (pc := 18) dL_law_18 ?_
  refine V_aload_0 (pc := 19) dL_law_19 ?_
  refine V_slen (pc := 20) dL_law_20 hn (by omega) ?_
  refine V_bipush (pc := 21) dL_law_21 (by decide) ?_
  refine V_isub (pc := 23) dL_law_23 ?_
  refine V_icmp_gt (pc := 24) 2584 dL_law_24 (by decide) (by omega) (by omega) (fun c_24 => absurd c_24 (by omega)) (fun c_24 => ?_)
  refine V_aload_0 (pc := 27) dL_law_27 ?_
  refine V_iload_3 (pc := 28) dL_law_28 ?_
  refine V_sld (pc := 29) dL_law_29 hn hnN (by omega) rfl ?_
  refine V_bipush (pc := 30) dL_law_30 (by decide) ?_
  refine V_iand (pc := 32) dL_law_32 (M7_e _) ?_
  generalize M7 (σ 92 0 i) = z at hv7 ⊢
  rcases seven (z := z) with h | h | h | h | h | h | h | h | h | h | h | h | h | h | h | h | h | h | h | h | h | h | h | h | h | h | h | h | h | h | h | h | h | h | h | h | h | h | h | h | h | h | h | h | h | h | h | h | h | h | h | h | h | h | h | h | h | h | h | h | h | h | h | h | h | h | h | h | h | h | h | h | h | h | h | h | h | h
  · exact V_tsw_in (pc := 33) (off := 323) 356 dL_law_33 (by decide) hv7 (by omega) (by rw [h]; rfl) (law_0 hd hn hi hnN hs hC hM kk)
  · exact V_tsw_in (pc := 33) (off := 386) 419 dL_law_33 (by decide) hv7 (by omega) (by rw [h]; rfl) (law_1 hd hn hi hnN hs hC hM kk)
  · exact V_tsw_in (pc := 33) (off := 409) 442 dL_law_33 (by decide) hv7 (by omega) (by rw [h]; rfl) (law_2 hd hn hi hnN hs hC hM kk)
  · exact V_tsw_in (pc := 33) (off := 422) 455 dL_law_33 (by decide) hv7 (by omega) (by rw [h]; rfl) (law_3 hd hn hi hnN hs hC hM kk)
  · exact V_tsw_in (pc := 33) (off := 445) 478 dL_law_33 (by decide) hv7 (by omega) (by rw [h]; rfl) (law_4 hd hn hi hnN hs hC hM kk)
  · exact V_tsw_in (pc := 33) (off := 478) 511 dL_law_33 (by decide) hv7 (by omega) (by rw [h]; rfl) (law_5 hd hn hi hnN hs hC hM kk)
  · exact V_tsw_in (pc := 33) (off := 501) 534 dL_law_33 (by decide) hv7 (by omega) (by rw [h]; rfl) (law_6 hd hn hi hnN hs hC hM kk)
  · exact V_tsw_in (pc := 33) (off := 534) 567 dL_law_33 (by decide) hv7 (by omega) (by rw [h]; rfl) (law_7 hd hn hi hnN hs hC hM kk)
  · exact V_tsw_in (pc := 33) (off := 557) 590 dL_law_33 (by decide) hv7 (by omega) (by rw [h]; rfl) (law_8 hd hn hi hnN hs hC hM kk)
  · exact V_tsw_in (pc := 33) (off := 580) 613 dL_law_33 (by decide) hv7 (by omega) (by rw [h]; rfl) (law_9 hd hn hi hnN hs hC hM kk)
  · exact V_tsw_in (pc := 33) (off := 603) 636 dL_law_33 (by decide) hv7 (by omega) (by rw [h]; rfl) (law_10 hd hn hi hnN hs hC hM kk)
  · exact V_tsw_in (pc := 33) (off := 636) 669 dL_law_33 (by decide) hv7 (by omega) (by rw [h]; rfl) (law_11 hd hn hi hnN hs hC hM kk)
  · exact V_tsw_in (pc := 33) (off := 659) 692 dL_law_33 (by decide) hv7 (by omega) (by rw [h]; rfl) (law_12 hd hn hi hnN hs hC hM kk)
  · exact V_tsw_in (pc := 33) (off := 682) 715 dL_law_33 (by decide) hv7 (by omega) (by rw [h]; rfl) (law_13 hd hn hi hnN hs hC hM kk)
  · exact V_tsw_in (pc := 33) (off := 705) 738 dL_law_33 (by decide) hv7 (by omega) (by rw [h]; rfl) (law_14 hd hn hi hnN hs hC hM kk)
  · exact V_tsw_in (pc := 33) (off := 728) 761 dL_law_33 (by decide) hv7 (by omega) (by rw [h]; rfl) (law_15 hd hn hi hnN hs hC hM kk)
  · exact V_tsw_in (pc := 33) (off := 751) 784 dL_law_33 (by decide) hv7 (by omega) (by rw [h]; rfl) (law_16 hd hn hi hnN hs hC hM kk)
  · exact V_tsw_in (pc := 33) (off := 774) 807 dL_law_33 (by decide) hv7 (by omega) (by rw [h]; rfl) (law_17 hd hn hi hnN hs hC hM kk)
  · exact V_tsw_in (pc := 33) (off := 797) 830 dL_law_33 (by decide) hv7 (by omega) (by rw [h]; rfl) (law_18 hd hn hi hnN hs hC hM kk)
  · exact V_tsw_in (pc := 33) (off := 820) 853 dL_law_33 (by decide) hv7 (by omega) (by rw [h]; rfl) (law_19 hd hn hi hnN hs hC hM kk)
  · exact V_tsw_in (pc := 33) (off := 843) 876 dL_law_33 (by decide) hv7 (by omega) (by rw [h]; rfl) (law_20 hd hn hi hnN hs hC hM kk)
  · exact V_tsw_in (pc := 33) (off := 866) 899 dL_law_33 (by decide) hv7 (by omega) (by rw [h]; rfl) (law_21 hd hn hi hnN hs hC hM kk)
  · exact V_tsw_in (pc := 33) (off := 889) 922 dL_law_33 (by decide) hv7 (by omega) (by rw [h]; rfl) (law_22 hd hn hi hnN hs hC hM kk)
  · exact V_tsw_in (pc := 33) (off := 922) 955 dL_law_33 (by decide) hv7 (by omega) (by rw [h]; rfl) (law_23 hd hn hi hnN hs hC hM kk)
  · exact V_tsw_in (pc := 33) (off := 955) 988 dL_law_33 (by decide) hv7 (by omega) (by rw [h]; rfl) (law_24 hd hn hi hnN hs hC hM kk)
  · exact V_tsw_in (pc := 33) (off := 968) 1001 dL_law_33 (by decide) hv7 (by omega) (by rw [h]; rfl) (law_25 hd hn hi hnN hs hC hM kk)
  · exact V_tsw_in (pc := 33) (off := 981) 1014 dL_law_33 (by decide) hv7 (by omega) (by rw [h]; rfl) (law_26 hd hn hi hnN hs hC hM kk)
  · exact V_tsw_in (pc := 33) (off := 1014) 1047 dL_law_33 (by decide) hv7 (by omega) (by rw [h]; rfl) (law_27 hd hn hi hnN hs hC hM kk)
  · exact V_tsw_in (pc := 33) (off := 1037) 1070 dL_law_33 (by decide) hv7 (by omega) (by rw [h]; rfl) (law_28 hd hn hi hnN hs hC hM kk)
  · exact V_tsw_in (pc := 33) (off := 1060) 1093 dL_law_33 (by decide) hv7 (by omega) (by rw [h]; rfl) (law_29 hd hn hi hnN hs hC hM kk)
  · exact V_tsw_in (pc := 33) (off := 1113) 1146 dL_law_33 (by decide) hv7 (by omega) (by rw [h]; rfl) (law_30 hd hn hi hnN hs hC hM kk)
  · exact V_tsw_in (pc := 33) (off := 1146) 1179 dL_law_33 (by decide) hv7 (by omega) (by rw [h]; rfl) (law_31 hd hn hi hnN hs hC hM kk)
  · exact V_tsw_in (pc := 33) (off := 1179) 1212 dL_law_33 (by decide) hv7 (by omega) (by rw [h]; rfl) (law_32 hd hn hi hnN hs hC hM kk)
  · exact V_tsw_in (pc := 33) (off := 1212) 1245 dL_law_33 (by decide) hv7 (by omega) (by rw [h]; rfl) (law_33 hd hn hi hnN hs hC hM kk)
  · exact V_tsw_in (pc := 33) (off := 1245) 1278 dL_law_33 (by decide) hv7 (by omega) (by rw [h]; rfl) (law_34 hd hn hi hnN hs hC hM kk)
  · exact V_tsw_in (pc := 33) (off := 1278) 1311 dL_law_33 (by decide) hv7 (by omega) (by rw [h]; rfl) (law_35 hd hn hi hnN hs hC hM kk)
  · exact V_tsw_in (pc := 33) (off := 1311) 1344 dL_law_33 (by decide) hv7 (by omega) (by rw [h]; rfl) (law_36 hd hn hi hnN hs hC hM kk)
  · exact V_tsw_in (pc := 33) (off := 1334) 1367 dL_law_33 (by decide) hv7 (by omega) (by rw [h]; rfl) (law_37 hd hn hi hnN hs hC hM kk)
  · exact V_tsw_in (pc := 33) (off := 1357) 1390 dL_law_33 (by decide) hv7 (by omega) (by rw [h]; rfl) (law_38 hd hn hi hnN hs hC hM kk)
  · exact V_tsw_in (pc := 33) (off := 1370) 1403 dL_law_33 (by decide) hv7 (by omega) (by rw [h]; rfl) (law_39 hd hn hi hnN hs hC hM kk)
  · exact V_tsw_in (pc := 33) (off := 1403) 1436 dL_law_33 (by decide) hv7 (by omega) (by rw [h]; rfl) (law_40 hd hn hi hnN hs hC hM kk)
  · exact V_tsw_in (pc := 33) (off := 1436) 1469 dL_law_33 (by decide) hv7 (by omega) (by rw [h]; rfl) (law_41 hd hn hi hnN hs hC hM kk)
  · exact V_tsw_in (pc := 33) (off := 1459) 1492 dL_law_33 (by decide) hv7 (by omega) (by rw [h]; rfl) (law_42 hd hn hi hnN hs hC hM kk)
  · exact V_tsw_in (pc := 33) (off := 1482) 1515 dL_law_33 (by decide) hv7 (by omega) (by rw [h]; rfl) (law_43 hd hn hi hnN hs hC hM kk)
  · exact V_tsw_in (pc := 33) (off := 1505) 1538 dL_law_33 (by decide) hv7 (by omega) (by rw [h]; rfl) (law_44 hd hn hi hnN hs hC hM kk)
  · exact V_tsw_in (pc := 33) (off := 1528) 1561 dL_law_33 (by decide) hv7 (by omega) (by rw [h]; rfl) (law_45 hd hn hi hnN hs hC hM kk)
  · exact V_tsw_in (pc := 33) (off := 1551) 1584 dL_law_33 (by decide) hv7 (by omega) (by rw [h]; rfl) (law_46 hd hn hi hnN hs hC hM kk)
  · exact V_tsw_in (pc := 33) (off := 1574) 1607 dL_law_33 (by decide) hv7 (by omega) (by rw [h]; rfl) (law_47 hd hn hi hnN hs hC hM kk)
  · exact V_tsw_in (pc := 33) (off := 1607) 1640 dL_law_33 (by decide) hv7 (by omega) (by rw [h]; rfl) (law_48 hd hn hi hnN hs hC hM kk)
  · exact V_tsw_in (pc := 33) (off := 1630) 1663 dL_law_33 (by decide) hv7 (by omega) (by rw [h]; rfl) (law_49 hd hn hi hnN hs hC hM kk)
  · exact V_tsw_in (pc := 33) (off := 1643) 1676 dL_law_33 (by decide) hv7 (by omega) (by rw [h]; rfl) (law_50 hd hn hi hnN hs hC hM kk)
  · exact V_tsw_in (pc := 33) (off := 1666) 1699 dL_law_33 (by decide) hv7 (by omega) (by rw [h]; rfl) (law_51 hd hn hi hnN hs hC hM kk)
  · exact V_tsw_in (pc := 33) (off := 1689) 1722 dL_law_33 (by decide) hv7 (by omega) (by rw [h]; rfl) (law_52 hd hn hi hnN hs hC hM kk)
  · exact V_tsw_in (pc := 33) (off := 1722) 1755 dL_law_33 (by decide) hv7 (by omega) (by rw [h]; rfl) (law_53 hd hn hi hnN hs hC hM kk)
  · exact V_tsw_in (pc := 33) (off := 1755) 1788 dL_law_33 (by decide) hv7 (by omega) (by rw [h]; rfl) (law_54 hd hn hi hnN hs hC hM kk)
  · exact V_tsw_in (pc := 33) (off := 1788) 1821 dL_law_33 (by decide) hv7 (by omega) (by rw [h]; rfl) (law_55 hd hn hi hnN hs hC hM kk)
  · exact V_tsw_in (pc := 33) (off := 1821) 1854 dL_law_33 (by decide) hv7 (by omega) (by rw [h]; rfl) (law_56 hd hn hi hnN hs hC hM kk)
  · exact V_tsw_in (pc := 33) (off := 1844) 1877 dL_law_33 (by decide) hv7 (by omega) (by rw [h]; rfl) (law_57 hd hn hi hnN hs hC hM kk)
  · exact V_tsw_in (pc := 33) (off := 1857) 1890 dL_law_33 (by decide) hv7 (by omega) (by rw [h]; rfl) (law_58 hd hn hi hnN hs hC hM kk)
  · exact V_tsw_in (pc := 33) (off := 1880) 1913 dL_law_33 (by decide) hv7 (by omega) (by rw [h]; rfl) (law_59 hd hn hi hnN hs hC hM kk)
  · exact V_tsw_in (pc := 33) (off := 1913) 1946 dL_law_33 (by decide) hv7 (by omega) (by rw [h]; rfl) (law_60 hd hn hi hnN hs hC hM kk)
  · exact V_tsw_in (pc := 33) (off := 1946) 1979 dL_law_33 (by decide) hv7 (by omega) (by rw [h]; rfl) (law_61 hd hn hi hnN hs hC hM kk)
  · exact V_tsw_in (pc := 33) (off := 1999) 2032 dL_law_33 (by decide) hv7 (by omega) (by rw [h]; rfl) (law_62 hd hn hi hnN hs hC hM kk)
  · exact V_tsw_in (pc := 33) (off := 2052) 2085 dL_law_33 (by decide) hv7 (by omega) (by rw [h]; rfl) (law_63 hd hn hi hnN hs hC hM kk)
  · exact V_tsw_in (pc := 33) (off := 2086) 2119 dL_law_33 (by decide) hv7 (by omega) (by rw [h]; rfl) (law_64 hd hn hi hnN hs hC hM kk)
  · exact V_tsw_in (pc := 33) (off := 2129) 2162 dL_law_33 (by decide) hv7 (by omega) (by rw [h]; rfl) (law_65 hd hn hi hnN hs hC hM kk)
  · exact V_tsw_in (pc := 33) (off := 2162) 2195 dL_law_33 (by decide) hv7 (by omega) (by rw [h]; rfl) (law_66 hd hn hi hnN hs hC hM kk)
  · exact V_tsw_in (pc := 33) (off := 2175) 2208 dL_law_33 (by decide) hv7 (by omega) (by rw [h]; rfl) (law_67 hd hn hi hnN hs hC hM kk)
  · exact V_tsw_in (pc := 33) (off := 2188) 2221 dL_law_33 (by decide) hv7 (by omega) (by rw [h]; rfl) (law_68 hd hn hi hnN hs hC hM kk)
  · exact V_tsw_in (pc := 33) (off := 2221) 2254 dL_law_33 (by decide) hv7 (by omega) (by rw [h]; rfl) (law_69 hd hn hi hnN hs hC hM kk)
  · exact V_tsw_in (pc := 33) (off := 2264) 2297 dL_law_33 (by decide) hv7 (by omega) (by rw [h]; rfl) (law_70 hd hn hi hnN hs hC hM kk)
  · exact V_tsw_in (pc := 33) (off := 2297) 2330 dL_law_33 (by decide) hv7 (by omega) (by rw [h]; rfl) (law_71 hd hn hi hnN hs hC hM kk)
  · exact V_tsw_in (pc := 33) (off := 2320) 2353 dL_law_33 (by decide) hv7 (by omega) (by rw [h]; rfl) (law_72 hd hn hi hnN hs hC hM kk)
  · exact V_tsw_in (pc := 33) (off := 2343) 2376 dL_law_33 (by decide) hv7 (by omega) (by rw [h]; rfl) (law_73 hd hn hi hnN hs hC hM kk)
  · exact V_tsw_in (pc := 33) (off := 2366) 2399 dL_law_33 (by decide) hv7 (by omega) (by rw [h]; rfl) (law_74 hd hn hi hnN hs hC hM kk)
  · exact V_tsw_in (pc := 33) (off := 2409) 2442 dL_law_33 (by decide) hv7 (by omega) (by rw [h]; rfl) (law_75 hd hn hi hnN hs hC hM kk)
  · exact V_tsw_in (pc := 33) (off := 2482) 2515 dL_law_33 (by decide) hv7 (by omega) (by rw [h]; rfl) (law_76 hd hn hi hnN hs hC hM kk)
  · exact V_tsw_out (pc := 33) 2578 dL_law_33 (by decide) hv7 h (kk _ _ hC hM rfl)
set_option maxRecDepth 20000 in
set_option maxHeartbeats 1000000 in
theorem law_loop {d : Nat} (hd : 57 ≤ d) {n : Int} (hn0 : 0 ≤ n ∧ n ≤ 3072) : ∀ (m : Nat) (i : Int) (σ : MM) (X : CST), 0 ≤ i → n + 6 ≤ i + m → i ≤ n + 5 → σ 92 1 0 = n → (∀ z : Int, IR (σ 92 0 z)) → CRl σ X → MRl σ X → V yL_law cL_law 4 (some .boolean) d LQ 18 [some (vR 92 0), some (vR 0 0), some (vR 34 0), some (vI i)] [] σ := by
  intro m
  induction m with
  | zero => intro i σ X h1 h2 h3; omega
  | succ m ih =>
    intro i σ X h1 h2 h3 hn hs hC hM
    by_cases c : i + 6 ≤ n
    · refine law_body hd hn ⟨h1, c⟩ hn0.2 hs hC hM (fun σ' X' hC' hM' h92 => ?_)
      refine V_iinc_3 (pc := 2578) dL_law_2578 ?_
      refine V_goto (pc := 2581) 18 dL_law_2581 (by decide) ?_
      exact ih (i + 6) σ' X' (by omega) (by omega) (by omega) (by rw [h92]; exact hn) (by rw [h92]; exact hs) hC' hM'
    · refine V_iload_3 (pc := 18) dL_law_18 ?_
      refine V_aload_0 (pc := 19) dL_law_19 ?_
      refine V_slen (pc := 20) dL_law_20 hn (by omega) ?_
      refine V_bipush (pc := 21) dL_law_21 (by decide) ?_
      refine V_isub (pc := 23) dL_law_23 ?_
      refine V_icmp_gt (pc := 24) 2584 dL_law_24 (by decide) (by omega) (by omega) (fun c_24 => ?_) (fun c_24 => absurd c_24 (by omega))
      refine V_iconst (pc := 2584) dL_law_2584 ?_
      refine V_iretZ (pc := 2585) dL_law_2585 rfl (by omega) ?_
      exact ⟨_, rfl, rfl⟩
