set_option maxRecDepth 20000 in
set_option maxHeartbeats 1000000 in
theorem law_52 {d : Nat} (hd : 57 ≤ d) {σ : MM} {X : CST} {i n : Int} (hn : σ 92 1 0 = n) (hi : 0 ≤ i ∧ i + 6 ≤ n) (hnN : n ≤ 3072) (hs : ∀ z : Int, IR (σ 92 0 z)) (hC : CRl σ X) (hM : MRl σ X) (kk : ∀ (σ' : MM) (X' : CST), CRl σ' X' → MRl σ' X' → σ' 92 = σ 92 → V yL_law cL_law 4 (some .boolean) d LQ 2578 [some (vR 92 0), some (vR 0 0), some (vR 34 0), some (vI i)] [] σ') : V yL_law cL_law 4 (some .boolean) d LQ 1722 [some (vR 92 0), some (vR 0 0), some (vR 34 0), some (vI i)] [] σ := by
  refine V_aload_1 (pc := 1722) dL_law_1722 ?_
  refine V_aload_0 (pc := 1723) dL_law_1723 ?_
  refine V_iload_3 (pc := 1724) dL_law_1724 ?_
  refine V_iconst (pc := 1725) dL_law_1725 ?_
  refine V_iadd (pc := 1726) dL_law_1726 ?_
  refine V_sld (pc := 1727) dL_law_1727 hn hnN (by omega) (v := σ 92 0 (i + 1)) rfl ?_
  refine V_aload_0 (pc := 1728) dL_law_1728 ?_
  refine V_iload_3 (pc := 1729) dL_law_1729 ?_
  refine V_iconst (pc := 1730) dL_law_1730 ?_
  refine V_iadd (pc := 1731) dL_law_1731 ?_
  refine V_sld (pc := 1732) dL_law_1732 hn hnN (by omega) (v := σ 92 0 (i + 2)) rfl ?_
  refine V_callV2i (pc := 1733) dL_law_1733 kv_L_226 rc_0 (by omega) (d - 1) (by omega) rfl (V.sci (c_X5_match (by omega) hC.b hC.w hC.c (hs _) (hs _))) (fun v1 σ1 h1 => ?_)
  have h92 := h1.2
  have hC1 : CRl σ1 X := by rw [h1.1.2]; exact hC
  have hM1 : MRl σ1 X := by rw [h1.1.2]; exact hM
  have hO1 := hC.ok
  have hG1 := hC.g
  refine V_aload_2 (pc := 1736) dL_law_1736 ?_
  refine V_aload_0 (pc := 1737) dL_law_1737 ?_
  refine V_iload_3 (pc := 1738) dL_law_1738 ?_
  refine V_iconst (pc := 1739) dL_law_1739 ?_
  refine V_iadd (pc := 1740) dL_law_1740 ?_
  refine V_sld (pc := 1741) dL_law_1741 (by rw [h92]; exact hn) hnN (by omega) (v := σ 92 0 (i + 1)) (by rw [h92]) ?_
  refine V_aload_0 (pc := 1742) dL_law_1742 ?_
  refine V_iload_3 (pc := 1743) dL_law_1743 ?_
  refine V_iconst (pc := 1744) dL_law_1744 ?_
  refine V_iadd (pc := 1745) dL_law_1745 ?_
  refine V_sld (pc := 1746) dL_law_1746 (by rw [h92]; exact hn) hnN (by omega) (v := σ 92 0 (i + 2)) (by rw [h92]) ?_
  refine V_callV2i (pc := 1747) dL_law_1747 kv_L_229 rc_34 (by omega) (d - 1) (by omega) rfl (V.sci (c_X6_match (by omega) hM1.1 hG1 (hs _) (hs _))) (fun v2 σ2 h2 => ?_)
  have hC2 := h2.1.2.fm.crl hC1
  have hM2 := h2.1.2.mrl hM1
  have h93 : σ2 92 = σ 92 := h2.2.trans h92
  refine V_icmp_same (pc := 1750) 2578 dL_law_1750 (by decide) (h1.1.1.trans h2.1.1.symm) ?_
  exact kk _ _ hC2 hM2 h93

set_option maxRecDepth 20000 in
set_option maxHeartbeats 1000000 in
theorem law_53 {d : Nat} (hd : 57 ≤ d) {σ : MM} {X : CST} {i n : Int} (hn : σ 92 1 0 = n) (hi : 0 ≤ i ∧ i + 6 ≤ n) (hnN : n ≤ 3072) (hs : ∀ z : Int, IR (σ 92 0 z)) (hC : CRl σ X) (hM : MRl σ X) (kk : ∀ (σ' : MM) (X' : CST), CRl σ' X' → MRl σ' X' → σ' 92 = σ 92 → V yL_law cL_law 4 (some .boolean) d LQ 2578 [some (vR 92 0), some (vR 0 0), some (vR 34 0), some (vI i)] [] σ') : V yL_law cL_law 4 (some .boolean) d LQ 1755 [some (vR 92 0), some (vR 0 0), some (vR 34 0), some (vI i)] [] σ := by
  refine V_aload_1 (pc := 1755) dL_law_1755 ?_
  refine V_aload_0 (pc := 1756) dL_law_1756 ?_
  refine V_iload_3 (pc := 1757) dL_law_1757 ?_
  refine V_iconst (pc := 1758) dL_law_1758 ?_
  refine V_iadd (pc := 1759) dL_law_1759 ?_
  refine V_sld (pc := 1760) dL_law_1760 hn hnN (by omega) (v := σ 92 0 (i + 1)) rfl ?_
  refine V_aload_0 (pc := 1761) dL_law_1761 ?_
  refine V_iload_3 (pc := 1762) dL_law_1762 ?_
  refine V_iconst (pc := 1763) dL_law_1763 ?_
  refine V_iadd (pc := 1764) dL_law_1764 ?_
  refine V_sld (pc := 1765) dL_law_1765 hn hnN (by omega) (v := σ 92 0 (i + 2)) rfl ?_
  refine V_callV2i (pc := 1766) dL_law_1766 kv_L_230 rc_0 (by omega) (d - 1) (by omega) rfl (V.sci (c_X5_later (by omega) hC.b hC.g (hs _) (hs _))) (fun v1 σ1 h1 => ?_)
  have h92 := h1.2
  have hC1 := h1.1.2.crl hC
  have hM1 := h1.1.2.fc.mrl hM
  have hO1 := hC.ok
  have hG1 := hC.g
  refine V_aload_2 (pc := 1769) dL_law_1769 ?_
  refine V_aload_0 (pc := 1770) dL_law_1770 ?_
  refine V_iload_3 (pc := 1771) dL_law_1771 ?_
  refine V_iconst (pc := 1772) dL_law_1772 ?_
  refine V_iadd (pc := 1773) dL_law_1773 ?_
  refine V_sld (pc := 1774) dL_law_1774 (by rw [h92]; exact hn) hnN (by omega) (v := σ 92 0 (i + 1)) (by rw [h92]) ?_
  refine V_aload_0 (pc := 1775) dL_law_1775 ?_
  refine V_iload_3 (pc := 1776) dL_law_1776 ?_
  refine V_iconst (pc := 1777) dL_law_1777 ?_
  refine V_iadd (pc := 1778) dL_law_1778 ?_
  refine V_sld (pc := 1779) dL_law_1779 (by rw [h92]; exact hn) hnN (by omega) (v := σ 92 0 (i + 2)) (by rw [h92]) ?_
  refine V_callV2i (pc := 1780) dL_law_1780 kv_L_233 rc_34 (by omega) (d - 1) (by omega) rfl (V.sci (c_X6_later (by omega) hM1.1 hG1 (hs _) (hs _))) (fun v2 σ2 h2 => ?_)
  have hC2 := h2.1.2.fm.crl hC1
  have hM2 := h2.1.2.mrl hM1
  have h93 : σ2 92 = σ 92 := h2.2.trans h92
  refine V_icmp_same (pc := 1783) 2578 dL_law_1783 (by decide) (h1.1.1.trans h2.1.1.symm) ?_
  exact kk _ _ hC2 hM2 h93

set_option maxRecDepth 20000 in
set_option maxHeartbeats 1000000 in
theorem law_54 {d : Nat} (hd : 57 ≤ d) {σ : MM} {X : CST} {i n : Int} (hn : σ 92 1 0 = n) (hi : 0 ≤ i ∧ i + 6 ≤ n) (hnN : n ≤ 3072) (hs : ∀ z : Int, IR (σ 92 0 z)) (hC : CRl σ X) (hM : MRl σ X) (kk : ∀ (σ' : MM) (X' : CST), CRl σ' X' → MRl σ' X' → σ' 92 = σ 92 → V yL_law cL_law 4 (some .boolean) d LQ 2578 [some (vR 92 0), some (vR 0 0), some (vR 34 0), some (vI i)] [] σ') : V yL_law cL_law 4 (some .boolean) d LQ 1788 [some (vR 92 0), some (vR 0 0), some (vR 34 0), some (vI i)] [] σ := by
  refine V_aload_1 (pc := 1788) dL_law_1788 ?_
  refine V_aload_0 (pc := 1789) dL_law_1789 ?_
  refine V_iload_3 (pc := 1790) dL_law_1790 ?_
  refine V_iconst (pc := 1791) dL_law_1791 ?_
  refine V_iadd (pc := 1792) dL_law_1792 ?_
  refine V_sld (pc := 1793) dL_law_1793 hn hnN (by omega) (v := σ 92 0 (i + 1)) rfl ?_
  refine V_aload_0 (pc := 1794) dL_law_1794 ?_
  refine V_iload_3 (pc := 1795) dL_law_1795 ?_
  refine V_iconst (pc := 1796) dL_law_1796 ?_
  refine V_iadd (pc := 1797) dL_law_1797 ?_
  refine V_sld (pc := 1798) dL_law_1798 hn hnN (by omega) (v := σ 92 0 (i + 2)) rfl ?_
  refine V_callV2i (pc := 1799) dL_law_1799 kv_L_234 rc_0 (by omega) (d - 1) (by omega) rfl (V.sci (c_X5_other (by omega) hC.b hC.g (hs _) (hs _))) (fun v1 σ1 h1 => ?_)
  have h92 := h1.2
  have hC1 := h1.1.2.crl hC
  have hM1 := h1.1.2.fc.mrl hM
  have hO1 := hC.ok
  have hG1 := hC.g
  refine V_aload_2 (pc := 1802) dL_law_1802 ?_
  refine V_aload_0 (pc := 1803) dL_law_1803 ?_
  refine V_iload_3 (pc := 1804) dL_law_1804 ?_
  refine V_iconst (pc := 1805) dL_law_1805 ?_
  refine V_iadd (pc := 1806) dL_law_1806 ?_
  refine V_sld (pc := 1807) dL_law_1807 (by rw [h92]; exact hn) hnN (by omega) (v := σ 92 0 (i + 1)) (by rw [h92]) ?_
  refine V_aload_0 (pc := 1808) dL_law_1808 ?_
  refine V_iload_3 (pc := 1809) dL_law_1809 ?_
  refine V_iconst (pc := 1810) dL_law_1810 ?_
  refine V_iadd (pc := 1811) dL_law_1811 ?_
  refine V_sld (pc := 1812) dL_law_1812 (by rw [h92]; exact hn) hnN (by omega) (v := σ 92 0 (i + 2)) (by rw [h92]) ?_
  refine V_callV2i (pc := 1813) dL_law_1813 kv_L_237 rc_34 (by omega) (d - 1) (by omega) rfl (V.sci (c_X6_other (by omega) hM1.1 hG1 (hs _) (hs _))) (fun v2 σ2 h2 => ?_)
  have hC2 := h2.1.2.fm.crl hC1
  have hM2 := h2.1.2.mrl hM1
  have h93 : σ2 92 = σ 92 := h2.2.trans h92
  refine V_icmp_same (pc := 1816) 2578 dL_law_1816 (by decide) (h1.1.1.trans h2.1.1.symm) ?_
  exact kk _ _ hC2 hM2 h93

set_option maxRecDepth 20000 in
set_option maxHeartbeats 1000000 in
theorem law_55 {d : Nat} (hd : 57 ≤ d) {σ : MM} {X : CST} {i n : Int} (hn : σ 92 1 0 = n) (hi : 0 ≤ i ∧ i + 6 ≤ n) (hnN : n ≤ 3072) (hs : ∀ z : Int, IR (σ 92 0 z)) (hC : CRl σ X) (hM : MRl σ X) (kk : ∀ (σ' : MM) (X' : CST), CRl σ' X' → MRl σ' X' → σ' 92 = σ 92 → V yL_law cL_law 4 (some .boolean) d LQ 2578 [some (vR 92 0), some (vR 0 0), some (vR 34 0), some (vI i)] [] σ') : V yL_law cL_law 4 (some .boolean) d LQ 1821 [some (vR 92 0), some (vR 0 0), some (vR 34 0), some (vI i)] [] σ := by
  refine V_aload_1 (pc := 1821) dL_law_1821 ?_
  refine V_aload_0 (pc := 1822) dL_law_1822 ?_
  refine V_iload_3 (pc := 1823) dL_law_1823 ?_
  refine V_iconst (pc := 1824) dL_law_1824 ?_
  refine V_iadd (pc := 1825) dL_law_1825 ?_
  refine V_sld (pc := 1826) dL_law_1826 hn hnN (by omega) (v := σ 92 0 (i + 1)) rfl ?_
  refine V_aload_0 (pc := 1827) dL_law_1827 ?_
  refine V_iload_3 (pc := 1828) dL_law_1828 ?_
  refine V_iconst (pc := 1829) dL_law_1829 ?_
  refine V_iadd (pc := 1830) dL_law_1830 ?_
  refine V_sld (pc := 1831) dL_law_1831 hn hnN (by omega) (v := σ 92 0 (i + 2)) rfl ?_
  refine V_callV2i (pc := 1832) dL_law_1832 kv_L_238 rc_0 (by omega) (d - 1) (by omega) rfl (V.sci (c_X5_hide (by omega) hC.b hC.g (hs _) (hs _))) (fun v1 σ1 h1 => ?_)
  have h92 := h1.2
  have hC1 := h1.1.2.crl hC
  have hM1 := h1.1.2.fc.mrl hM
  have hO1 := hC.ok
  have hG1 := hC.g
  refine V_aload_2 (pc := 1835) dL_law_1835 ?_
  refine V_aload_0 (pc := 1836) dL_law_1836 ?_
  refine V_iload_3 (pc := 1837) dL_law_1837 ?_
  refine V_iconst (pc := 1838) dL_law_1838 ?_
  refine V_iadd (pc := 1839) dL_law_1839 ?_
  refine V_sld (pc := 1840) dL_law_1840 (by rw [h92]; exact hn) hnN (by omega) (v := σ 92 0 (i + 1)) (by rw [h92]) ?_
  refine V_aload_0 (pc := 1841) dL_law_1841 ?_
  refine V_iload_3 (pc := 1842) dL_law_1842 ?_
  refine V_iconst (pc := 1843) dL_law_1843 ?_
  refine V_iadd (pc := 1844) dL_law_1844 ?_
  refine V_sld (pc := 1845) dL_law_1845 (by rw [h92]; exact hn) hnN (by omega) (v := σ 92 0 (i + 2)) (by rw [h92]) ?_
  refine V_callV2i (pc := 1846) dL_law_1846 kv_L_241 rc_34 (by omega) (d - 1) (by omega) rfl (V.sci (c_X6_hide (by omega) hM1.1 hG1 (hs _) (hs _))) (fun v2 σ2 h2 => ?_)
  have hC2 := h2.1.2.fm.crl hC1
  have hM2 := h2.1.2.mrl hM1
  have h93 : σ2 92 = σ 92 := h2.2.trans h92
  refine V_icmp_same (pc := 1849) 2578 dL_law_1849 (by decide) (h1.1.1.trans h2.1.1.symm) ?_
  exact kk _ _ hC2 hM2 h93

set_option maxRecDepth 20000 in
set_option maxHeartbeats 1000000 in
theorem law_56 {d : Nat} (hd : 57 ≤ d) {σ : MM} {X : CST} {i n : Int} (hn : σ 92 1 0 = n) (hi : 0 ≤ i ∧ i + 6 ≤ n) (hnN : n ≤ 3072) (hs : ∀ z : Int, IR (σ 92 0 z)) (hC : CRl σ X) (hM : MRl σ X) (kk : ∀ (σ' : MM) (X' : CST), CRl σ' X' → MRl σ' X' → σ' 92 = σ 92 → V yL_law cL_law 4 (some .boolean) d LQ 2578 [some (vR 92 0), some (vR 0 0), some (vR 34 0), some (vI i)] [] σ') : V yL_law cL_law 4 (some .boolean) d LQ 1854 [some (vR 92 0), some (vR 0 0), some (vR 34 0), some (vI i)] [] σ := by
  refine V_aload_1 (pc := 1854) dL_law_1854 ?_
  refine V_aload_0 (pc := 1855) dL_law_1855 ?_
  refine V_iload_3 (pc := 1856) dL_law_1856 ?_
  refine V_iconst (pc := 1857) dL_law_1857 ?_
  refine V_iadd (pc := 1858) dL_law_1858 ?_
  refine V_sld (pc := 1859) dL_law_1859 hn hnN (by omega) (v := σ 92 0 (i + 1)) rfl ?_
  refine V_callV1i (pc := 1860) dL_law_1860 kv_L_242 rc_0 (by omega) (d - 1) (by omega) rfl (V.sci (c_X5_save (by omega) hC.b hC.g (hs _))) (fun v1 σ1 h1 => ?_)
  have h92 := h1.2
  have hC1 := h1.1.2.crl hC
  have hM1 := h1.1.2.fc.mrl hM
  have hO1 := hC.ok
  have hG1 := hC.g
  refine V_aload_2 (pc := 1863) dL_law_1863 ?_
  refine V_aload_0 (pc := 1864) dL_law_1864 ?_
  refine V_iload_3 (pc := 1865) dL_law_1865 ?_
  refine V_iconst (pc := 1866) dL_law_1866 ?_
  refine V_iadd (pc := 1867) dL_law_1867 ?_
  refine V_sld (pc := 1868) dL_law_1868 (by rw [h92]; exact hn) hnN (by omega) (v := σ 92 0 (i + 1)) (by rw [h92]) ?_
  refine V_callV1i (pc := 1869) dL_law_1869 kv_L_245 rc_34 (by omega) (d - 1) (by omega) rfl (V.sci (c_X6_save (by omega) hM1.1 hG1 (hs _))) (fun v2 σ2 h2 => ?_)
  have hC2 := h2.1.2.fm.crl hC1
  have hM2 := h2.1.2.mrl hM1
  have h93 : σ2 92 = σ 92 := h2.2.trans h92
  refine V_icmp_same (pc := 1872) 2578 dL_law_1872 (by decide) (h1.1.1.trans h2.1.1.symm) ?_
  exact kk _ _ hC2 hM2 h93

set_option maxRecDepth 20000 in
set_option maxHeartbeats 1000000 in
theorem law_57 {d : Nat} (hd : 57 ≤ d) {σ : MM} {X : CST} {i n : Int} (hn : σ 92 1 0 = n) (hi : 0 ≤ i ∧ i + 6 ≤ n) (hnN : n ≤ 3072) (hs : ∀ z : Int, IR (σ 92 0 z)) (hC : CRl σ X) (hM : MRl σ X) (kk : ∀ (σ' : MM) (X' : CST), CRl σ' X' → MRl σ' X' → σ' 92 = σ 92 → V yL_law cL_law 4 (some .boolean) d LQ 2578 [some (vR 92 0), some (vR 0 0), some (vR 34 0), some (vI i)] [] σ') : V yL_law cL_law 4 (some .boolean) d LQ 1877 [some (vR 92 0), some (vR 0 0), some (vR 34 0), some (vI i)] [] σ := by
  refine V_aload_1 (pc := 1877) dL_law_1877 ?_
  refine V_callV0i (pc := 1878) dL_law_1878 kv_L_246 rc_0 (by omega) (d - 1) (by omega) rfl (V.sci (c_X5_heavy (by omega) hC.b hC.g hC.c)) (fun v1 σ1 h1 => ?_)
  have h92 := h1.2
  have hC1 := h1.1.2.crl hC
  have hM1 := h1.1.2.fc.mrl hM
  have hO1 := hC.ok
  have hG1 := hC.g
  refine V_aload_2 (pc := 1881) dL_law_1881 ?_
  refine V_callV0i (pc := 1882) dL_law_1882 kv_L_249 rc_34 (by omega) (d - 1) (by omega) rfl (V.sci (c_X6_heavy (by omega) hM1.1 hG1)) (fun v2 σ2 h2 => ?_)
  have hC2 := h2.1.2.fm.crl hC1
  have hM2 := h2.1.2.mrl hM1
  have h93 : σ2 92 = σ 92 := h2.2.trans h92
  refine V_icmp_same (pc := 1885) 2578 dL_law_1885 (by decide) (h1.1.1.trans h2.1.1.symm) ?_
  exact kk _ _ hC2 hM2 h93

set_option maxRecDepth 20000 in
set_option maxHeartbeats 1000000 in
theorem law_58 {d : Nat} (hd : 57 ≤ d) {σ : MM} {X : CST} {i n : Int} (hn : σ 92 1 0 = n) (hi : 0 ≤ i ∧ i + 6 ≤ n) (hnN : n ≤ 3072) (hs : ∀ z : Int, IR (σ 92 0 z)) (hC : CRl σ X) (hM : MRl σ X) (kk : ∀ (σ' : MM) (X' : CST), CRl σ' X' → MRl σ' X' → σ' 92 = σ 92 → V yL_law cL_law 4 (some .boolean) d LQ 2578 [some (vR 92 0), some (vR 0 0), some (vR 34 0), some (vI i)] [] σ') : V yL_law cL_law 4 (some .boolean) d LQ 1890 [some (vR 92 0), some (vR 0 0), some (vR 34 0), some (vI i)] [] σ := by
  refine V_aload_1 (pc := 1890) dL_law_1890 ?_
  refine V_aload_0 (pc := 1891) dL_law_1891 ?_
  refine V_iload_3 (pc := 1892) dL_law_1892 ?_
  refine V_iconst (pc := 1893) dL_law_1893 ?_
  refine V_iadd (pc := 1894) dL_law_1894 ?_
  refine V_sld (pc := 1895) dL_law_1895 hn hnN (by omega) (v := σ 92 0 (i + 1)) rfl ?_
  refine V_callV1i (pc := 1896) dL_law_1896 kv_L_250 rc_0 (by omega) (d - 1) (by omega) rfl (V.sci (c_X5_worth (by omega) hC.b hC.w hC.c (hs _))) (fun v1 σ1 h1 => ?_)
  have h92 := h1.2
  have hC1 : CRl σ1 X := by rw [h1.1.2]; exact hC
  have hM1 : MRl σ1 X := by rw [h1.1.2]; exact hM
  have hO1 := hC.ok
  have hG1 := hC.g
  refine V_aload_2 (pc := 1899) dL_law_1899 ?_
  refine V_aload_0 (pc := 1900) dL_law_1900 ?_
  refine V_iload_3 (pc := 1901) dL_law_1901 ?_
  refine V_iconst (pc := 1902) dL_law_1902 ?_
  refine V_iadd (pc := 1903) dL_law_1903 ?_
  refine V_sld (pc := 1904) dL_law_1904 (by rw [h92]; exact hn) hnN (by omega) (v := σ 92 0 (i + 1)) (by rw [h92]) ?_
  refine V_callV1i (pc := 1905) dL_law_1905 kv_L_253 rc_34 (by omega) (d - 1) (by omega) rfl (V.sci (c_X6_worth (by omega) hM1.1 hG1 (hs _))) (fun v2 σ2 h2 => ?_)
  have hC2 := h2.1.2.fm.crl hC1
  have hM2 := h2.1.2.mrl hM1
  have h93 : σ2 92 = σ 92 := h2.2.trans h92
  refine V_icmp_same (pc := 1908) 2578 dL_law_1908 (by decide) (h1.1.1.trans h2.1.1.symm) ?_
  exact kk _ _ hC2 hM2 h93

set_option maxRecDepth 20000 in
set_option maxHeartbeats 1000000 in
theorem law_59 {d : Nat} (hd : 57 ≤ d) {σ : MM} {X : CST} {i n : Int} (hn : σ 92 1 0 = n) (hi : 0 ≤ i ∧ i + 6 ≤ n) (hnN : n ≤ 3072) (hs : ∀ z : Int, IR (σ 92 0 z)) (hC : CRl σ X) (hM : MRl σ X) (kk : ∀ (σ' : MM) (X' : CST), CRl σ' X' → MRl σ' X' → σ' 92 = σ 92 → V yL_law cL_law 4 (some .boolean) d LQ 2578 [some (vR 92 0), some (vR 0 0), some (vR 34 0), some (vI i)] [] σ') : V yL_law cL_law 4 (some .boolean) d LQ 1913 [some (vR 92 0), some (vR 0 0), some (vR 34 0), some (vI i)] [] σ := by
  refine V_aload_1 (pc := 1913) dL_law_1913 ?_
  refine V_aload_0 (pc := 1914) dL_law_1914 ?_
  refine V_iload_3 (pc := 1915) dL_law_1915 ?_
  refine V_iconst (pc := 1916) dL_law_1916 ?_
  refine V_iadd (pc := 1917) dL_law_1917 ?_
  refine V_sld (pc := 1918) dL_law_1918 hn hnN (by omega) (v := σ 92 0 (i + 1)) rfl ?_
  refine V_aload_0 (pc := 1919) dL_law_1919 ?_
  refine V_iload_3 (pc := 1920) dL_law_1920 ?_
  refine V_iconst (pc := 1921) dL_law_1921 ?_
  refine V_iadd (pc := 1922) dL_law_1922 ?_
  refine V_sld (pc := 1923) dL_law_1923 hn hnN (by omega) (v := σ 92 0 (i + 2)) rfl ?_
  refine V_callV2i (pc := 1924) dL_law_1924 kv_L_254 rc_0 (by omega) (d - 1) (by omega) rfl (V.sci (c_X5_share (by omega) hC.b hC.w hC.c (hs _) (hs _))) (fun v1 σ1 h1 => ?_)
  have h92 := h1.2
  have hC1 : CRl σ1 X := by rw [h1.1.2]; exact hC
  have hM1 : MRl σ1 X := by rw [h1.1.2]; exact hM
  have hO1 := hC.ok
  have hG1 := hC.g
  refine V_aload_2 (pc := 1927) dL_law_1927 ?_
  refine V_aload_0 (pc := 1928) dL_law_1928 ?_
  refine V_iload_3 (pc := 1929) dL_law_1929 ?_
  refine V_iconst (pc := 1930) dL_law_1930 ?_
  refine V_iadd (pc := 1931) dL_law_1931 ?_
  refine V_sld (pc := 1932) dL_law_1932 (by rw [h92]; exact hn) hnN (by omega) (v := σ 92 0 (i + 1)) (by rw [h92]) ?_
  refine V_aload_0 (pc := 1933) dL_law_1933 ?_
  refine V_iload_3 (pc := 1934) dL_law_1934 ?_
  refine V_iconst (pc := 1935) dL_law_1935 ?_
  refine V_iadd (pc := 1936) dL_law_1936 ?_
  refine V_sld (pc := 1937) dL_law_1937 (by rw [h92]; exact hn) hnN (by omega) (v := σ 92 0 (i + 2)) (by rw [h92]) ?_
  refine V_callV2i (pc := 1938) dL_law_1938 kv_L_257 rc_34 (by omega) (d - 1) (by omega) rfl (V.sci (c_X6_share (by omega) hM1.1 hG1 (hs _) (hs _))) (fun v2 σ2 h2 => ?_)
  have hC2 := h2.1.2.fm.crl hC1
  have hM2 := h2.1.2.mrl hM1
  have h93 : σ2 92 = σ 92 := h2.2.trans h92
  refine V_icmp_same (pc := 1941) 2578 dL_law_1941 (by decide) (h1.1.1.trans h2.1.1.symm) ?_
  exact kk _ _ hC2 hM2 h93

set_option maxRecDepth 20000 in
set_option maxHeartbeats 1000000 in
theorem law_60 {d : Nat} (hd : 57 ≤ d) {σ : MM} {X : CST} {i n : Int} (hn : σ 92 1 0 = n) (hi : 0 ≤ i ∧ i + 6 ≤ n) (hnN : n ≤ 3072) (hs : ∀ z : Int, IR (σ 92 0 z)) (hC : CRl σ X) (hM : MRl σ X) (kk : ∀ (σ' : MM) (X' : CST), CRl σ' X' → MRl σ' X' → σ' 92 = σ 92 → V yL_law cL_law 4 (some .boolean) d LQ 2578 [some (vR 92 0), some (vR 0 0), some (vR 34 0), some (vI i)] [] σ') : V yL_law cL_law 4 (some .boolean) d LQ 1946 [some (vR 92 0), some (vR 0 0), some (vR 34 0), some (vI i)] [] σ := by
  refine V_aload_1 (pc := 1946) dL_law_1946 ?_
  refine V_aload_0 (pc := 1947) dL_law_1947 ?_
  refine V_iload_3 (pc := 1948) dL_law_1948 ?_
  refine V_iconst (pc := 1949) dL_law_1949 ?_
  refine V_iadd (pc := 1950) dL_law_1950 ?_
  refine V_sld (pc := 1951) dL_law_1951 hn hnN (by omega) (v := σ 92 0 (i + 1)) rfl ?_
  refine V_aload_0 (pc := 1952) dL_law_1952 ?_
  refine V_iload_3 (pc := 1953) dL_law_1953 ?_
  refine V_iconst (pc := 1954) dL_law_1954 ?_
  refine V_iadd (pc := 1955) dL_law_1955 ?_
  refine V_sld (pc := 1956) dL_law_1956 hn hnN (by omega) (v := σ 92 0 (i + 2)) rfl ?_
  refine V_callV2i (pc := 1957) dL_law_1957 kv_L_258 rc_0 (by omega) (d - 1) (by omega) rfl (V.sci (c_X5_rests (by omega) hC.b hC.w (hs _) (hs _))) (fun v1 σ1 h1 => ?_)
  have h92 := h1.2
  have hC1 := h1.1.2.crl hC
  have hM1 := h1.1.2.fc.mrl hM
  have hO1 := hC.ok
  have hG1 := hC.g
  refine V_aload_2 (pc := 1960) dL_law_1960 ?_
  refine V_aload_0 (pc := 1961) dL_law_1961 ?_
  refine V_iload_3 (pc := 1962) dL_law_1962 ?_
  refine V_iconst (pc := 1963) dL_law_1963 ?_
  refine V_iadd (pc := 1964) dL_law_1964 ?_
  refine V_sld (pc := 1965) dL_law_1965 (by rw [h92]; exact hn) hnN (by omega) (v := σ 92 0 (i + 1)) (by rw [h92]) ?_
  refine V_aload_0 (pc := 1966) dL_law_1966 ?_
  refine V_iload_3 (pc := 1967) dL_law_1967 ?_
  refine V_iconst (pc := 1968) dL_law_1968 ?_
  refine V_iadd (pc := 1969) dL_law_1969 ?_
  refine V_sld (pc := 1970) dL_law_1970 (by rw [h92]; exact hn) hnN (by omega) (v := σ 92 0 (i + 2)) (by rw [h92]) ?_
  refine V_callV2i (pc := 1971) dL_law_1971 kv_L_261 rc_34 (by omega) (d - 1) (by omega) rfl (V.sci (c_X6_rests (by omega) hM1.1 hG1 (hs _) (hs _))) (fun v2 σ2 h2 => ?_)
  have hC2 := h2.1.2.fm.crl hC1
  have hM2 := h2.1.2.mrl hM1
  have h93 : σ2 92 = σ 92 := h2.2.trans h92
  refine V_icmp_same (pc := 1974) 2578 dL_law_1974 (by decide) (h1.1.1.trans h2.1.1.symm) ?_
  exact kk _ _ hC2 hM2 h93

set_option maxRecDepth 20000 in
set_option maxHeartbeats 1000000 in
theorem law_61 {d : Nat} (hd : 57 ≤ d) {σ : MM} {X : CST} {i n : Int} (hn : σ 92 1 0 = n) (hi : 0 ≤ i ∧ i + 6 ≤ n) (hnN : n ≤ 3072) (hs : ∀ z : Int, IR (σ 92 0 z)) (hC : CRl σ X) (hM : MRl σ X) (kk : ∀ (σ' : MM) (X' : CST), CRl σ' X' → MRl σ' X' → σ' 92 = σ 92 → V yL_law cL_law 4 (some .boolean) d LQ 2578 [some (vR 92 0), some (vR 0 0), some (vR 34 0), some (vI i)] [] σ') : V yL_law cL_law 4 (some .boolean) d LQ 1979 [some (vR 92 0), some (vR 0 0), some (vR 34 0), some (vI i)] [] σ := by
  refine V_aload_1 (pc := 1979) dL_law_1979 ?_
  refine V_aload_0 (pc := 1980) dL_law_1980 ?_
  refine V_iload_3 (pc := 1981) dL_law_1981 ?_
  refine V_iconst (pc := 1982) dL_law_1982 ?_
  refine V_iadd (pc := 1983) dL_law_1983 ?_
  refine V_sld (pc := 1984) dL_law_1984 hn hnN (by omega) (v := σ 92 0 (i + 1)) rfl ?_
  refine V_aload_0 (pc := 1985) dL_law_1985 ?_
  refine V_iload_3 (pc := 1986) dL_law_1986 ?_
  refine V_iconst (pc := 1987) dL_law_1987 ?_
  refine V_iadd (pc := 1988) dL_law_1988 ?_
  refine V_sld (pc := 1989) dL_law_1989 hn hnN (by omega) (v := σ 92 0 (i + 2)) rfl ?_
  refine V_aload_0 (pc := 1990) dL_law_1990 ?_
  refine V_iload_3 (pc := 1991) dL_law_1991 ?_
  refine V_iconst (pc := 1992) dL_law_1992 ?_
  refine V_iadd (pc := 1993) dL_law_1993 ?_
  refine V_sld (pc := 1994) dL_law_1994 hn hnN (by omega) (v := σ 92 0 (i + 3)) rfl ?_
  refine V_aload_0 (pc := 1995) dL_law_1995 ?_
  refine V_iload_3 (pc := 1996) dL_law_1996 ?_
  refine V_iconst (pc := 1997) dL_law_1997 ?_
  refine V_iadd (pc := 1998) dL_law_1998 ?_
  refine V_sld (pc := 1999) dL_law_1999 hn hnN (by omega) (v := σ 92 0 (i + 4)) rfl ?_
  refine V_callV4i (pc := 2000) dL_law_2000 kv_L_262 rc_0 (by omega) (d - 1) (by omega) rfl (V.sci (c_X5_gets (by omega) hC.b hC.w (hs _) (hs _) (hs _) (hs _))) (fun v1 σ1 h1 => ?_)
  have h92 := h1.2
  have hC1 := h1.1.2.crl hC
  have hM1 := h1.1.2.fc.mrl hM
  have hO1 := hC.ok
  have hG1 := hC.g
  refine V_aload_2 (pc := 2003) dL_law_2003 ?_
  refine V_aload_0 (pc := 2004) dL_law_2004 ?_
  refine V_iload_3 (pc := 2005) dL_law_2005 ?_
  refine V_iconst (pc := 2006) dL_law_2006 ?_
  refine V_iadd (pc := 2007) dL_law_2007 ?_
  refine V_sld (pc := 2008) dL_law_2008 (by rw [h92]; exact hn) hnN (by omega) (v := σ 92 0 (i + 1)) (by rw [h92]) ?_
  refine V_aload_0 (pc := 2009) dL_law_2009 ?_
  refine V_iload_3 (pc := 2010) dL_law_2010 ?_
  refine V_iconst (pc := 2011) dL_law_2011 ?_
  refine V_iadd (pc := 2012) dL_law_2012 ?_
  refine V_sld (pc := 2013) dL_law_2013 (by rw [h92]; exact hn) hnN (by omega) (v := σ 92 0 (i + 2)) (by rw [h92]) ?_
  refine V_aload_0 (pc := 2014) dL_law_2014 ?_
  refine V_iload_3 (pc := 2015) dL_law_2015 ?_
  refine V_iconst (pc := 2016) dL_law_2016 ?_
  refine V_iadd (pc := 2017) dL_law_2017 ?_
  refine V_sld (pc := 2018) dL_law_2018 (by rw [h92]; exact hn) hnN (by omega) (v := σ 92 0 (i + 3)) (by rw [h92]) ?_
  refine V_aload_0 (pc := 2019) dL_law_2019 ?_
  refine V_iload_3 (pc := 2020) dL_law_2020 ?_
  refine V_iconst (pc := 2021) dL_law_2021 ?_
  refine V_iadd (pc := 2022) dL_law_2022 ?_
  refine V_sld (pc := 2023) dL_law_2023 (by rw [h92]; exact hn) hnN (by omega) (v := σ 92 0 (i + 4)) (by rw [h92]) ?_
  refine V_callV4i (pc := 2024) dL_law_2024 kv_L_265 rc_34 (by omega) (d - 1) (by omega) rfl (V.sci (c_X6_gets (by omega) hM1.1 hG1 (hs _) (hs _) (hs _) (hs _))) (fun v2 σ2 h2 => ?_)
  have hC2 := h2.1.2.fm.crl hC1
  have hM2 := h2.1.2.mrl hM1
  have h93 : σ2 92 = σ 92 := h2.2.trans h92
  refine V_icmp_same (pc := 2027) 2578 dL_law_2027 (by decide) (h1.1.1.trans h2.1.1.symm) ?_
  exact kk _ _ hC2 hM2 h93

set_option maxRecDepth 20000 in
set_option maxHeartbeats 1000000 in
theorem law_62 {d : Nat} (hd : 57 ≤ d) {σ : MM} {X : CST} {i n : Int} (hn : σ 92 1 0 = n) (hi : 0 ≤ i ∧ i + 6 ≤ n) (hnN : n ≤ 3072) (hs : ∀ z : Int, IR (σ 92 0 z)) (hC : CRl σ X) (hM : MRl σ X) (kk : ∀ (σ' : MM) (X' : CST), CRl σ' X' → MRl σ' X' → σ' 92 = σ 92 → V yL_law cL_law 4 (some .boolean) d LQ 2578 [some (vR 92 0), some (vR 0 0), some (vR 34 0), some (vI i)] [] σ') : V yL_law cL_law 4 (some .boolean) d LQ 2032 [some (vR 92 0), some (vR 0 0), some (vR 34 0), some (vI i)] [] σ := by
  refine V_aload_1 (pc := 2032) dL_law_2032 ?_
  refine V_aload_0 (pc := 2033) dL_law_2033 ?_
  refine V_iload_3 (pc := 2034) dL_law_2034 ?_
  refine V_iconst (pc := 2035) dL_law_2035 ?_
  refine V_iadd (pc := 2036) dL_law_2036 ?_
  refine V_sld (pc := 2037) dL_law_2037 hn hnN (by omega) (v := σ 92 0 (i + 1)) rfl ?_
  refine V_aload_0 (pc := 2038) dL_law_2038 ?_
  refine V_iload_3 (pc := 2039) dL_law_2039 ?_
  refine V_iconst (pc := 2040) dL_law_2040 ?_
  refine V_iadd (pc := 2041) dL_law_2041 ?_
  refine V_sld (pc := 2042) dL_law_2042 hn hnN (by omega) (v := σ 92 0 (i + 2)) rfl ?_
  refine V_aload_0 (pc := 2043) dL_law_2043 ?_
  refine V_iload_3 (pc := 2044) dL_law_2044 ?_
  refine V_iconst (pc := 2045) dL_law_2045 ?_
  refine V_iadd (pc := 2046) dL_law_2046 ?_
  refine V_sld (pc := 2047) dL_law_2047 hn hnN (by omega) (v := σ 92 0 (i + 3)) rfl ?_
  refine V_aload_0 (pc := 2048) dL_law_2048 ?_
  refine V_iload_3 (pc := 2049) dL_law_2049 ?_
  refine V_iconst (pc := 2050) dL_law_2050 ?_
  refine V_iadd (pc := 2051) dL_law_2051 ?_
  refine V_sld (pc := 2052) dL_law_2052 hn hnN (by omega) (v := σ 92 0 (i + 4)) rfl ?_
  refine V_callV4i (pc := 2053) dL_law_2053 kv_L_266 rc_0 (by omega) (d - 1) (by omega) rfl (V.sci (c_X5_chance (by omega) hC.b hC.g (hs _) (hs _) (hs _) (hs _))) (fun v1 σ1 h1 => ?_)
  have h92 := h1.2
  have hC1 := h1.1.2.crl hC
  have hM1 := h1.1.2.fc.mrl hM
  have hO1 := hC.ok
  have hG1 := hC.g
  refine V_aload_2 (pc := 2056) dL_law_2056 ?_
  refine V_aload_0 (pc := 2057) dL_law_2057 ?_
  refine V_iload_3 (pc := 2058) dL_law_2058 ?_
  refine V_iconst (pc := 2059) dL_law_2059 ?_
  refine V_iadd (pc := 2060) dL_law_2060 ?_
  refine V_sld (pc := 2061) dL_law_2061 (by rw [h92]; exact hn) hnN (by omega) (v := σ 92 0 (i + 1)) (by rw [h92]) ?_
  refine V_aload_0 (pc := 2062) dL_law_2062 ?_
  refine V_iload_3 (pc := 2063) dL_law_2063 ?_
  refine V_iconst (pc := 2064) dL_law_2064 ?_
  refine V_iadd (pc := 2065) dL_law_2065 ?_
  refine V_sld (pc := 2066) dL_law_2066 (by rw [h92]; exact hn) hnN (by omega) (v := σ 92 0 (i + 2)) (by rw [h92]) ?_
  refine V_aload_0 (pc := 2067) dL_law_2067 ?_
  refine V_iload_3 (pc := 2068) dL_law_2068 ?_
  refine V_iconst (pc := 2069) dL_law_2069 ?_
  refine V_iadd (pc := 2070) dL_law_2070 ?_
  refine V_sld (pc := 2071) dL_law_2071 (by rw [h92]; exact hn) hnN (by omega) (v := σ 92 0 (i + 3)) (by rw [h92]) ?_
  refine V_aload_0 (pc := 2072) dL_law_2072 ?_
  refine V_iload_3 (pc := 2073) dL_law_2073 ?_
  refine V_iconst (pc := 2074) dL_law_2074 ?_
  refine V_iadd (pc := 2075) dL_law_2075 ?_
  refine V_sld (pc := 2076) dL_law_2076 (by rw [h92]; exact hn) hnN (by omega) (v := σ 92 0 (i + 4)) (by rw [h92]) ?_
  refine V_callV4i (pc := 2077) dL_law_2077 kv_L_269 rc_34 (by omega) (d - 1) (by omega) rfl (V.sci (c_X6_chance (by omega) hM1.1 hG1 (hs _) (hs _) (hs _) (hs _))) (fun v2 σ2 h2 => ?_)
  have hC2 := h2.1.2.fm.crl hC1
  have hM2 := h2.1.2.mrl hM1
  have h93 : σ2 92 = σ 92 := h2.2.trans h92
  refine V_icmp_same (pc := 2080) 2578 dL_law_2080 (by decide) (h1.1.1.trans h2.1.1.symm) ?_
  exact kk _ _ hC2 hM2 h93

set_option maxRecDepth 20000 in
set_option maxHeartbeats 1000000 in
theorem law_63 {d : Nat} (hd : 57 ≤ d) {σ : MM} {X : CST} {i n : Int} (hn : σ 92 1 0 = n) (hi : 0 ≤ i ∧ i + 6 ≤ n) (hnN : n ≤ 3072) (hs : ∀ z : Int, IR (σ 92 0 z)) (hC : CRl σ X) (hM : MRl σ X) (kk : ∀ (σ' : MM) (X' : CST), CRl σ' X' → MRl σ' X' → σ' 92 = σ 92 → V yL_law cL_law 4 (some .boolean) d LQ 2578 [some (vR 92 0), some (vR 0 0), some (vR 34 0), some (vI i)] [] σ') : V yL_law cL_law 4 (some .boolean) d LQ 2085 [some (vR 92 0), some (vR 0 0), some (vR 34 0), some (vI i)] [] σ := by
  refine V_aload_1 (pc := 2085) dL_law_2085 ?_
  refine V_aload_0 (pc := 2086) dL_law_2086 ?_
  refine V_iload_3 (pc := 2087) dL_law_2087 ?_
  refine V_iconst (pc := 2088) dL_law_2088 ?_
  refine V_iadd (pc := 2089) dL_law_2089 ?_
  refine V_sld (pc := 2090) dL_law_2090 hn hnN (by omega) (v := σ 92 0 (i + 1)) rfl ?_
  refine V_aload_0 (pc := 2091) dL_law_2091 ?_
  refine V_iload_3 (pc := 2092) dL_law_2092 ?_
  refine V_iconst (pc := 2093) dL_law_2093 ?_
  refine V_iadd (pc := 2094) dL_law_2094 ?_
  refine V_sld (pc := 2095) dL_law_2095 hn hnN (by omega) (v := σ 92 0 (i + 2)) rfl ?_
  refine V_callV2j (pc := 2096) dL_law_2096 kv_L_270 rc_0 (by omega) (d - 1) (by omega) rfl (V.scj (c_X5_mean (by omega) hC.b hC.g (hs _) (hs _))) (fun v1 σ1 h1 => ?_)
  have h92 := h1.2
  have hC1 := h1.1.2.crl hC
  have hM1 := h1.1.2.fc.mrl hM
  have hO1 := hC.ok
  have hG1 := hC.g
  refine V_aload_2 (pc := 2099) dL_law_2099 ?_
  refine V_aload_0 (pc := 2100) dL_law_2100 ?_
  refine V_iload_3 (pc := 2101) dL_law_2101 ?_
  refine V_iconst (pc := 2102) dL_law_2102 ?_
  refine V_iadd (pc := 2103) dL_law_2103 ?_
  refine V_sld (pc := 2104) dL_law_2104 (by rw [h92]; exact hn) hnN (by omega) (v := σ 92 0 (i + 1)) (by rw [h92]) ?_
  refine V_aload_0 (pc := 2105) dL_law_2105 ?_
  refine V_iload_3 (pc := 2106) dL_law_2106 ?_
  refine V_iconst (pc := 2107) dL_law_2107 ?_
  refine V_iadd (pc := 2108) dL_law_2108 ?_
  refine V_sld (pc := 2109) dL_law_2109 (by rw [h92]; exact hn) hnN (by omega) (v := σ 92 0 (i + 2)) (by rw [h92]) ?_
  refine V_callV2j (pc := 2110) dL_law_2110 kv_L_274 rc_34 (by omega) (d - 1) (by omega) rfl (V.scj (c_X6_mean (by omega) hM1.1 hG1 (hs _) (hs _))) (fun v2 σ2 h2 => ?_)
  have hC2 := h2.1.2.fm.crl hC1
  have hM2 := h2.1.2.mrl hM1
  have h93 : σ2 92 = σ 92 := h2.2.trans h92
  refine V_lcmp_same (pc := 2113) dL_law_2113 (h1.1.1.trans h2.1.1.symm) ?_
  refine V_if_eq (pc := 2114) 2578 dL_law_2114 (by decide) (by omega) (fun c_2114 => ?_) (fun c_2114 => absurd rfl c_2114)
  exact kk _ _ hC2 hM2 h93

set_option maxRecDepth 20000 in
set_option maxHeartbeats 1000000 in
theorem law_64 {d : Nat} (hd : 57 ≤ d) {σ : MM} {X : CST} {i n : Int} (hn : σ 92 1 0 = n) (hi : 0 ≤ i ∧ i + 6 ≤ n) (hnN : n ≤ 3072) (hs : ∀ z : Int, IR (σ 92 0 z)) (hC : CRl σ X) (hM : MRl σ X) (kk : ∀ (σ' : MM) (X' : CST), CRl σ' X' → MRl σ' X' → σ' 92 = σ 92 → V yL_law cL_law 4 (some .boolean) d LQ 2578 [some (vR 92 0), some (vR 0 0), some (vR 34 0), some (vI i)] [] σ') : V yL_law cL_law 4 (some .boolean) d LQ 2119 [some (vR 92 0), some (vR 0 0), some (vR 34 0), some (vI i)] [] σ := by
  refine V_aload_1 (pc := 2119) dL_law_2119 ?_
  refine V_aload_0 (pc := 2120) dL_law_2120 ?_
  refine V_iload_3 (pc := 2121) dL_law_2121 ?_
  refine V_iconst (pc := 2122) dL_law_2122 ?_
  refine V_iadd (pc := 2123) dL_law_2123 ?_
  refine V_sld (pc := 2124) dL_law_2124 hn hnN (by omega) (v := σ 92 0 (i + 1)) rfl ?_
  refine V_aload_0 (pc := 2125) dL_law_2125 ?_
  refine V_iload_3 (pc := 2126) dL_law_2126 ?_
  refine V_iconst (pc := 2127) dL_law_2127 ?_
  refine V_iadd (pc := 2128) dL_law_2128 ?_
  refine V_sld (pc := 2129) dL_law_2129 hn hnN (by omega) (v := σ 92 0 (i + 2)) rfl ?_
  refine V_aload_0 (pc := 2130) dL_law_2130 ?_
  refine V_iload_3 (pc := 2131) dL_law_2131 ?_
  refine V_iconst (pc := 2132) dL_law_2132 ?_
  refine V_iadd (pc := 2133) dL_law_2133 ?_
  refine V_sld (pc := 2134) dL_law_2134 hn hnN (by omega) (v := σ 92 0 (i + 3)) rfl ?_
  refine V_callV3i (pc := 2135) dL_law_2135 kv_L_275 rc_0 (by omega) (d - 1) (by omega) rfl (V.sci (c_X5_retraces (by omega) hC (hs _) (hs _) (hs _))) (fun v1 σ1 h1 => ?_)
  have h92 := h1.2
  have hC1 := h1.1.2.1
  have hM1 := h1.1.2.2.mrl hM
  have hO1 := hC.ok
  have hG1 := hC.g
  refine V_aload_2 (pc := 2138) dL_law_2138 ?_
  refine V_aload_0 (pc := 2139) dL_law_2139 ?_
  refine V_iload_3 (pc := 2140) dL_law_2140 ?_
  refine V_iconst (pc := 2141) dL_law_2141 ?_
  refine V_iadd (pc := 2142) dL_law_2142 ?_
  refine V_sld (pc := 2143) dL_law_2143 (by rw [h92]; exact hn) hnN (by omega) (v := σ 92 0 (i + 1)) (by rw [h92]) ?_
  refine V_aload_0 (pc := 2144) dL_law_2144 ?_
  refine V_iload_3 (pc := 2145) dL_law_2145 ?_
  refine V_iconst (pc := 2146) dL_law_2146 ?_
  refine V_iadd (pc := 2147) dL_law_2147 ?_
  refine V_sld (pc := 2148) dL_law_2148 (by rw [h92]; exact hn) hnN (by omega) (v := σ 92 0 (i + 2)) (by rw [h92]) ?_
  refine V_aload_0 (pc := 2149) dL_law_2149 ?_
  refine V_iload_3 (pc := 2150) dL_law_2150 ?_
  refine V_iconst (pc := 2151) dL_law_2151 ?_
  refine V_iadd (pc := 2152) dL_law_2152 ?_
  refine V_sld (pc := 2153) dL_law_2153 (by rw [h92]; exact hn) hnN (by omega) (v := σ 92 0 (i + 3)) (by rw [h92]) ?_
  refine V_callV3i (pc := 2154) dL_law_2154 kv_L_279 rc_34 (by omega) (d - 1) (by omega) rfl (V.sci (c_X6_retraces (by omega) hM1 hO1 (hs _) (hs _) (hs _))) (fun v2 σ2 h2 => ?_)
  have hC2 := h2.1.2.2.crl hC1
  have hM2 := h2.1.2.1
  have h93 : σ2 92 = σ 92 := h2.2.trans h92
  refine V_icmp_same (pc := 2157) 2578 dL_law_2157 (by decide) (h1.1.1.trans h2.1.1.symm) ?_
  exact kk _ _ hC2 hM2 h93

set_option maxRecDepth 20000 in
set_option maxHeartbeats 1000000 in
theorem law_65 {d : Nat} (hd : 57 ≤ d) {σ : MM} {X : CST} {i n : Int} (hn : σ 92 1 0 = n) (hi : 0 ≤ i ∧ i + 6 ≤ n) (hnN : n ≤ 3072) (hs : ∀ z : Int, IR (σ 92 0 z)) (hC : CRl σ X) (hM : MRl σ X) (kk : ∀ (σ' : MM) (X' : CST), CRl σ' X' → MRl σ' X' → σ' 92 = σ 92 → V yL_law cL_law 4 (some .boolean) d LQ 2578 [some (vR 92 0), some (vR 0 0), some (vR 34 0), some (vI i)] [] σ') : V yL_law cL_law 4 (some .boolean) d LQ 2162 [some (vR 92 0), some (vR 0 0), some (vR 34 0), some (vI i)] [] σ := by
  refine V_aload_1 (pc := 2162) dL_law_2162 ?_
  refine V_aload_0 (pc := 2163) dL_law_2163 ?_
  refine V_iload_3 (pc := 2164) dL_law_2164 ?_
  refine V_iconst (pc := 2165) dL_law_2165 ?_
  refine V_iadd (pc := 2166) dL_law_2166 ?_
  refine V_sld (pc := 2167) dL_law_2167 hn hnN (by omega) (v := σ 92 0 (i + 1)) rfl ?_
  refine V_aload_0 (pc := 2168) dL_law_2168 ?_
  refine V_iload_3 (pc := 2169) dL_law_2169 ?_
  refine V_iconst (pc := 2170) dL_law_2170 ?_
  refine V_iadd (pc := 2171) dL_law_2171 ?_
  refine V_sld (pc := 2172) dL_law_2172 hn hnN (by omega) (v := σ 92 0 (i + 2)) rfl ?_
  refine V_callV2i (pc := 2173) dL_law_2173 kv_L_280 rc_0 (by omega) (d - 1) (by omega) rfl (V.sci (c_X5_bleaches (by omega) hC (hs _) (hs _))) (fun v1 σ1 h1 => ?_)
  have h92 := h1.2
  have hC1 := h1.1.2.1
  have hM1 := h1.1.2.2.mrl hM
  have hO1 := hC.ok
  have hG1 := hC.g
  refine V_aload_2 (pc := 2176) dL_law_2176 ?_
  refine V_aload_0 (pc := 2177) dL_law_2177 ?_
  refine V_iload_3 (pc := 2178) dL_law_2178 ?_
  refine V_iconst (pc := 2179) dL_law_2179 ?_
  refine V_iadd (pc := 2180) dL_law_2180 ?_
  refine V_sld (pc := 2181) dL_law_2181 (by rw [h92]; exact hn) hnN (by omega) (v := σ 92 0 (i + 1)) (by rw [h92]) ?_
  refine V_aload_0 (pc := 2182) dL_law_2182 ?_
  refine V_iload_3 (pc := 2183) dL_law_2183 ?_
  refine V_iconst (pc := 2184) dL_law_2184 ?_
  refine V_iadd (pc := 2185) dL_law_2185 ?_
  refine V_sld (pc := 2186) dL_law_2186 (by rw [h92]; exact hn) hnN (by omega) (v := σ 92 0 (i + 2)) (by rw [h92]) ?_
  refine V_callV2i (pc := 2187) dL_law_2187 kv_L_283 rc_34 (by omega) (d - 1) (by omega) rfl (V.sci (c_X6_bleaches (by omega) hM1 hO1 (hs _) (hs _))) (fun v2 σ2 h2 => ?_)
  have hC2 := h2.1.2.2.crl hC1
  have hM2 := h2.1.2.1
  have h93 : σ2 92 = σ 92 := h2.2.trans h92
  refine V_icmp_same (pc := 2190) 2578 dL_law_2190 (by decide) (h1.1.1.trans h2.1.1.symm) ?_
  exact kk _ _ hC2 hM2 h93

set_option maxRecDepth 20000 in
set_option maxHeartbeats 1000000 in
theorem law_66 {d : Nat} (hd : 57 ≤ d) {σ : MM} {X : CST} {i n : Int} (hn : σ 92 1 0 = n) (hi : 0 ≤ i ∧ i + 6 ≤ n) (hnN : n ≤ 3072) (hs : ∀ z : Int, IR (σ 92 0 z)) (hC : CRl σ X) (hM : MRl σ X) (kk : ∀ (σ' : MM) (X' : CST), CRl σ' X' → MRl σ' X' → σ' 92 = σ 92 → V yL_law cL_law 4 (some .boolean) d LQ 2578 [some (vR 92 0), some (vR 0 0), some (vR 34 0), some (vI i)] [] σ') : V yL_law cL_law 4 (some .boolean) d LQ 2195 [some (vR 92 0), some (vR 0 0), some (vR 34 0), some (vI i)] [] σ := by
  refine V_aload_1 (pc := 2195) dL_law_2195 ?_
  refine V_callV0i (pc := 2196) dL_law_2196 kv_L_284 rc_0 (by omega) (d - 1) (by omega) rfl (V.sci (c_X5_undo (by omega) hC)) (fun v1 σ1 h1 => ?_)
  have h92 := h1.2
  have hC1 := h1.1.2.1
  have hM1 := h1.1.2.2.mrl hM
  have hO1 := hC.ok
  have hG1 := hC.g
  refine V_aload_2 (pc := 2199) dL_law_2199 ?_
  refine V_callV0i (pc := 2200) dL_law_2200 kv_L_287 rc_34 (by omega) (d - 1) (by omega) rfl (V.sci (c_X6_undo (by omega) hM1 hO1)) (fun v2 σ2 h2 => ?_)
  have hC2 := h2.1.2.2.crl hC1
  have hM2 := h2.1.2.1
  have h93 : σ2 92 = σ 92 := h2.2.trans h92
  refine V_icmp_same (pc := 2203) 2578 dL_law_2203 (by decide) (h1.1.1.trans h2.1.1.symm) ?_
  exact kk _ _ hC2 hM2 h93

set_option maxRecDepth 20000 in
set_option maxHeartbeats 1000000 in
theorem law_67 {d : Nat} (hd : 57 ≤ d) {σ : MM} {X : CST} {i n : Int} (hn : σ 92 1 0 = n) (hi : 0 ≤ i ∧ i + 6 ≤ n) (hnN : n ≤ 3072) (hs : ∀ z : Int, IR (σ 92 0 z)) (hC : CRl σ X) (hM : MRl σ X) (kk : ∀ (σ' : MM) (X' : CST), CRl σ' X' → MRl σ' X' → σ' 92 = σ 92 → V yL_law cL_law 4 (some .boolean) d LQ 2578 [some (vR 92 0), some (vR 0 0), some (vR 34 0), some (vI i)] [] σ') : V yL_law cL_law 4 (some .boolean) d LQ 2208 [some (vR 92 0), some (vR 0 0), some (vR 34 0), some (vI i)] [] σ := by
  refine V_aload_1 (pc := 2208) dL_law_2208 ?_
  refine V_callV0i (pc := 2209) dL_law_2209 kv_L_288 rc_0 (by omega) (d - 1) (by omega) rfl (V.sci (c_X5_anew (by omega) hC)) (fun v1 σ1 h1 => ?_)
  have h92 := h1.2
  have hC1 := h1.1.2.1
  have hM1 := h1.1.2.2.mrl hM
  have hO1 := hC.ok
  have hG1 := hC.g
  refine V_aload_2 (pc := 2212) dL_law_2212 ?_
  refine V_callV0i (pc := 2213) dL_law_2213 kv_L_291 rc_34 (by omega) (d - 1) (by omega) rfl (V.sci (c_X6_anew (by omega) hM1 hO1)) (fun v2 σ2 h2 => ?_)
  have hC2 := h2.1.2.2.crl hC1
  have hM2 := h2.1.2.1
  have h93 : σ2 92 = σ 92 := h2.2.trans h92
  refine V_icmp_same (pc := 2216) 2578 dL_law_2216 (by decide) (h1.1.1.trans h2.1.1.symm) ?_
  exact kk _ _ hC2 hM2 h93

set_option maxRecDepth 20000 in
set_option maxHeartbeats 1000000 in
theorem law_68 {d : Nat} (hd : 57 ≤ d) {σ : MM} {X : CST} {i n : Int} (hn : σ 92 1 0 = n) (hi : 0 ≤ i ∧ i + 6 ≤ n) (hnN : n ≤ 3072) (hs : ∀ z : Int, IR (σ 92 0 z)) (hC : CRl σ X) (hM : MRl σ X) (kk : ∀ (σ' : MM) (X' : CST), CRl σ' X' → MRl σ' X' → σ' 92 = σ 92 → V yL_law cL_law 4 (some .boolean) d LQ 2578 [some (vR 92 0), some (vR 0 0), some (vR 34 0), some (vI i)] [] σ') : V yL_law cL_law 4 (some .boolean) d LQ 2221 [some (vR 92 0), some (vR 0 0), some (vR 34 0), some (vI i)] [] σ := by
  refine V_aload_1 (pc := 2221) dL_law_2221 ?_
  refine V_aload_0 (pc := 2222) dL_law_2222 ?_
  refine V_iload_3 (pc := 2223) dL_law_2223 ?_
  refine V_iconst (pc := 2224) dL_law_2224 ?_
  refine V_iadd (pc := 2225) dL_law_2225 ?_
  refine V_sld (pc := 2226) dL_law_2226 hn hnN (by omega) (v := σ 92 0 (i + 1)) rfl ?_
  refine V_aload_0 (pc := 2227) dL_law_2227 ?_
  refine V_iload_3 (pc := 2228) dL_law_2228 ?_
  refine V_iconst (pc := 2229) dL_law_2229 ?_
  refine V_iadd (pc := 2230) dL_law_2230 ?_
  refine V_sld (pc := 2231) dL_law_2231 hn hnN (by omega) (v := σ 92 0 (i + 2)) rfl ?_
  refine V_callV2i (pc := 2232) dL_law_2232 kv_L_292 rc_0 (by omega) (d - 1) (by omega) rfl (V.sci (c_X5_drawn (by omega) hC.b hC.g (hs _) (hs _))) (fun v1 σ1 h1 => ?_)
  have h92 := h1.2
  have hC1 := h1.1.2.crl hC
  have hM1 := h1.1.2.fc.mrl hM
  have hO1 := hC.ok
  have hG1 := hC.g
  refine V_aload_2 (pc := 2235) dL_law_2235 ?_
  refine V_aload_0 (pc := 2236) dL_law_2236 ?_
  refine V_iload_3 (pc := 2237) dL_law_2237 ?_
  refine V_iconst (pc := 2238) dL_law_2238 ?_
  refine V_iadd (pc := 2239) dL_law_2239 ?_
  refine V_sld (pc := 2240) dL_law_2240 (by rw [h92]; exact hn) hnN (by omega) (v := σ 92 0 (i + 1)) (by rw [h92]) ?_
  refine V_aload_0 (pc := 2241) dL_law_2241 ?_
  refine V_iload_3 (pc := 2242) dL_law_2242 ?_
  refine V_iconst (pc := 2243) dL_law_2243 ?_
  refine V_iadd (pc := 2244) dL_law_2244 ?_
  refine V_sld (pc := 2245) dL_law_2245 (by rw [h92]; exact hn) hnN (by omega) (v := σ 92 0 (i + 2)) (by rw [h92]) ?_
  refine V_callV2i (pc := 2246) dL_law_2246 kv_L_295 rc_34 (by omega) (d - 1) (by omega) rfl (V.sci (c_X6_drawn (by omega) hM1.1 hG1 (hs _) (hs _))) (fun v2 σ2 h2 => ?_)
  have hC2 := h2.1.2.fm.crl hC1
  have hM2 := h2.1.2.mrl hM1
  have h93 : σ2 92 = σ 92 := h2.2.trans h92
  refine V_icmp_same (pc := 2249) 2578 dL_law_2249 (by decide) (h1.1.1.trans h2.1.1.symm) ?_
  exact kk _ _ hC2 hM2 h93

set_option maxRecDepth 20000 in
set_option maxHeartbeats 1000000 in
theorem law_69 {d : Nat} (hd : 57 ≤ d) {σ : MM} {X : CST} {i n : Int} (hn : σ 92 1 0 = n) (hi : 0 ≤ i ∧ i + 6 ≤ n) (hnN : n ≤ 3072) (hs : ∀ z : Int, IR (σ 92 0 z)) (hC : CRl σ X) (hM : MRl σ X) (kk : ∀ (σ' : MM) (X' : CST), CRl σ' X' → MRl σ' X' → σ' 92 = σ 92 → V yL_law cL_law 4 (some .boolean) d LQ 2578 [some (vR 92 0), some (vR 0 0), some (vR 34 0), some (vI i)] [] σ') : V yL_law cL_law 4 (some .boolean) d LQ 2254 [some (vR 92 0), some (vR 0 0), some (vR 34 0), some (vI i)] [] σ := by
  refine V_aload_1 (pc := 2254) dL_law_2254 ?_
  refine V_aload_0 (pc := 2255) dL_law_2255 ?_
  refine V_iload_3 (pc := 2256) dL_law_2256 ?_
  refine V_iconst (pc := 2257) dL_law_2257 ?_
  refine V_iadd (pc := 2258) dL_law_2258 ?_
  refine V_sld (pc := 2259) dL_law_2259 hn hnN (by omega) (v := σ 92 0 (i + 1)) rfl ?_
  refine V_aload_0 (pc := 2260) dL_law_2260 ?_
  refine V_iload_3 (pc := 2261) dL_law_2261 ?_
  refine V_iconst (pc := 2262) dL_law_2262 ?_
  refine V_iadd (pc := 2263) dL_law_2263 ?_
  refine V_sld (pc := 2264) dL_law_2264 hn hnN (by omega) (v := σ 92 0 (i + 2)) rfl ?_
  refine V_aload_0 (pc := 2265) dL_law_2265 ?_
  refine V_iload_3 (pc := 2266) dL_law_2266 ?_
  refine V_iconst (pc := 2267) dL_law_2267 ?_
  refine V_iadd (pc := 2268) dL_law_2268 ?_
  refine V_sld (pc := 2269) dL_law_2269 hn hnN (by omega) (v := σ 92 0 (i + 3)) rfl ?_
  refine V_callV3i (pc := 2270) dL_law_2270 kv_L_296 rc_0 (by omega) (d - 1) (by omega) rfl (V.sci (c_X5_luck (by omega) hC.b hC.g (hs _) (hs _) (hs _))) (fun v1 σ1 h1 => ?_)
  have h92 := h1.2
  have hC1 := h1.1.2.crl hC
  have hM1 := h1.1.2.fc.mrl hM
  have hO1 := hC.ok
  have hG1 := hC.g
  refine V_aload_2 (pc := 2273) dL_law_2273 ?_
  refine V_aload_0 (pc := 2274) dL_law_2274 ?_
  refine V_iload_3 (pc := 2275) dL_law_2275 ?_
  refine V_iconst (pc := 2276) dL_law_2276 ?_
  refine V_iadd (pc := 2277) dL_law_2277 ?_
  refine V_sld (pc := 2278) dL_law_2278 (by rw [h92]; exact hn) hnN (by omega) (v := σ 92 0 (i + 1)) (by rw [h92]) ?_
  refine V_aload_0 (pc := 2279) dL_law_2279 ?_
  refine V_iload_3 (pc := 2280) dL_law_2280 ?_
  refine V_iconst (pc := 2281) dL_law_2281 ?_
  refine V_iadd (pc := 2282) dL_law_2282 ?_
  refine V_sld (pc := 2283) dL_law_2283 (by rw [h92]; exact hn) hnN (by omega) (v := σ 92 0 (i + 2)) (by rw [h92]) ?_
  refine V_aload_0 (pc := 2284) dL_law_2284 ?_
  refine V_iload_3 (pc := 2285) dL_law_2285 ?_
  refine V_iconst (pc := 2286) dL_law_2286 ?_
  refine V_iadd (pc := 2287) dL_law_2287 ?_
  refine V_sld (pc := 2288) dL_law_2288 (by rw [h92]; exact hn) hnN (by omega) (v := σ 92 0 (i + 3)) (by rw [h92]) ?_
  refine V_callV3i (pc := 2289) dL_law_2289 kv_L_299 rc_34 (by omega) (d - 1) (by omega) rfl (V.sci (c_X6_luck (by omega) hM1.1 hG1 (hs _) (hs _) (hs _))) (fun v2 σ2 h2 => ?_)
  have hC2 := h2.1.2.fm.crl hC1
  have hM2 := h2.1.2.mrl hM1
  have h93 : σ2 92 = σ 92 := h2.2.trans h92
  refine V_icmp_same (pc := 2292) 2578 dL_law_2292 (by decide) (h1.1.1.trans h2.1.1.symm) ?_
  exact kk _ _ hC2 hM2 h93

set_option maxRecDepth 20000 in
set_option maxHeartbeats 1000000 in
theorem law_70 {d : Nat} (hd : 57 ≤ d) {σ : MM} {X : CST} {i n : Int} (hn : σ 92 1 0 = n) (hi : 0 ≤ i ∧ i + 6 ≤ n) (hnN : n ≤ 3072) (hs : ∀ z : Int, IR (σ 92 0 z)) (hC : CRl σ X) (hM : MRl σ X) (kk : ∀ (σ' : MM) (X' : CST), CRl σ' X' → MRl σ' X' → σ' 92 = σ 92 → V yL_law cL_law 4 (some .boolean) d LQ 2578 [some (vR 92 0), some (vR 0 0), some (vR 34 0), some (vI i)] [] σ') : V yL_law cL_law 4 (some .boolean) d LQ 2297 [some (vR 92 0), some (vR 0 0), some (vR 34 0), some (vI i)] [] σ := by
  refine V_aload_1 (pc := 2297) dL_law_2297 ?_
  refine V_aload_0 (pc := 2298) dL_law_2298 ?_
  refine V_iload_3 (pc := 2299) dL_law_2299 ?_
  refine V_iconst (pc := 2300) dL_law_2300 ?_
  refine V_iadd (pc := 2301) dL_law_2301 ?_
  refine V_sld (pc := 2302) dL_law_2302 hn hnN (by omega) (v := σ 92 0 (i + 1)) rfl ?_
  refine V_aload_0 (pc := 2303) dL_law_2303 ?_
  refine V_iload_3 (pc := 2304) dL_law_2304 ?_
  refine V_iconst (pc := 2305) dL_law_2305 ?_
  refine V_iadd (pc := 2306) dL_law_2306 ?_
  refine V_sld (pc := 2307) dL_law_2307 hn hnN (by omega) (v := σ 92 0 (i + 2)) rfl ?_
  refine V_callV2i (pc := 2308) dL_law_2308 kv_L_300 rc_0 (by omega) (d - 1) (by omega) rfl (V.sci (c_X5_rate (by omega) hC (hs _) (hs _))) (fun v1 σ1 h1 => ?_)
  have h92 := h1.2
  have hC1 := h1.1.2.1
  have hM1 := h1.1.2.2.mrl hM
  have hO1 := hC.ok
  have hG1 := hC.g
  refine V_aload_2 (pc := 2311) dL_law_2311 ?_
  refine V_aload_0 (pc := 2312) dL_law_2312 ?_
  refine V_iload_3 (pc := 2313) dL_law_2313 ?_
  refine V_iconst (pc := 2314) dL_law_2314 ?_
  refine V_iadd (pc := 2315) dL_law_2315 ?_
  refine V_sld (pc := 2316) dL_law_2316 (by rw [h92]; exact hn) hnN (by omega) (v := σ 92 0 (i + 1)) (by rw [h92]) ?_
  refine V_aload_0 (pc := 2317) dL_law_2317 ?_
  refine V_iload_3 (pc := 2318) dL_law_2318 ?_
  refine V_iconst (pc := 2319) dL_law_2319 ?_
  refine V_iadd (pc := 2320) dL_law_2320 ?_
  refine V_sld (pc := 2321) dL_law_2321 (by rw [h92]; exact hn) hnN (by omega) (v := σ 92 0 (i + 2)) (by rw [h92]) ?_
  refine V_callV2i (pc := 2322) dL_law_2322 kv_L_303 rc_34 (by omega) (d - 1) (by omega) rfl (V.sci (c_X6_rate (by omega) hM1 hO1 (hs _) (hs _))) (fun v2 σ2 h2 => ?_)
  have hC2 := h2.1.2.2.crl hC1
  have hM2 := h2.1.2.1
  have h93 : σ2 92 = σ 92 := h2.2.trans h92
  refine V_icmp_same (pc := 2325) 2578 dL_law_2325 (by decide) (h1.1.1.trans h2.1.1.symm) ?_
  exact kk _ _ hC2 hM2 h93

set_option maxRecDepth 20000 in
set_option maxHeartbeats 1000000 in
theorem law_71 {d : Nat} (hd : 57 ≤ d) {σ : MM} {X : CST} {i n : Int} (hn : σ 92 1 0 = n) (hi : 0 ≤ i ∧ i + 6 ≤ n) (hnN : n ≤ 3072) (hs : ∀ z : Int, IR (σ 92 0 z)) (hC : CRl σ X) (hM : MRl σ X) (kk : ∀ (σ' : MM) (X' : CST), CRl σ' X' → MRl σ' X' → σ' 92 = σ 92 → V yL_law cL_law 4 (some .boolean) d LQ 2578 [some (vR 92 0), some (vR 0 0), some (vR 34 0), some (vI i)] [] σ') : V yL_law cL_law 4 (some .boolean) d LQ 2330 [some (vR 92 0), some (vR 0 0), some (vR 34 0), some (vI i)] [] σ := by
  refine V_aload_1 (pc := 2330) dL_law_2330 ?_
  refine V_aload_0 (pc := 2331) dL_law_2331 ?_
  refine V_iload_3 (pc := 2332) dL_law_2332 ?_
  refine V_iconst (pc := 2333) dL_law_2333 ?_
  refine V_iadd (pc := 2334) dL_law_2334 ?_
  refine V_sld (pc := 2335) dL_law_2335 hn hnN (by omega) (v := σ 92 0 (i + 1)) rfl ?_
  refine V_callV1i (pc := 2336) dL_law_2336 kv_L_304 rc_0 (by omega) (d - 1) (by omega) rfl (V.sci (c_X5_count (by omega) hC (hs _))) (fun v1 σ1 h1 => ?_)
  have h92 := h1.2
  have hC1 : CRl σ1 X := by rw [h1.1.2]; exact hC
  have hM1 : MRl σ1 X := by rw [h1.1.2]; exact hM
  have hO1 := hC.ok
  have hG1 := hC.g
  refine V_aload_2 (pc := 2339) dL_law_2339 ?_
  refine V_aload_0 (pc := 2340) dL_law_2340 ?_
  refine V_iload_3 (pc := 2341) dL_law_2341 ?_
  refine V_iconst (pc := 2342) dL_law_2342 ?_
  refine V_iadd (pc := 2343) dL_law_2343 ?_
  refine V_sld (pc := 2344) dL_law_2344 (by rw [h92]; exact hn) hnN (by omega) (v := σ 92 0 (i + 1)) (by rw [h92]) ?_
  refine V_callV1i (pc := 2345) dL_law_2345 kv_L_307 rc_34 (by omega) (d - 1) (by omega) rfl (V.sci (c_X6_count (by omega) hM1 hO1 (hs _))) (fun v2 σ2 h2 => ?_)
  have hC2 := h2.1.2.fm.crl hC1
  have hM2 := h2.1.2.mrl hM1
  have h93 : σ2 92 = σ 92 := h2.2.trans h92
  refine V_icmp_same (pc := 2348) 2578 dL_law_2348 (by decide) (h1.1.1.trans h2.1.1.symm) ?_
  exact kk _ _ hC2 hM2 h93

set_option maxRecDepth 20000 in
set_option maxHeartbeats 1000000 in
theorem law_72 {d : Nat} (hd : 57 ≤ d) {σ : MM} {X : CST} {i n : Int} (hn : σ 92 1 0 = n) (hi : 0 ≤ i ∧ i + 6 ≤ n) (hnN : n ≤ 3072) (hs : ∀ z : Int, IR (σ 92 0 z)) (hC : CRl σ X) (hM : MRl σ X) (kk : ∀ (σ' : MM) (X' : CST), CRl σ' X' → MRl σ' X' → σ' 92 = σ 92 → V yL_law cL_law 4 (some .boolean) d LQ 2578 [some (vR 92 0), some (vR 0 0), some (vR 34 0), some (vI i)] [] σ') : V yL_law cL_law 4 (some .boolean) d LQ 2353 [some (vR 92 0), some (vR 0 0), some (vR 34 0), some (vI i)] [] σ := by
  refine V_aload_1 (pc := 2353) dL_law_2353 ?_
  refine V_aload_0 (pc := 2354) dL_law_2354 ?_
  refine V_iload_3 (pc := 2355) dL_law_2355 ?_
  refine V_iconst (pc := 2356) dL_law_2356 ?_
  refine V_iadd (pc := 2357) dL_law_2357 ?_
  refine V_sld (pc := 2358) dL_law_2358 hn hnN (by omega) (v := σ 92 0 (i + 1)) rfl ?_
  refine V_callV1i (pc := 2359) dL_law_2359 kv_L_308 rc_0 (by omega) (d - 1) (by omega) rfl (V.sci (c_X5_image (by omega) hC (hs _))) (fun v1 σ1 h1 => ?_)
  have h92 := h1.2
  have hC1 := h1.1.2.1
  have hM1 := h1.1.2.2.mrl hM
  have hO1 := hC.ok
  have hG1 := hC.g
  refine V_aload_2 (pc := 2362) dL_law_2362 ?_
  refine V_aload_0 (pc := 2363) dL_law_2363 ?_
  refine V_iload_3 (pc := 2364) dL_law_2364 ?_
  refine V_iconst (pc := 2365) dL_law_2365 ?_
  refine V_iadd (pc := 2366) dL_law_2366 ?_
  refine V_sld (pc := 2367) dL_law_2367 (by rw [h92]; exact hn) hnN (by omega) (v := σ 92 0 (i + 1)) (by rw [h92]) ?_
  refine V_callV1i (pc := 2368) dL_law_2368 kv_L_311 rc_34 (by omega) (d - 1) (by omega) rfl (V.sci (c_X6_image (by omega) hM1 hO1 (hs _))) (fun v2 σ2 h2 => ?_)
  have hC2 := h2.1.2.2.crl hC1
  have hM2 := h2.1.2.1
  have h93 : σ2 92 = σ 92 := h2.2.trans h92
  refine V_icmp_same (pc := 2371) 2578 dL_law_2371 (by decide) (h1.1.1.trans h2.1.1.symm) ?_
  exact kk _ _ hC2 hM2 h93

set_option maxRecDepth 20000 in
set_option maxHeartbeats 1000000 in
theorem law_73 {d : Nat} (hd : 57 ≤ d) {σ : MM} {X : CST} {i n : Int} (hn : σ 92 1 0 = n) (hi : 0 ≤ i ∧ i + 6 ≤ n) (hnN : n ≤ 3072) (hs : ∀ z : Int, IR (σ 92 0 z)) (hC : CRl σ X) (hM : MRl σ X) (kk : ∀ (σ' : MM) (X' : CST), CRl σ' X' → MRl σ' X' → σ' 92 = σ 92 → V yL_law cL_law 4 (some .boolean) d LQ 2578 [some (vR 92 0), some (vR 0 0), some (vR 34 0), some (vI i)] [] σ') : V yL_law cL_law 4 (some .boolean) d LQ 2376 [some (vR 92 0), some (vR 0 0), some (vR 34 0), some (vI i)] [] σ := by
  refine V_aload_1 (pc := 2376) dL_law_2376 ?_
  refine V_aload_0 (pc := 2377) dL_law_2377 ?_
  refine V_iload_3 (pc := 2378) dL_law_2378 ?_
  refine V_iconst (pc := 2379) dL_law_2379 ?_
  refine V_iadd (pc := 2380) dL_law_2380 ?_
  refine V_sld (pc := 2381) dL_law_2381 hn hnN (by omega) (v := σ 92 0 (i + 1)) rfl ?_
  refine V_callV1i (pc := 2382) dL_law_2382 kv_L_312 rc_0 (by omega) (d - 1) (by omega) rfl (V.sci (c_X5_back (by omega) hC (hs _))) (fun v1 σ1 h1 => ?_)
  have h92 := h1.2
  have hC1 := h1.1.2.1
  have hM1 := h1.1.2.2.mrl hM
  have hO1 := hC.ok
  have hG1 := hC.g
  refine V_aload_2 (pc := 2385) dL_law_2385 ?_
  refine V_aload_0 (pc := 2386) dL_law_2386 ?_
  refine V_iload_3 (pc := 2387) dL_law_2387 ?_
  refine V_iconst (pc := 2388) dL_law_2388 ?_
  refine V_iadd (pc := 2389) dL_law_2389 ?_
  refine V_sld (pc := 2390) dL_law_2390 (by rw [h92]; exact hn) hnN (by omega) (v := σ 92 0 (i + 1)) (by rw [h92]) ?_
  refine V_callV1i (pc := 2391) dL_law_2391 kv_L_315 rc_34 (by omega) (d - 1) (by omega) rfl (V.sci (c_X6_back (by omega) hM1 hO1 (hs _))) (fun v2 σ2 h2 => ?_)
  have hC2 := h2.1.2.2.crl hC1
  have hM2 := h2.1.2.1
  have h93 : σ2 92 = σ 92 := h2.2.trans h92
  refine V_icmp_same (pc := 2394) 2578 dL_law_2394 (by decide) (h1.1.1.trans h2.1.1.symm) ?_
  exact kk _ _ hC2 hM2 h93

set_option maxRecDepth 20000 in
set_option maxHeartbeats 1000000 in
theorem law_74 {d : Nat} (hd : 57 ≤ d) {σ : MM} {X : CST} {i n : Int} (hn : σ 92 1 0 = n) (hi : 0 ≤ i ∧ i + 6 ≤ n) (hnN : n ≤ 3072) (hs : ∀ z : Int, IR (σ 92 0 z)) (hC : CRl σ X) (hM : MRl σ X) (kk : ∀ (σ' : MM) (X' : CST), CRl σ' X' → MRl σ' X' → σ' 92 = σ 92 → V yL_law cL_law 4 (some .boolean) d LQ 2578 [some (vR 92 0), some (vR 0 0), some (vR 34 0), some (vI i)] [] σ') : V yL_law cL_law 4 (some .boolean) d LQ 2399 [some (vR 92 0), some (vR 0 0), some (vR 34 0), some (vI i)] [] σ := by
  refine V_aload_1 (pc := 2399) dL_law_2399 ?_
  refine V_aload_0 (pc := 2400) dL_law_2400 ?_
  refine V_iload_3 (pc := 2401) dL_law_2401 ?_
  refine V_iconst (pc := 2402) dL_law_2402 ?_
  refine V_iadd (pc := 2403) dL_law_2403 ?_
  refine V_sld (pc := 2404) dL_law_2404 hn hnN (by omega) (v := σ 92 0 (i + 1)) rfl ?_
  refine V_aload_0 (pc := 2405) dL_law_2405 ?_
  refine V_iload_3 (pc := 2406) dL_law_2406 ?_
  refine V_iconst (pc := 2407) dL_law_2407 ?_
  refine V_iadd (pc := 2408) dL_law_2408 ?_
  refine V_sld (pc := 2409) dL_law_2409 hn hnN (by omega) (v := σ 92 0 (i + 2)) rfl ?_
  refine V_aload_0 (pc := 2410) dL_law_2410 ?_
  refine V_iload_3 (pc := 2411) dL_law_2411 ?_
  refine V_iconst (pc := 2412) dL_law_2412 ?_
  refine V_iadd (pc := 2413) dL_law_2413 ?_
  refine V_sld (pc := 2414) dL_law_2414 hn hnN (by omega) (v := σ 92 0 (i + 3)) rfl ?_
  refine V_callV3i (pc := 2415) dL_law_2415 kv_L_316 rc_0 (by omega) (d - 1) (by omega) rfl (V.sci (c_X5_row (by omega) hC (hs _) (hs _) (hs _))) (fun v1 σ1 h1 => ?_)
  have h92 := h1.2
  have hC1 := h1.1.2.1
  have hM1 := h1.1.2.2.mrl hM
  have hO1 := hC.ok
  have hG1 := hC.g
  refine V_aload_2 (pc := 2418) dL_law_2418 ?_
  refine V_aload_0 (pc := 2419) dL_law_2419 ?_
  refine V_iload_3 (pc := 2420) dL_law_2420 ?_
  refine V_iconst (pc := 2421) dL_law_2421 ?_
  refine V_iadd (pc := 2422) dL_law_2422 ?_
  refine V_sld (pc := 2423) dL_law_2423 (by rw [h92]; exact hn) hnN (by omega) (v := σ 92 0 (i + 1)) (by rw [h92]) ?_
  refine V_aload_0 (pc := 2424) dL_law_2424 ?_
  refine V_iload_3 (pc := 2425) dL_law_2425 ?_
  refine V_iconst (pc := 2426) dL_law_2426 ?_
  refine V_iadd (pc := 2427) dL_law_2427 ?_
  refine V_sld (pc := 2428) dL_law_2428 (by rw [h92]; exact hn) hnN (by omega) (v := σ 92 0 (i + 2)) (by rw [h92]) ?_
  refine V_aload_0 (pc := 2429) dL_law_2429 ?_
  refine V_iload_3 (pc := 2430) dL_law_2430 ?_
  refine V_iconst (pc := 2431) dL_law_2431 ?_
  refine V_iadd (pc := 2432) dL_law_2432 ?_
  refine V_sld (pc := 2433) dL_law_2433 (by rw [h92]; exact hn) hnN (by omega) (v := σ 92 0 (i + 3)) (by rw [h92]) ?_
  refine V_callV3i (pc := 2434) dL_law_2434 kv_L_319 rc_34 (by omega) (d - 1) (by omega) rfl (V.sci (c_X6_row (by omega) hM1 hO1 (hs _) (hs _) (hs _))) (fun v2 σ2 h2 => ?_)
  have hC2 := h2.1.2.2.crl hC1
  have hM2 := h2.1.2.1
  have h93 : σ2 92 = σ 92 := h2.2.trans h92
  refine V_icmp_same (pc := 2437) 2578 dL_law_2437 (by decide) (h1.1.1.trans h2.1.1.symm) ?_
  exact kk _ _ hC2 hM2 h93

set_option maxRecDepth 20000 in
set_option maxHeartbeats 1000000 in
theorem law_75 {d : Nat} (hd : 57 ≤ d) {σ : MM} {X : CST} {i n : Int} (hn : σ 92 1 0 = n) (hi : 0 ≤ i ∧ i + 6 ≤ n) (hnN : n ≤ 3072) (hs : ∀ z : Int, IR (σ 92 0 z)) (hC : CRl σ X) (hM : MRl σ X) (kk : ∀ (σ' : MM) (X' : CST), CRl σ' X' → MRl σ' X' → σ' 92 = σ 92 → V yL_law cL_law 4 (some .boolean) d LQ 2578 [some (vR 92 0), some (vR 0 0), some (vR 34 0), some (vI i)] [] σ') : V yL_law cL_law 4 (some .boolean) d LQ 2442 [some (vR 92 0), some (vR 0 0), some (vR 34 0), some (vI i)] [] σ := by
  refine V_aload_1 (pc := 2442) dL_law_2442 ?_
  refine V_aload_0 (pc := 2443) dL_law_2443 ?_
  refine V_iload_3 (pc := 2444) dL_law_2444 ?_
  refine V_iconst (pc := 2445) dL_law_2445 ?_
  refine V_iadd (pc := 2446) dL_law_2446 ?_
  refine V_sld (pc := 2447) dL_law_2447 hn hnN (by omega) (v := σ 92 0 (i + 1)) rfl ?_
  refine V_aload_0 (pc := 2448) dL_law_2448 ?_
  refine V_iload_3 (pc := 2449) dL_law_2449 ?_
  refine V_iconst (pc := 2450) dL_law_2450 ?_
  refine V_iadd (pc := 2451) dL_law_2451 ?_
  refine V_sld (pc := 2452) dL_law_2452 hn hnN (by omega) (v := σ 92 0 (i + 2)) rfl ?_
  refine V_aload_0 (pc := 2453) dL_law_2453 ?_
  refine V_iload_3 (pc := 2454) dL_law_2454 ?_
  refine V_iconst (pc := 2455) dL_law_2455 ?_
  refine V_iadd (pc := 2456) dL_law_2456 ?_
  refine V_sld (pc := 2457) dL_law_2457 hn hnN (by omega) (v := σ 92 0 (i + 3)) rfl ?_
  refine V_i2l (pc := 2458) dL_law_2458 (hs _) ?_
  refine V_bipush (pc := 2459) dL_law_2459 (by decide) ?_
  refine V_lshl (pc := 2461) dL_law_2461 (LSH_e _) ?_
  refine V_aload_0 (pc := 2462) dL_law_2462 ?_
  refine V_iload_3 (pc := 2463) dL_law_2463 ?_
  refine V_iconst (pc := 2464) dL_law_2464 ?_
  refine V_iadd (pc := 2465) dL_law_2465 ?_
  refine V_sld (pc := 2466) dL_law_2466 hn hnN (by omega) (v := σ 92 0 (i + 4)) rfl ?_
  refine V_i2l (pc := 2467) dL_law_2467 (hs _) ?_
  refine V_ldc2 (pc := 2468) dL_law_2468 (z := 4294967295) ldc_L_320 ?_
  refine V_land (pc := 2471) dL_law_2471 (LND_e _ _) ?_
  refine V_lor (pc := 2472) dL_law_2472 (LOR_e _ _) ?_
  refine V_callV3i (pc := 2473) dL_law_2473 kv_L_322 rc_0 (by omega) (d - 1) (by omega) rfl (V.sci (c_X5_write (by omega) hC (hs _) (hs _) (LOR_in _ _))) (fun v1 σ1 h1 => ?_)
  have h92 := h1.2
  have hC1 := h1.1.2.1
  have hM1 := h1.1.2.2.mrl hM
  have hO1 := hC.ok
  have hG1 := hC.g
  refine V_aload_2 (pc := 2476) dL_law_2476 ?_
  refine V_aload_0 (pc := 2477) dL_law_2477 ?_
  refine V_iload_3 (pc := 2478) dL_law_2478 ?_
  refine V_iconst (pc := 2479) dL_law_2479 ?_
  refine V_iadd (pc := 2480) dL_law_2480 ?_
  refine V_sld (pc := 2481) dL_law_2481 (by rw [h92]; exact hn) hnN (by omega) (v := σ 92 0 (i + 1)) (by rw [h92]) ?_
  refine V_aload_0 (pc := 2482) dL_law_2482 ?_
  refine V_iload_3 (pc := 2483) dL_law_2483 ?_
  refine V_iconst (pc := 2484) dL_law_2484 ?_
  refine V_iadd (pc := 2485) dL_law_2485 ?_
  refine V_sld (pc := 2486) dL_law_2486 (by rw [h92]; exact hn) hnN (by omega) (v := σ 92 0 (i + 2)) (by rw [h92]) ?_
  refine V_aload_0 (pc := 2487) dL_law_2487 ?_
  refine V_iload_3 (pc := 2488) dL_law_2488 ?_
  refine V_iconst (pc := 2489) dL_law_2489 ?_
  refine V_iadd (pc := 2490) dL_law_2490 ?_
  refine V_sld (pc := 2491) dL_law_2491 (by rw [h92]; exact hn) hnN (by omega) (v := σ 92 0 (i + 3)) (by rw [h92]) ?_
  refine V_i2l (pc := 2492) dL_law_2492 (hs _) ?_
  refine V_bipush (pc := 2493) dL_law_2493 (by decide) ?_
  refine V_lshl (pc := 2495) dL_law_2495 (LSH_e _) ?_
  refine V_aload_0 (pc := 2496) dL_law_2496 ?_
  refine V_iload_3 (pc := 2497) dL_law_2497 ?_
  refine V_iconst (pc := 2498) dL_law_2498 ?_
  refine V_iadd (pc := 2499) dL_law_2499 ?_
  refine V_sld (pc := 2500) dL_law_2500 (by rw [h92]; exact hn) hnN (by omega) (v := σ 92 0 (i + 4)) (by rw [h92]) ?_
  refine V_i2l (pc := 2501) dL_law_2501 (hs _) ?_
  refine V_ldc2 (pc := 2502) dL_law_2502 (z := 4294967295) ldc_L_320 ?_
  refine V_land (pc := 2505) dL_law_2505 (LND_e _ _) ?_
  refine V_lor (pc := 2506) dL_law_2506 (LOR_e _ _) ?_
  refine V_callV3i (pc := 2507) dL_law_2507 kv_L_326 rc_34 (by omega) (d - 1) (by omega) rfl (V.sci (c_X6_write (by omega) hM1 hO1 (hs _) (hs _) (LOR_in _ _))) (fun v2 σ2 h2 => ?_)
  have hC2 := h2.1.2.2.crl hC1
  have hM2 := h2.1.2.1
  have h93 : σ2 92 = σ 92 := h2.2.trans h92
  refine V_icmp_same (pc := 2510) 2578 dL_law_2510 (by decide) (h1.1.1.trans h2.1.1.symm) ?_
  exact kk _ _ hC2 hM2 h93

set_option maxRecDepth 20000 in
set_option maxHeartbeats 1000000 in
theorem law_76 {d : Nat} (hd : 57 ≤ d) {σ : MM} {X : CST} {i n : Int} (hn : σ 92 1 0 = n) (hi : 0 ≤ i ∧ i + 6 ≤ n) (hnN : n ≤ 3072) (hs : ∀ z : Int, IR (σ 92 0 z)) (hC : CRl σ X) (hM : MRl σ X) (kk : ∀ (σ' : MM) (X' : CST), CRl σ' X' → MRl σ' X' → σ' 92 = σ 92 → V yL_law cL_law 4 (some .boolean) d LQ 2578 [some (vR 92 0), some (vR 0 0), some (vR 34 0), some (vI i)] [] σ') : V yL_law cL_law 4 (some .boolean) d LQ 2515 [some (vR 92 0), some (vR 0 0), some (vR 34 0), some (vI i)] [] σ := by
  refine V_aload_1 (pc := 2515) dL_law_2515 ?_
  refine V_aload_0 (pc := 2516) dL_law_2516 ?_
  refine V_iload_3 (pc := 2517) dL_law_2517 ?_
  refine V_iconst (pc := 2518) dL_law_2518 ?_
  refine V_iadd (pc := 2519) dL_law_2519 ?_
  refine V_sld (pc := 2520) dL_law_2520 hn hnN (by omega) (v := σ 92 0 (i + 1)) rfl ?_
  refine V_aload_0 (pc := 2521) dL_law_2521 ?_
  refine V_iload_3 (pc := 2522) dL_law_2522 ?_
  refine V_iconst (pc := 2523) dL_law_2523 ?_
  refine V_iadd (pc := 2524) dL_law_2524 ?_
  refine V_sld (pc := 2525) dL_law_2525 hn hnN (by omega) (v := σ 92 0 (i + 2)) rfl ?_
  refine V_aload_0 (pc := 2526) dL_law_2526 ?_
  refine V_iload_3 (pc := 2527) dL_law_2527 ?_
  refine V_iconst (pc := 2528) dL_law_2528 ?_
  refine V_iadd (pc := 2529) dL_law_2529 ?_
  refine V_sld (pc := 2530) dL_law_2530 hn hnN (by omega) (v := σ 92 0 (i + 3)) rfl ?_
  refine V_aload_0 (pc := 2531) dL_law_2531 ?_
  refine V_iload_3 (pc := 2532) dL_law_2532 ?_
  refine V_iconst (pc := 2533) dL_law_2533 ?_
  refine V_iadd (pc := 2534) dL_law_2534 ?_
  refine V_sld (pc := 2535) dL_law_2535 hn hnN (by omega) (v := σ 92 0 (i + 4)) rfl ?_
  refine V_aload_0 (pc := 2536) dL_law_2536 ?_
  refine V_iload_3 (pc := 2537) dL_law_2537 ?_
  refine V_iconst (pc := 2538) dL_law_2538 ?_
  refine V_iadd (pc := 2539) dL_law_2539 ?_
  refine V_sld (pc := 2540) dL_law_2540 hn hnN (by omega) (v := σ 92 0 (i + 5)) rfl ?_
  refine V_callV5i (pc := 2541) dL_law_2541 kv_L_327 rc_0 (by omega) (d - 1) (by omega) rfl (V.sci (c_X5_paste (by omega) hC (hs _) (hs _) (hs _) (hs _) (hs _))) (fun v1 σ1 h1 => ?_)
  have h92 := h1.2
  have hC1 := h1.1.2.1
  have hM1 := h1.1.2.2.mrl hM
  have hO1 := hC.ok
  have hG1 := hC.g
  refine V_aload_2 (pc := 2544) dL_law_2544 ?_
  refine V_aload_0 (pc := 2545) dL_law_2545 ?_
  refine V_iload_3 (pc := 2546) dL_law_2546 ?_
  refine V_iconst (pc := 2547) dL_law_2547 ?_
  refine V_iadd (pc := 2548) dL_law_2548 ?_
  refine V_sld (pc := 2549) dL_law_2549 (by rw [h92]; exact hn) hnN (by omega) (v := σ 92 0 (i + 1)) (by rw [h92]) ?_
  refine V_aload_0 (pc := 2550) dL_law_2550 ?_
  refine V_iload_3 (pc := 2551) dL_law_2551 ?_
  refine V_iconst (pc := 2552) dL_law_2552 ?_
  refine V_iadd (pc := 2553) dL_law_2553 ?_
  refine V_sld (pc := 2554) dL_law_2554 (by rw [h92]; exact hn) hnN (by omega) (v := σ 92 0 (i + 2)) (by rw [h92]) ?_
  refine V_aload_0 (pc := 2555) dL_law_2555 ?_
  refine V_iload_3 (pc := 2556) dL_law_2556 ?_
  refine V_iconst (pc := 2557) dL_law_2557 ?_
  refine V_iadd (pc := 2558) dL_law_2558 ?_
  refine V_sld (pc := 2559) dL_law_2559 (by rw [h92]; exact hn) hnN (by omega) (v := σ 92 0 (i + 3)) (by rw [h92]) ?_
  refine V_aload_0 (pc := 2560) dL_law_2560 ?_
  refine V_iload_3 (pc := 2561) dL_law_2561 ?_
  refine V_iconst (pc := 2562) dL_law_2562 ?_
  refine V_iadd (pc := 2563) dL_law_2563 ?_
  refine V_sld (pc := 2564) dL_law_2564 (by rw [h92]; exact hn) hnN (by omega) (v := σ 92 0 (i + 4)) (by rw [h92]) ?_
  refine V_aload_0 (pc := 2565) dL_law_2565 ?_
  refine V_iload_3 (pc := 2566) dL_law_2566 ?_
  refine V_iconst (pc := 2567) dL_law_2567 ?_
  refine V_iadd (pc := 2568) dL_law_2568 ?_
  refine V_sld (pc := 2569) dL_law_2569 (by rw [h92]; exact hn) hnN (by omega) (v := σ 92 0 (i + 5)) (by rw [h92]) ?_
  refine V_callV5i (pc := 2570) dL_law_2570 kv_L_330 rc_34 (by omega) (d - 1) (by omega) rfl (V.sci (c_X6_paste (by omega) hM1 hO1 (hs _) (hs _) (hs _) (hs _) (hs _))) (fun v2 σ2 h2 => ?_)
  have hC2 := h2.1.2.2.crl hC1
  have hM2 := h2.1.2.1
  have h93 : σ2 92 = σ 92 := h2.2.trans h92
  refine V_icmp_same (pc := 2573) 2578 dL_law_2573 (by decide) (h1.1.1.trans h2.1.1.symm) ?_
  exact kk _ _ hC2 hM2 h93
