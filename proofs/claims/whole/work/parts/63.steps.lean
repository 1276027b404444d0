set_option maxRecDepth 20000 in
set_option maxHeartbeats 1000000 in
theorem c_X6_steps {d : Nat} (hd : 2 ≤ d) {σ : MM} {B E : BK} {wv : Int} {P : BK} {e y : Int} (hM : MB σ 0 B) (hW : WB B) (hL : LD σ B E wv) (he : 0 ≤ e ∧ e < B 6 0) (hy : 1 ≤ y ∧ y < 21) (hP0 : ∀ x : Int, 0 ≤ x ∧ x < B 6 0 → σ 50 0 (7 * (y - 1) + x) = P 0 x ∧ (0 ≤ P 0 x ∧ P 0 x ≤ 60)) (hP2 : σ 51 0 (7 * (y - 1) + e) = P 2 e) (h01 : P 2 e = 0 ∨ P 2 e = 1) (hI1 : σ 52 0 e = P 1 e) (hb1 : 0 ≤ P 1 e ∧ P 1 e < B 4 0) (hwy : E 13 e < y) : V yX6_steps cX6_steps 6 none d (QZ (fun σ' => MUP σ σ' y e (STP1 E P y e (GON E P e y (bt wv (y - 1)) (fun _ _ => 0))) (P 1 e) ((GON E P e y (bt wv (y - 1)) (fun _ _ => 0)) 2 e))) 0 [some (vR 34 0), some (vI e), some (vI y), none, none, none] [] σ := by
  have hs := hW.s
  have hWE := hL.w
  have hbw := hL.wet
  have hp9 := (hP0 e he).2
  have e11 : E 11 = B 11 := hL.e (by omega)
  have hee := hWE.e (i := e) (by rw [hL.s6]; exact he)
  have hbe := hW.e he
  have hEs := hWE.s
  have hi9 := hWE.i (i := P 1 e) (by rw [hL.s4]; exact hb1)
  have hp10 := hWE.p (i := B 11 e) (by rw [hL.s5]; omega)
  have hp11 := hL.s5
  have hwd : 0 ≤ wv / p2 (y - 1) := Int.ediv_nonneg hbw.2.1 (by have := p2_pos (y - 1); omega)
  have hlo := LOS_in hWE (p := E 11 e) (y := y) (w := bt wv (y - 1)) (by rw [hL.s4]; exact hb1) (by have := bt_01 wv (y - 1); omega)
  have at183 : ∀ σ1, MUP σ σ1 y e ((GON E P e y (bt wv (y - 1)) (fun _ _ => 0)) 0 e) (P 1 e) ((GON E P e y (bt wv (y - 1)) (fun _ _ => 0)) 2 e) → V yX6_steps cX6_steps 6 none d (QZ (fun σ' => MUP σ σ' y e (STP1 E P y e (GON E P e y (bt wv (y - 1)) (fun _ _ => 0))) (P 1 e) ((GON E P e y (bt wv (y - 1)) (fun _ _ => 0)) 2 e))) 183 [some (vR 34 0), some (vI e), some (vI y), some (vI (P 1 e)), some (vI (P 0 e)), none] [] σ1 := by
    intro σ1 h1
    have hG := GON_in hWE (P := P) (e := e) (y := y) (w := bt wv (y - 1)) (bt_01 _ _) (by rw [hL.s6]; exact he) hp9 (by rw [hL.s4]; exact hb1)
    refine V_aload_0 (pc := 183) dX6_steps_183 ?_
    refine V_iload_1 (pc := 184) dX6_steps_184 ?_
    refine V_callV1p (pc := 185) dX6_steps_185 kv_X6_290 rc_34 (by omega) (d - 1) (by omega) rfl (c_X6_facing (by omega) (h1.2.2.2.mb hM) hW he) ?_
    refine V_istore_5 (pc := 188) dX6_steps_188 ?_
    have hRB : RBC E P y e ↔ (FAC B e ≠ -1 ∧ E 13 e ≤ y - 1 ∧ E 13 (FAC B e) ≤ y - 1 ∧ P 0 (FAC B e) - P 0 e ≥ 10) := by unfold RBC; rw [hL.fac e]
    refine V_aload_0 (pc := 190) dX6_steps_190 ?_
    refine V_geti (pc := 191) dX6_steps_191 gf_X6_252 (by omega) ((h1.2.2.2.ld hL).law) ?_
    refine V_iconst (pc := 194) dX6_steps_194 ?_
    refine V_icmp_ne (pc := 195) 262 dX6_steps_195 (by decide) (by omega) (by omega) (fun c_195 => ?_) (fun c_195 => ?_)
    · refine V_vret (pc := 262) dX6_steps_262 rfl ?_
      first
        | (have e9 : STP1 E P y e (GON E P e y (bt wv (y - 1)) (fun _ _ => 0)) = min 60 ((GON E P e y (bt wv (y - 1)) (fun _ _ => 0)) 0 e + 1) := if_pos ⟨c_195, hRB.mpr ⟨c_201, by omega, c_213, by omega⟩⟩
           rw [e9]
           refine ⟨rfl, ⟨setI_same _ _ _ _ _, (setI_ne (by decide) _ _).trans h1.1.2.1, (setI_ne (by decide) _ _).trans h1.1.2.2⟩, fun x hx => ⟨(by simp only [setI_at, hx, and_false, if_false]; exact (h1.2.1 x hx).1), (setI_ne (by decide) _ _).trans (h1.2.1 x hx).2⟩, fun x hx => (setI_ne (by decide) _ _).trans (h1.2.2.1 x hx), h1.2.2.2.tr (KR.set (by omega))⟩)
        | (have e9 : STP1 E P y e (GON E P e y (bt wv (y - 1)) (fun _ _ => 0)) = (GON E P e y (bt wv (y - 1)) (fun _ _ => 0)) 0 e := if_neg (fun q => by have q2 := hRB.mp q.2; omega)
           rw [e9]
           exact ⟨rfl, h1⟩)
    · have hFl : FAC B e ≠ -1 → _ := fun q => FAC_lt hs q
      have hPF : FAC B e ≠ -1 → _ := fun q => (hP0 (FAC B e) (hFl q)).2
      refine V_iload_5 (pc := 198) dX6_steps_198 ?_
      refine V_iconst (pc := 200) dX6_steps_200 ?_
      refine V_icmp_eq (pc := 201) 262 dX6_steps_201 (by decide) (by omega) (by omega) (fun c_201 => ?_) (fun c_201 => ?_)
      · refine V_vret (pc := 262) dX6_steps_262 rfl ?_
        first
          | (have e9 : STP1 E P y e (GON E P e y (bt wv (y - 1)) (fun _ _ => 0)) = min 60 ((GON E P e y (bt wv (y - 1)) (fun _ _ => 0)) 0 e + 1) := if_pos ⟨c_195, hRB.mpr ⟨c_201, by omega, c_213, by omega⟩⟩
             rw [e9]
             refine ⟨rfl, ⟨setI_same _ _ _ _ _, (setI_ne (by decide) _ _).trans h1.1.2.1, (setI_ne (by decide) _ _).trans h1.1.2.2⟩, fun x hx => ⟨(by simp only [setI_at, hx, and_false, if_false]; exact (h1.2.1 x hx).1), (setI_ne (by decide) _ _).trans (h1.2.1 x hx).2⟩, fun x hx => (setI_ne (by decide) _ _).trans (h1.2.2.1 x hx), h1.2.2.2.tr (KR.set (by omega))⟩)
          | (have e9 : STP1 E P y e (GON E P e y (bt wv (y - 1)) (fun _ _ => 0)) = (GON E P e y (bt wv (y - 1)) (fun _ _ => 0)) 0 e := if_neg (fun q => by have q2 := hRB.mp q.2; omega)
             rw [e9]
             exact ⟨rfl, h1⟩)
      · refine V_aload_0 (pc := 204) dX6_steps_204 ?_
        refine V_iload_5 (pc := 205) dX6_steps_205 ?_
        refine V_iload_2 (pc := 207) dX6_steps_207 ?_
        refine V_iconst (pc := 208) dX6_steps_208 ?_
        refine V_isub (pc := 209) dX6_steps_209 ?_
        refine V_callV2p (pc := 210) dX6_steps_210 kv_X6_293 rc_34 (by omega) (d - 1) (by omega) rfl (c_X6_isThere (by omega) (h1.2.2.2.mb hM) hW (h1.2.2.2.ld hL) (by omega) (by omega)) ?_
        refine V_if_eq_b (pc := 213) 262 dX6_steps_213 (by decide) (fun c_213 => ?_) (fun c_213 => ?_)
        · refine V_vret (pc := 262) dX6_steps_262 rfl ?_
          first
            | (have e9 : STP1 E P y e (GON E P e y (bt wv (y - 1)) (fun _ _ => 0)) = min 60 ((GON E P e y (bt wv (y - 1)) (fun _ _ => 0)) 0 e + 1) := if_pos ⟨c_195, hRB.mpr ⟨c_201, by omega, c_213, by omega⟩⟩
               rw [e9]
               refine ⟨rfl, ⟨setI_same _ _ _ _ _, (setI_ne (by decide) _ _).trans h1.1.2.1, (setI_ne (by decide) _ _).trans h1.1.2.2⟩, fun x hx => ⟨(by simp only [setI_at, hx, and_false, if_false]; exact (h1.2.1 x hx).1), (setI_ne (by decide) _ _).trans (h1.2.1 x hx).2⟩, fun x hx => (setI_ne (by decide) _ _).trans (h1.2.2.1 x hx), h1.2.2.2.tr (KR.set (by omega))⟩)
            | (have e9 : STP1 E P y e (GON E P e y (bt wv (y - 1)) (fun _ _ => 0)) = (GON E P e y (bt wv (y - 1)) (fun _ _ => 0)) 0 e := if_neg (fun q => by have q2 := hRB.mp q.2; omega)
               rw [e9]
               exact ⟨rfl, h1⟩)
        · refine V_aload_0 (pc := 216) dX6_steps_216 ?_
          refine V_iload_5 (pc := 217) dX6_steps_217 ?_
          refine V_iload_2 (pc := 219) dX6_steps_219 ?_
          refine V_iconst (pc := 220) dX6_steps_220 ?_
          refine V_isub (pc := 221) dX6_steps_221 ?_
          refine V_callV2p (pc := 222) dX6_steps_222 kv_X6_283 rc_34 (by omega) (d - 1) (by omega) rfl (c_X6_shadeOf (by omega) (by omega) (by omega) (s := P 0 (FAC B e)) ((h1.2.1 _ (by omega)).1.trans (hP0 _ (by omega)).1)) ?_
          refine V_iload_4 (pc := 225) dX6_steps_225 ?_
          refine V_isub (pc := 227) dX6_steps_227 ?_
          refine V_bipush (pc := 228) dX6_steps_228 (by decide) ?_
          refine V_icmp_lt (pc := 230) 262 dX6_steps_230 (by decide) (by omega) (by omega) (fun c_230 => ?_) (fun c_230 => ?_)
          · refine V_vret (pc := 262) dX6_steps_262 rfl ?_
            first
              | (have e9 : STP1 E P y e (GON E P e y (bt wv (y - 1)) (fun _ _ => 0)) = min 60 ((GON E P e y (bt wv (y - 1)) (fun _ _ => 0)) 0 e + 1) := if_pos ⟨c_195, hRB.mpr ⟨c_201, by omega, c_213, by omega⟩⟩
                 rw [e9]
                 refine ⟨rfl, ⟨setI_same _ _ _ _ _, (setI_ne (by decide) _ _).trans h1.1.2.1, (setI_ne (by decide) _ _).trans h1.1.2.2⟩, fun x hx => ⟨(by simp only [setI_at, hx, and_false, if_false]; exact (h1.2.1 x hx).1), (setI_ne (by decide) _ _).trans (h1.2.1 x hx).2⟩, fun x hx => (setI_ne (by decide) _ _).trans (h1.2.2.1 x hx), h1.2.2.2.tr (KR.set (by omega))⟩)
              | (have e9 : STP1 E P y e (GON E P e y (bt wv (y - 1)) (fun _ _ => 0)) = (GON E P e y (bt wv (y - 1)) (fun _ _ => 0)) 0 e := if_neg (fun q => by have q2 := hRB.mp q.2; omega)
                 rw [e9]
                 exact ⟨rfl, h1⟩)
          · refine V_aload_0 (pc := 233) dX6_steps_233 ?_
            refine V_getc (pc := 234) dX6_steps_234 gf_X6_62 (by omega) ?_
            refine V_bipush (pc := 237) dX6_steps_237 (by decide) ?_
            refine V_iload_2 (pc := 239) dX6_steps_239 ?_
            refine V_imul (pc := 240) dX6_steps_240 ?_
            refine V_iload_1 (pc := 241) dX6_steps_241 ?_
            refine V_iadd (pc := 242) dX6_steps_242 ?_
            refine V_bipush (pc := 243) dX6_steps_243 (by decide) ?_
            refine V_aload_0 (pc := 245) dX6_steps_245 ?_
            refine V_getc (pc := 246) dX6_steps_246 gf_X6_62 (by omega) ?_
            refine V_bipush (pc := 249) dX6_steps_249 (by decide) ?_
            refine V_iload_2 (pc := 251) dX6_steps_251 ?_
            refine V_imul (pc := 252) dX6_steps_252 ?_
            refine V_iload_1 (pc := 253) dX6_steps_253 ?_
            refine V_iadd (pc := 254) dX6_steps_254 ?_
            refine V_iald (pc := 255) dX6_steps_255 sh_50 (by omega) (by omega) h1.1.1 ?_
            refine V_iconst (pc := 256) dX6_steps_256 ?_
            refine V_iadd (pc := 257) dX6_steps_257 ?_
            refine V_callS2p (pc := 258) dX6_steps_258 kv_X6_277 (d - 1) (by omega) rfl (c_X6_lessOf (by omega) (by omega) (by omega)) ?_
            refine V_iast (pc := 261) dX6_steps_261 sh_50 (by omega) (by omega) ?_
            refine V_vret (pc := 262) dX6_steps_262 rfl ?_
            first
              | (have e9 : STP1 E P y e (GON E P e y (bt wv (y - 1)) (fun _ _ => 0)) = min 60 ((GON E P e y (bt wv (y - 1)) (fun _ _ => 0)) 0 e + 1) := if_pos ⟨c_195, hRB.mpr ⟨c_201, by omega, c_213, by omega⟩⟩
                 rw [e9]
                 refine ⟨rfl, ⟨setI_same _ _ _ _ _, (setI_ne (by decide) _ _).trans h1.1.2.1, (setI_ne (by decide) _ _).trans h1.1.2.2⟩, fun x hx => ⟨(by simp only [setI_at, hx, and_false, if_false]; exact (h1.2.1 x hx).1), (setI_ne (by decide) _ _).trans (h1.2.1 x hx).2⟩, fun x hx => (setI_ne (by decide) _ _).trans (h1.2.2.1 x hx), h1.2.2.2.tr (KR.set (by omega))⟩)
              | (have e9 : STP1 E P y e (GON E P e y (bt wv (y - 1)) (fun _ _ => 0)) = (GON E P e y (bt wv (y - 1)) (fun _ _ => 0)) 0 e := if_neg (fun q => by have q2 := hRB.mp q.2; omega)
                 rw [e9]
                 exact ⟨rfl, h1⟩)
  refine V_aload_0 (pc := 0) dX6_steps_0 ?_
  refine V_getc (pc := 1) dX6_steps_1 gf_X6_68 (by omega) ?_
  refine V_iload_1 (pc := 4) dX6_steps_4 ?_
  refine V_iald (pc := 5) dX6_steps_5 sh_52 (by omega) (by omega) hI1 ?_
  refine V_istore_3 (pc := 6) dX6_steps_6 ?_
  refine V_aload_0 (pc := 7) dX6_steps_7 ?_
  refine V_iload_1 (pc := 8) dX6_steps_8 ?_
  refine V_iload_2 (pc := 9) dX6_steps_9 ?_
  refine V_iconst (pc := 10) dX6_steps_10 ?_
  refine V_isub (pc := 11) dX6_steps_11 ?_
  refine V_callV2p (pc := 12) dX6_steps_12 kv_X6_283 rc_34 (by omega) (d - 1) (by omega) rfl (c_X6_shadeOf (by omega) (by omega) (by omega) (s := P 0 e) ((hP0 e he).1)) ?_
  refine V_istore_4 (pc := 15) dX6_steps_15 ?_
  refine V_aload_0 (pc := 17) dX6_steps_17 ?_
  refine V_getc (pc := 18) dX6_steps_18 gf_X6_65 (by omega) ?_
  refine V_bipush (pc := 21) dX6_steps_21 (by decide) ?_
  refine V_iload_2 (pc := 23) dX6_steps_23 ?_
  refine V_imul (pc := 24) dX6_steps_24 ?_
  refine V_bipush (pc := 25) dX6_steps_25 (by decide) ?_
  refine V_isub (pc := 27) dX6_steps_27 ?_
  refine V_iload_1 (pc := 28) dX6_steps_28 ?_
  refine V_iadd (pc := 29) dX6_steps_29 ?_
  refine V_zald (pc := 30) dX6_steps_30 sh_51 (by omega) (by omega) (v := P 2 e) (by rw [show 7 * y - 7 + e = 7 * (y - 1) + e by omega]; exact hP2) ?_
  have hG := GON_in hWE (P := P) (e := e) (y := y) (w := bt wv (y - 1)) (bt_01 _ _) (by rw [hL.s6]; exact he) hp9 (by rw [hL.s4]; exact hb1)
  refine V_if_eq (pc := 31) 112 dX6_steps_31 (by decide) (by omega) (fun c_31 => ?_) (fun c_31 => ?_)
  · refine V_aload_0 (pc := 112) dX6_steps_112 ?_
    refine V_getc (pc := 113) dX6_steps_113 gf_X6_62 (by omega) ?_
    refine V_bipush (pc := 116) dX6_steps_116 (by decide) ?_
    refine V_iload_2 (pc := 118) dX6_steps_118 ?_
    refine V_imul (pc := 119) dX6_steps_119 ?_
    refine V_iload_1 (pc := 120) dX6_steps_120 ?_
    refine V_iadd (pc := 121) dX6_steps_121 ?_
    refine V_iconst (pc := 122) dX6_steps_122 ?_
    refine V_iload_4 (pc := 123) dX6_steps_123 ?_
    refine V_aload_0 (pc := 125) dX6_steps_125 ?_
    refine V_geti (pc := 126) dX6_steps_126 gf_X6_252 (by omega) hL.law ?_
    refine V_aload_0 (pc := 129) dX6_steps_129 ?_
    refine V_getc (pc := 130) dX6_steps_130 gf_X6_37 (by omega) ?_
    refine V_iconst (pc := 133) dX6_steps_133 ?_
    refine V_iload_3 (pc := 134) dX6_steps_134 ?_
    refine V_imul (pc := 135) dX6_steps_135 ?_
    refine V_iconst (pc := 136) dX6_steps_136 ?_
    refine V_iadd (pc := 137) dX6_steps_137 ?_
    refine V_iald (pc := 138) dX6_steps_138 sh_42 (by omega) (by omega) (v := E 9 (P 1 e)) (by rw [hL.e (t := 9) (by omega)]; first | exact hM.i2 (by omega) | (simp [setI_at]; exact hM.i2 (by omega))) ?_
    refine V_aload_0 (pc := 139) dX6_steps_139 ?_
    refine V_getc (pc := 140) dX6_steps_140 gf_X6_59 (by omega) ?_
    refine V_aload_0 (pc := 143) dX6_steps_143 ?_
    refine V_getc (pc := 144) dX6_steps_144 gf_X6_43 (by omega) ?_
    refine V_iconst (pc := 147) dX6_steps_147 ?_
    refine V_iload_1 (pc := 148) dX6_steps_148 ?_
    refine V_imul (pc := 149) dX6_steps_149 ?_
    refine V_iald (pc := 150) dX6_steps_150 sh_44 (by omega) (by omega) (hM.t0 (by omega)) ?_
    refine V_iald (pc := 151) dX6_steps_151 sh_49 (by omega) (by omega) (hL.dp (by omega)) ?_
    refine V_aload_0 (pc := 152) dX6_steps_152 ?_
    refine V_geti (pc := 153) dX6_steps_153 gf_X6_255 (by omega) hL.wet.1 ?_
    refine V_iload_2 (pc := 156) dX6_steps_156 ?_
    refine V_iconst (pc := 157) dX6_steps_157 ?_
    refine V_isub (pc := 158) dX6_steps_158 ?_
    refine V_ishr_p (pc := 159) dX6_steps_159 (by omega) (by omega) ?_
    refine V_iconst (pc := 160) dX6_steps_160 ?_
    refine V_iand_1 (pc := 161) dX6_steps_161 hwd ?_
    refine V_iload_2 (pc := 162) dX6_steps_162 ?_
    refine V_callS5p (pc := 163) dX6_steps_163 kv_X6_286 (d - 1) (by omega) rfl (c_X6_fadeBy (by omega) (by omega) (by omega) (by omega) (bt_01 _ _) (by omega)) ?_
    refine V_isub (pc := 166) dX6_steps_166 ?_
    refine V_callS2p (pc := 167) dX6_steps_167 kv_X6_280 (d - 1) (by omega) rfl (c_X6_moreOf (by omega) (by omega) (by omega)) ?_
    refine V_iast (pc := 170) dX6_steps_170 sh_50 (by omega) (by omega) ?_
    refine V_aload_0 (pc := 171) dX6_steps_171 ?_
    refine V_getc (pc := 172) dX6_steps_172 gf_X6_65 (by omega) ?_
    refine V_bipush (pc := 175) dX6_steps_175 (by decide) ?_
    refine V_iload_2 (pc := 177) dX6_steps_177 ?_
    refine V_imul (pc := 178) dX6_steps_178 ?_
    refine V_iload_1 (pc := 179) dX6_steps_179 ?_
    refine V_iadd (pc := 180) dX6_steps_180 ?_
    refine V_iconst (pc := 181) dX6_steps_181 ?_
    refine V_zast (pc := 182) dX6_steps_182 sh_51 (by omega) (by omega) (by omega) ?_
    have hG2 := hG.2.2.2 (by omega)
    refine at183 _ ⟨⟨?_, ?_, ?_⟩, fun x hx => by simp [setI_at, hx], fun x hx => by simp [setI_at], (KR.set (by omega)).tr (KR.set (by omega))⟩
    · rw [setI_ne (by decide), setI_same, hG2.1, e11]; rfl
    · simp [setI_at]; exact hI1
    · simp [setI_at]; exact hG2.2.symm
  · refine V_aload_0 (pc := 34) dX6_steps_34 ?_
    refine V_getc (pc := 35) dX6_steps_35 gf_X6_62 (by omega) ?_
    refine V_bipush (pc := 38) dX6_steps_38 (by decide) ?_
    refine V_iload_2 (pc := 40) dX6_steps_40 ?_
    refine V_imul (pc := 41) dX6_steps_41 ?_
    refine V_iload_1 (pc := 42) dX6_steps_42 ?_
    refine V_iadd (pc := 43) dX6_steps_43 ?_
    refine V_aload_0 (pc := 44) dX6_steps_44 ?_
    refine V_getc (pc := 45) dX6_steps_45 gf_X6_37 (by omega) ?_
    refine V_iconst (pc := 48) dX6_steps_48 ?_
    refine V_iload_3 (pc := 49) dX6_steps_49 ?_
    refine V_imul (pc := 50) dX6_steps_50 ?_
    refine V_iconst (pc := 51) dX6_steps_51 ?_
    refine V_iadd (pc := 52) dX6_steps_52 ?_
    refine V_iald (pc := 53) dX6_steps_53 sh_42 (by omega) (by omega) (v := E 8 (P 1 e)) (by rw [hL.e (t := 8) (by omega)]; first | exact hM.i1 (by omega) | (simp [setI_at]; exact hM.i1 (by omega))) ?_
    refine V_iload_4 (pc := 54) dX6_steps_54 ?_
    refine V_aload_0 (pc := 56) dX6_steps_56 ?_
    refine V_getc (pc := 57) dX6_steps_57 gf_X6_37 (by omega) ?_
    refine V_iconst (pc := 60) dX6_steps_60 ?_
    refine V_iload_3 (pc := 61) dX6_steps_61 ?_
    refine V_imul (pc := 62) dX6_steps_62 ?_
    refine V_iald (pc := 63) dX6_steps_63 sh_42 (by omega) (by omega) (v := E 7 (P 1 e)) (by rw [hL.e (t := 7) (by omega)]; first | exact hM.i0 (by omega) | (simp [setI_at]; exact hM.i0 (by omega))) ?_
    refine V_iadd (pc := 64) dX6_steps_64 ?_
    refine V_callS2p (pc := 65) dX6_steps_65 kv_X6_277 (d - 1) (by omega) rfl (c_X6_lessOf (by omega) (by omega) (by omega)) ?_
    refine V_iast (pc := 68) dX6_steps_68 sh_50 (by omega) (by omega) ?_
    refine V_aload_0 (pc := 69) dX6_steps_69 ?_
    refine V_getc (pc := 70) dX6_steps_70 gf_X6_65 (by omega) ?_
    refine V_bipush (pc := 73) dX6_steps_73 (by decide) ?_
    refine V_iload_2 (pc := 75) dX6_steps_75 ?_
    refine V_imul (pc := 76) dX6_steps_76 ?_
    refine V_iload_1 (pc := 77) dX6_steps_77 ?_
    refine V_iadd (pc := 78) dX6_steps_78 ?_
    refine V_iload_4 (pc := 79) dX6_steps_79 ?_
    refine V_aload_0 (pc := 81) dX6_steps_81 ?_
    refine V_getc (pc := 82) dX6_steps_82 gf_X6_37 (by omega) ?_
    refine V_iconst (pc := 85) dX6_steps_85 ?_
    refine V_iload_3 (pc := 86) dX6_steps_86 ?_
    refine V_imul (pc := 87) dX6_steps_87 ?_
    refine V_iald (pc := 88) dX6_steps_88 sh_42 (by omega) (by omega) (v := E 7 (P 1 e)) (by rw [hL.e (t := 7) (by omega)]; first | exact hM.i0 (by omega) | (simp [setI_at]; exact hM.i0 (by omega))) ?_
    refine V_iadd (pc := 89) dX6_steps_89 ?_
    refine V_aload_0 (pc := 90) dX6_steps_90 ?_
    refine V_getc (pc := 91) dX6_steps_91 gf_X6_37 (by omega) ?_
    refine V_iconst (pc := 94) dX6_steps_94 ?_
    refine V_iload_3 (pc := 95) dX6_steps_95 ?_
    refine V_imul (pc := 96) dX6_steps_96 ?_
    refine V_iconst (pc := 97) dX6_steps_97 ?_
    refine V_iadd (pc := 98) dX6_steps_98 ?_
    refine V_iald (pc := 99) dX6_steps_99 sh_42 (by omega) (by omega) (v := E 8 (P 1 e)) (by rw [hL.e (t := 8) (by omega)]; first | exact hM.i1 (by omega) | (simp [setI_at]; exact hM.i1 (by omega))) ?_
    refine V_icmp_ge (pc := 100) 107 dX6_steps_100 (by decide) (by omega) (by omega) (fun c_100 => ?_) (fun c_100 => ?_)
    · refine V_iconst (pc := 107) dX6_steps_107 ?_
      refine V_zast (pc := 108) dX6_steps_108 sh_51 (by omega) (by omega) (by omega) ?_
      refine V_goto (pc := 109) 183 dX6_steps_109 (by decide) ?_
      refine at183 _ ⟨⟨?_, ?_, ?_⟩, fun x hx => by simp [setI_at, hx], fun x hx => by simp [setI_at], (KR.set (by omega)).tr (KR.set (by omega))⟩
      · simp [setI_at]; omega
      · simp [setI_at]; exact hI1
      · simp [setI_at]; have hG2 := hG.2.2.1 (by omega); rw [hG2.2]; exact (bI_f (by omega)).symm
    · refine V_iconst (pc := 103) dX6_steps_103 ?_
      refine V_goto (pc := 104) 108 dX6_steps_104 (by decide) ?_
      refine V_zast (pc := 108) dX6_steps_108 sh_51 (by omega) (by omega) (by omega) ?_
      refine V_goto (pc := 109) 183 dX6_steps_109 (by decide) ?_
      refine at183 _ ⟨⟨?_, ?_, ?_⟩, fun x hx => by simp [setI_at, hx], fun x hx => by simp [setI_at], (KR.set (by omega)).tr (KR.set (by omega))⟩
      · simp [setI_at]; omega
      · simp [setI_at]; exact hI1
      · simp [setI_at]; have hG2 := hG.2.2.1 (by omega); rw [hG2.2]; exact (bI_t (by omega)).symm
