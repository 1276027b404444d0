/-! THE LAW: rows, and what stays -/
section LAWR
variable {yy : MethodName} {cc : ByteArray} {nL d pc : Nat} {ret : Option FieldType} {Q : Option AV → MM → Prop} {ls : List (Option AV)} {st : List AV} {σ : MM}
theorem V.sc (h : V yy cc nL ret d Q pc ls st σ) : V yy cc nL ret d (fun r σ' => Q r σ' ∧ σ' 92 = σ 92) pc ls st σ := by
  intro hn p l e R s m args below meth c D ca ad A cells slots C H locs la hP hS hl T hT X
  obtain ⟨t, a, o, b1, b2, ⟨⟨r, σ', e1, e2, e3, e4⟩, e5⟩, b4⟩ := h hn p l e R s m args below meth c D ca ad A cells slots C H locs la hP hS hl T hT X
  exact ⟨t, a, o, b1, b2, ⟨⟨r, σ', e1, ⟨e2, e3⟩, e3, e4⟩, e5⟩, b4⟩
theorem V.mono {Q' : Option AV → MM → Prop} (h : V yy cc nL ret d Q pc ls st σ) (hq : ∀ r σ', Q r σ' → Q' r σ') : V yy cc nL ret d Q' pc ls st σ := by
  intro hn p l e R s m args below meth c D ca ad A cells slots C H locs la hP hS hl T hT X
  obtain ⟨t, a, o, b1, b2, ⟨⟨r, σ', e1, e2, e3, e4⟩, e5⟩, b4⟩ := h hn p l e R s m args below meth c D ca ad A cells slots C H locs la hP hS hl T hT X
  exact ⟨t, a, o, b1, b2, ⟨⟨r, σ', e1, hq r σ' e2, e3, e4⟩, e5⟩, b4⟩
theorem V.sci {P : Int → MM → Prop} (h : V yy cc nL ret d (QI P) pc ls st σ) : V yy cc nL ret d (QI (fun v σ' => P v σ' ∧ σ' 92 = σ 92)) pc ls st σ :=
  h.sc.mono (fun r σ' h => by obtain ⟨⟨v, a, b⟩, c⟩ := h; exact ⟨v, a, b, c⟩)
theorem V.scj {P : Int → MM → Prop} (h : V yy cc nL ret d (QJ P) pc ls st σ) : V yy cc nL ret d (QJ (fun v σ' => P v σ' ∧ σ' 92 = σ 92)) pc ls st σ :=
  h.sc.mono (fun r σ' h => by obtain ⟨⟨v, a, b⟩, c⟩ := h; exact ⟨v, a, b, c⟩)
theorem V_sld {n z v : Int} (d0 : decode cc pc = .ok (.iaload, 1)) (hn0 : σ 92 1 0 = n) (hn1 : n ≤ 3072) (hz : 0 ≤ z ∧ z < n) (hv : σ 92 0 z = v) (k9 : V yy cc nL ret d Q (pc + 1) ls (vI v :: st) σ) : V yy cc nL ret d Q pc ls (vI z :: vR 92 0 :: st) σ := by
  subst hv
  subst hn0
  intro hn p l e R s m args below meth c D ca ad A cells slots C H locs la hP hS hl
  obtain ⟨f1, f2, f3, f4, f5, f6⟩ := C.F
  have hzn : z < ((σ 92 1 0).toNat : Int) := by omega
  refine va_sld C.x C.b f4 f6 f5 hS (iN_in hz.1 hzn (by omega)) d0 ?_
  show W _ _ _ _ _ _ _ _ _ _ _ _ _ _ _ (F0 _ _ _ (.int (iN (σ 92 0 ((iN z).toNatClampNeg : Int))) :: _))
  rw [iN_cl hz.1 hzn (by omega)]
  exact k9 hn p l e R s m args below meth c D ca ad A cells slots C H locs la hP hS hl
theorem V_slen {n : Int} (d0 : decode cc pc = .ok (.arraylength, 1)) (hn0 : σ 92 1 0 = n) (hn1 : 0 ≤ n) (k9 : V yy cc nL ret d Q (pc + 1) ls (vI n :: st) σ) : V yy cc nL ret d Q pc ls (vR 92 0 :: st) σ := by
  subst hn0
  intro hn p l e R s m args below meth c D ca ad A cells slots C H locs la hP hS hl
  obtain ⟨f1, f2, f3, f4, f5, f6⟩ := C.F
  refine va_slen C.x C.b f4 f6 f5 hS d0 ?_
  have e9 : Int32.ofNat (σ 92 1 0).toNat = iN (σ 92 1 0) := by
    have := iN_nat (σ 92 1 0).toNat
    rw [Int.toNat_of_nonneg hn1] at this
    exact this.symm
  rw [e9]
  exact k9 hn p l e R s m args below meth c D ca ad A cells slots C H locs la hP hS hl
theorem V_icmp_same {x y off : Int} (tgt : Nat) (d0 : decode cc pc = .ok (.if_icmp .eq off, 3)) (ht : (pc : Int) + off = (tgt : Int)) (hxy : x = y) (kt : V yy cc nL ret d Q tgt ls st σ) : V yy cc nL ret d Q pc ls (vI y :: vI x :: st) σ := by
  subst hxy
  intro hn p l e R s m args below meth c D ca ad A cells slots C H locs la hP hS hl
  exact lv_icmp_eq C.x C.b d0 ht (fun h => kt hn p l e R s m args below meth c D ca ad A cells slots C H locs la hP hS hl) (fun h => absurd rfl h)
theorem V_lcmp_same {x y : Int} (d0 : decode cc pc = .ok (.lcmp, 1)) (hxy : x = y) (k : V yy cc nL ret d Q (pc + 1) ls (vI 0 :: st) σ) : V yy cc nL ret d Q pc ls (vL y :: vL x :: st) σ := by
  subst hxy
  intro hn p l e R s m args below meth c D ca ad A cells slots C H locs la hP hS hl
  refine W.lcmp C.x C.b d0 ?_
  have e9 : lg_cmp (lI x) (lI x) = iN 0 := by
    unfold lg_cmp
    have h1 : ¬ lI x < lI x := fun z => absurd (Int64.lt_iff_toInt_lt.mp z) (Int.lt_irrefl _)
    rw [if_neg h1, if_pos rfl]; rfl
  rw [e9]
  exact k hn p l e R s m args below meth c D ca ad A cells slots C H locs la hP hS hl
end LAWR
theorem FM.crl {σ σ' : MM} {X : CST} (h : FM σ σ') (hX : CRl σ X) : CRl σ' X := by
  refine ⟨⟨hX.b.cong (fun t ht => by rw [h t (by omega)]), hX.g, ?_⟩, hX.z.cong (h 27 (by omega)) (h 28 (by omega)), hX.r.cong (by rw [h 1 (by omega)]) (h 2 (by omega)), ?_, hX.i.cong (h 25 (by omega)) (fun t ht b hb => by rw [h t (by omega)])⟩
  · intro y hy
    have hk := hX.c y hy
    have e : RS σ' 0 y = RS σ 0 y := by unfold RS; rw [h 21 (by omega), h 22 (by omega), h 23 (by omega)]
    unfold RK at hk ⊢
    rw [e, h 21 (by omega)]
    exact hk
  · rw [h 0 (by omega)]
    exact hX.f
def M7 (x : Int) : Int := (iN x &&& iN 127).toInt
theorem M7_e (x : Int) : iN x &&& iN 127 = iN (M7 x) := (iN_self _).symm
theorem M7_in (x : Int) : IR (M7 x) := by
  have h1 := Int32.le_toInt (iN x &&& iN 127)
  have h2 := Int32.toInt_lt (iN x &&& iN 127)
  unfold M7
  omega
def LSH (x : Int) : Int := (lI x <<< ((iN 32).toInt64 &&& 63)).toInt
def LND (x y : Int) : Int := (lI x &&& lI y).toInt
def LOR (x y : Int) : Int := (lI x ||| lI y).toInt
theorem LSH_e (x : Int) : lI x <<< ((iN 32).toInt64 &&& 63) = lI (LSH x) := (lI_self _).symm
theorem LND_e (x y : Int) : lI x &&& lI y = lI (LND x y) := (lI_self _).symm
theorem LOR_e (x y : Int) : lI x ||| lI y = lI (LOR x y) := (lI_self _).symm
theorem LOR_in (x y : Int) : LR (LOR x y) := by
  have h1 := Int64.le_toInt (lI x ||| lI y)
  have h2 := Int64.toInt_lt (lI x ||| lI y)
  unfold LOR
  omega
def LQ : Option AV → MM → Prop := QI (fun v _ => v = 1)
