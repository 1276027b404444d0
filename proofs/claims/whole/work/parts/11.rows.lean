/-! numbers: an int of the machine is iN z -/
abbrev IR (z : Int) : Prop := -2147483648 ≤ z ∧ z ≤ 2147483647
abbrev LR (z : Int) : Prop := -9223372036854775808 ≤ z ∧ z ≤ 9223372036854775807
theorem iN_toInt {z : Int} (h : IR z) : (iN z).toInt = z := Int32.toInt_ofInt_of_le (by have := h.1; omega) (by have := h.2; omega)
theorem lI_toInt {z : Int} (h : LR z) : (lI z).toInt = z := Int64.toInt_ofInt_of_le (by have := h.1; omega) (by have := h.2; omega)
theorem iN_self (x : Int32) : iN x.toInt = x := Int32.ofInt_toInt x
theorem lI_self (x : Int64) : lI x.toInt = x := Int64.ofInt_toInt x
theorem toInt_IR (x : Int32) : IR x.toInt := ⟨x.le_toInt, by have := x.toInt_lt; omega⟩
theorem toInt_LR (x : Int64) : LR x.toInt := ⟨x.le_toInt, by have := x.toInt_lt; omega⟩
theorem iN_add (a b : Int) : iN a + iN b = iN (a + b) := (Int32.ofInt_add a b).symm
theorem iN_sub (a b : Int) : iN a - iN b = iN (a - b) := (Int32.ofInt_sub a b).symm
theorem iN_mul (a b : Int) : iN a * iN b = iN (a * b) := (Int32.ofInt_mul a b).symm
theorem lI_add (a b : Int) : lI a + lI b = lI (a + b) := (Int64.ofInt_add a b).symm
theorem lI_sub (a b : Int) : lI a - lI b = lI (a - b) := (Int64.ofInt_sub a b).symm
theorem lI_mul (a b : Int) : lI a * lI b = lI (a * b) := (Int64.ofInt_mul a b).symm
theorem iN_lt {a b : Int} (ha : IR a) (hb : IR b) : iN a < iN b ↔ a < b := by rw [Int32.lt_iff_toInt_lt, iN_toInt ha, iN_toInt hb]
theorem iN_le {a b : Int} (ha : IR a) (hb : IR b) : iN a ≤ iN b ↔ a ≤ b := by rw [Int32.le_iff_toInt_le, iN_toInt ha, iN_toInt hb]
theorem iN_eq {a b : Int} (ha : IR a) (hb : IR b) : iN a = iN b ↔ a = b := by rw [← Int32.toInt_inj, iN_toInt ha, iN_toInt hb]
theorem lI_lt {a b : Int} (ha : LR a) (hb : LR b) : lI a < lI b ↔ a < b := by rw [Int64.lt_iff_toInt_lt, lI_toInt ha, lI_toInt hb]
theorem lI_eq {a b : Int} (ha : LR a) (hb : LR b) : lI a = lI b ↔ a = b := by rw [← Int64.toInt_inj, lI_toInt ha, lI_toInt hb]
theorem iN_0 : iN 0 = 0 := rfl
theorem iN_cl {z : Int} {n : Nat} (h0 : 0 ≤ z) (h1 : z < n) (hn : n < 2147483648) : ((iN z).toNatClampNeg : Int) = z := by
  show (((iN z).toInt.toNat : Nat) : Int) = z
  rw [iN_toInt ⟨by omega, by omega⟩]
  omega
theorem iN_in {z : Int} {n : Nat} (h0 : 0 ≤ z) (h1 : z < n) (hn : n < 2147483648) : vp_in (iN z) n := by
  rw [vp_in_iff, iN_toInt ⟨by omega, by omega⟩]
  exact ⟨h0, h1⟩
theorem tn {k : Int} (h : 0 ≤ k) : ((k.toNat : Nat) : Int) = k := Int.toNat_of_nonneg h
def b8 (z : Int) : Int := Int.bmod z 256
theorem iN_b8 (z : Int) : (iN z).toInt8.toInt32 = iN (b8 z) := by
  show (Int32.ofInt z).toInt8.toInt32 = Int32.ofInt (Int.bmod z 256)
  rw [Int32.toInt8_ofInt, ← Int32.ofInt_int8ToInt, Int8.toInt_ofInt]
def b16 (z : Int) : Int := Int.bmod z 65536
theorem iN_b16 (z : Int) : (iN z).toInt16.toInt32 = iN (b16 z) := by
  show (Int32.ofInt z).toInt16.toInt32 = Int32.ofInt (Int.bmod z 65536)
  rw [Int32.toInt16_ofInt, ← Int32.ofInt_int16ToInt, Int16.toInt_ofInt]
theorem lI_i (z : Int) : (lI z).toInt32 = iN z := Int64.toInt32_ofInt
theorem iN_l {z : Int} (h : IR z) : (iN z).toInt64 = lI z := by
  apply Int64.toInt_inj.mp
  rw [Int32.toInt_toInt64, iN_toInt h, lI_toInt ⟨by have := h.1; omega, by have := h.2; omega⟩]
def bI (c : Prop) [Decidable c] : Int := if c then 1 else 0
/-! shapes, fields -/
def FL (own : String) (idx ci j : Nat) (desc : String) (fin : Bool) : Prop := ∃ (C : String) (T : u_T) (N : Nat) (ty0 : Nat → FieldType), vwCl[ci]? = some (C, T, N) ∧ j < N ∧ (∀ w ∈ u_ws C T N, w ∈ lwG) ∧ Cond.fieldLink own idx (T j).1 (T j).2.1 (T j).2.2.1 ∈ lwG ∧ (∀ k, k < N → parseFieldDescriptor (T k).2.2.1 = some (ty0 k)) ∧ (∀ a, a < N → ∀ b, b < N → a ≠ b → (T a).2.1 ≠ (T b).2.1) ∧ (T j).2.2.1 = desc ∧ (T j).2.2.2 = fin
def GF (own : String) (idx t : Nat) (j : Int) (f : Nat ⊕ (Int → Nat × Int)) (desc : String) (fin : Bool) (N : Nat) : Prop := ∃ (ci jn : Nat) (fs : List (Nat ⊕ (Int → Nat × Int))), FL own idx ci jn desc fin ∧ (jn : Int) = j ∧ shp t = shO ci fs ∧ fs[jn]? = some f ∧ cnt t = N
def KC (y : MethodName) (cc : ByteArray) (nL : Nat) (ret : Option FieldType) (n : Nat) : Prop := Cond.code y cc nL ret ∈ lwG ∧ Cond.initialized y.cls ∈ lwG ∧ plainName y.cls = true ∧ y.cls ≠ "java/lang/invoke/MethodHandle" ∧ y.cls ≠ "java/lang/invoke/VarHandle" ∧ (parseMethodDescriptor y.desc).map (fun d => d.parameters.length) = some n ∧ nL ≤ 22
def KV (own : String) (idx : Nat) (y : MethodName) (cc : ByteArray) (nL : Nat) (ret : Option FieldType) (n : Nat) : Prop := KC y cc nL ret n ∧ Cond.methodLink own idx y ∈ lwG ∧ Cond.instanceMethod y ∈ lwG ∧ Cond.selects y.cls y y ∈ lwG
def KS (own : String) (idx : Nat) (y : MethodName) (cc : ByteArray) (nL : Nat) (ret : Option FieldType) (n : Nat) : Prop := KC y cc nL ret n ∧ Cond.methodLink own idx y ∈ lwG ∧ Cond.static y ∈ lwG
def RC (t : Nat) (C : String) (N : Nat) : Prop := ∃ (ci : Nat) (fs : List (Nat ⊕ (Int → Nat × Int))) (q : vw_C), shp t = shO ci fs ∧ vwCl[ci]? = some q ∧ q.1 = C ∧ cnt t = N
def QI (P : Int → MM → Prop) : Option AV → MM → Prop := fun r σ => ∃ v : Int, r = some (vI v) ∧ P v σ
def QJ (P : Int → MM → Prop) : Option AV → MM → Prop := fun r σ => ∃ v : Int, r = some (vL v) ∧ P v σ
def QZ (P : MM → Prop) : Option AV → MM → Prop := fun r σ => r = none ∧ P σ
section ROWS
variable {yy : MethodName} {cc : ByteArray} {nL d pc : Nat} {ret : Option FieldType} {Q : Option AV → MM → Prop} {ls : List (Option AV)} {st : List AV} {σ : MM}
theorem V.weaken {Q' : Option AV → MM → Prop} (hq : ∀ r σ', Q r σ' → Q' r σ') (k : V yy cc nL ret d Q pc ls st σ) : V yy cc nL ret d Q' pc ls st σ := by
  intro hn p l e R s m args below meth c D ca ad A cells slots C H locs la hP hS hl T hT X
  obtain ⟨t, a1, o, b1, b2, ⟨⟨r, σ', c1, c2, c3⟩, c4⟩, b4⟩ := k hn p l e R s m args below meth c D ca ad A cells slots C H locs la hP hS hl T hT X
  exact ⟨t, a1, o, b1, b2, ⟨⟨r, σ', c1, hq r σ' c2, c3⟩, c4⟩, b4⟩
theorem V.at {pc' : Nat} (e : pc = pc') (k : V yy cc nL ret d Q pc' ls st σ) : V yy cc nL ret d Q pc ls st σ := e ▸ k
theorem V_iadd {x y : Int} (d0 : decode cc pc = .ok (.iadd, 1)) (k : V yy cc nL ret d Q (pc + 1) ls (vI (x + y) :: st) σ) : V yy cc nL ret d Q pc ls (vI y :: vI x :: st) σ := by
  intro hn p l e R s m args below meth c D ca ad A cells slots C H locs la hP hS hl
  refine lv_iadd C.x C.b d0 ?_
  rw [iN_add]
  exact (k hn p l e R s m args below meth c D ca ad A cells slots C H locs la hP hS hl)
theorem V_isub {x y : Int} (d0 : decode cc pc = .ok (.isub, 1)) (k : V yy cc nL ret d Q (pc + 1) ls (vI (x - y) :: st) σ) : V yy cc nL ret d Q pc ls (vI y :: vI x :: st) σ := by
  intro hn p l e R s m args below meth c D ca ad A cells slots C H locs la hP hS hl
  refine lv_isub C.x C.b d0 ?_
  rw [iN_sub]
  exact (k hn p l e R s m args below meth c D ca ad A cells slots C H locs la hP hS hl)
theorem V_imul {x y : Int} (d0 : decode cc pc = .ok (.imul, 1)) (k : V yy cc nL ret d Q (pc + 1) ls (vI (x * y) :: st) σ) : V yy cc nL ret d Q pc ls (vI y :: vI x :: st) σ := by
  intro hn p l e R s m args below meth c D ca ad A cells slots C H locs la hP hS hl
  refine lv_imul C.x C.b d0 ?_
  rw [iN_mul]
  exact (k hn p l e R s m args below meth c D ca ad A cells slots C H locs la hP hS hl)
theorem V_ladd {x y : Int} (d0 : decode cc pc = .ok (.ladd, 1)) (k : V yy cc nL ret d Q (pc + 1) ls (vL (x + y) :: st) σ) : V yy cc nL ret d Q pc ls (vL y :: vL x :: st) σ := by
  intro hn p l e R s m args below meth c D ca ad A cells slots C H locs la hP hS hl
  refine lv_ladd C.x C.b d0 ?_
  rw [lI_add]
  exact (k hn p l e R s m args below meth c D ca ad A cells slots C H locs la hP hS hl)
theorem V_lsub {x y : Int} (d0 : decode cc pc = .ok (.lsub, 1)) (k : V yy cc nL ret d Q (pc + 1) ls (vL (x - y) :: st) σ) : V yy cc nL ret d Q pc ls (vL y :: vL x :: st) σ := by
  intro hn p l e R s m args below meth c D ca ad A cells slots C H locs la hP hS hl
  refine lv_lsub C.x C.b d0 ?_
  rw [lI_sub]
  exact (k hn p l e R s m args below meth c D ca ad A cells slots C H locs la hP hS hl)
theorem V_lmul {x y : Int} (d0 : decode cc pc = .ok (.lmul, 1)) (k : V yy cc nL ret d Q (pc + 1) ls (vL (x * y) :: st) σ) : V yy cc nL ret d Q pc ls (vL y :: vL x :: st) σ := by
  intro hn p l e R s m args below meth c D ca ad A cells slots C H locs la hP hS hl
  refine lv_lmul C.x C.b d0 ?_
  rw [lI_mul]
  exact (k hn p l e R s m args below meth c D ca ad A cells slots C H locs la hP hS hl)
theorem V_iand {x y : Int} {v : Int} (d0 : decode cc pc = .ok (.iand, 1))  (hv : iN x &&& iN y = iN v) (k : V yy cc nL ret d Q (pc + 1) ls (vI v :: st) σ) : V yy cc nL ret d Q pc ls (vI y :: vI x :: st) σ := by
  intro hn p l e R s m args below meth c D ca ad A cells slots C H locs la hP hS hl
  refine lv_iand C.x C.b d0  ?_
  rw [hv]
  exact (k hn p l e R s m args below meth c D ca ad A cells slots C H locs la hP hS hl)
theorem V_ior {x y : Int} {v : Int} (d0 : decode cc pc = .ok (.ior, 1))  (hv : iN x ||| iN y = iN v) (k : V yy cc nL ret d Q (pc + 1) ls (vI v :: st) σ) : V yy cc nL ret d Q pc ls (vI y :: vI x :: st) σ := by
  intro hn p l e R s m args below meth c D ca ad A cells slots C H locs la hP hS hl
  refine lv_ior C.x C.b d0  ?_
  rw [hv]
  exact (k hn p l e R s m args below meth c D ca ad A cells slots C H locs la hP hS hl)
theorem V_ixor {x y : Int} {v : Int} (d0 : decode cc pc = .ok (.ixor, 1))  (hv : iN x ^^^ iN y = iN v) (k : V yy cc nL ret d Q (pc + 1) ls (vI v :: st) σ) : V yy cc nL ret d Q pc ls (vI y :: vI x :: st) σ := by
  intro hn p l e R s m args below meth c D ca ad A cells slots C H locs la hP hS hl
  refine lv_ixor C.x C.b d0  ?_
  rw [hv]
  exact (k hn p l e R s m args below meth c D ca ad A cells slots C H locs la hP hS hl)
theorem V_ishl {x y : Int} {v : Int} (d0 : decode cc pc = .ok (.ishl, 1))  (hv : iN x <<< (iN y &&& 31) = iN v) (k : V yy cc nL ret d Q (pc + 1) ls (vI v :: st) σ) : V yy cc nL ret d Q pc ls (vI y :: vI x :: st) σ := by
  intro hn p l e R s m args below meth c D ca ad A cells slots C H locs la hP hS hl
  refine lv_ishl C.x C.b d0  ?_
  rw [hv]
  exact (k hn p l e R s m args below meth c D ca ad A cells slots C H locs la hP hS hl)
theorem V_ishr {x y : Int} {v : Int} (d0 : decode cc pc = .ok (.ishr, 1))  (hv : iN x >>> (iN y &&& 31) = iN v) (k : V yy cc nL ret d Q (pc + 1) ls (vI v :: st) σ) : V yy cc nL ret d Q pc ls (vI y :: vI x :: st) σ := by
  intro hn p l e R s m args below meth c D ca ad A cells slots C H locs la hP hS hl
  refine lv_ishr C.x C.b d0  ?_
  rw [hv]
  exact (k hn p l e R s m args below meth c D ca ad A cells slots C H locs la hP hS hl)
theorem V_idiv {x y : Int} {v : Int} (d0 : decode cc pc = .ok (.idiv, 1)) (h0 : ¬ iN y = 0) (hv : iN x / iN y = iN v) (k : V yy cc nL ret d Q (pc + 1) ls (vI v :: st) σ) : V yy cc nL ret d Q pc ls (vI y :: vI x :: st) σ := by
  intro hn p l e R s m args below meth c D ca ad A cells slots C H locs la hP hS hl
  refine lv_idiv C.x C.b d0 h0 ?_
  rw [hv]
  exact (k hn p l e R s m args below meth c D ca ad A cells slots C H locs la hP hS hl)
theorem V_irem {x y : Int} {v : Int} (d0 : decode cc pc = .ok (.irem, 1)) (h0 : ¬ iN y = 0) (hv : iN x - iN x / iN y * iN y = iN v) (k : V yy cc nL ret d Q (pc + 1) ls (vI v :: st) σ) : V yy cc nL ret d Q pc ls (vI y :: vI x :: st) σ := by
  intro hn p l e R s m args below meth c D ca ad A cells slots C H locs la hP hS hl
  refine lv_irem C.x C.b d0 h0 ?_
  rw [hv]
  exact (k hn p l e R s m args below meth c D ca ad A cells slots C H locs la hP hS hl)
theorem V_land {x y : Int} {v : Int} (d0 : decode cc pc = .ok (.land, 1))  (hv : lI x &&& lI y = lI v) (k : V yy cc nL ret d Q (pc + 1) ls (vL v :: st) σ) : V yy cc nL ret d Q pc ls (vL y :: vL x :: st) σ := by
  intro hn p l e R s m args below meth c D ca ad A cells slots C H locs la hP hS hl
  refine lv_land C.x C.b d0  ?_
  rw [hv]
  exact (k hn p l e R s m args below meth c D ca ad A cells slots C H locs la hP hS hl)
theorem V_lor {x y : Int} {v : Int} (d0 : decode cc pc = .ok (.lor, 1))  (hv : lI x ||| lI y = lI v) (k : V yy cc nL ret d Q (pc + 1) ls (vL v :: st) σ) : V yy cc nL ret d Q pc ls (vL y :: vL x :: st) σ := by
  intro hn p l e R s m args below meth c D ca ad A cells slots C H locs la hP hS hl
  refine lv_lor C.x C.b d0  ?_
  rw [hv]
  exact (k hn p l e R s m args below meth c D ca ad A cells slots C H locs la hP hS hl)
theorem V_ldiv {x y : Int} {v : Int} (d0 : decode cc pc = .ok (.ldiv, 1)) (h0 : ¬ lI y = 0) (hv : lI x / lI y = lI v) (k : V yy cc nL ret d Q (pc + 1) ls (vL v :: st) σ) : V yy cc nL ret d Q pc ls (vL y :: vL x :: st) σ := by
  intro hn p l e R s m args below meth c D ca ad A cells slots C H locs la hP hS hl
  refine lv_ldiv C.x C.b d0 h0 ?_
  rw [hv]
  exact (k hn p l e R s m args below meth c D ca ad A cells slots C H locs la hP hS hl)
theorem V_lrem {x y : Int} {v : Int} (d0 : decode cc pc = .ok (.lrem, 1)) (h0 : ¬ lI y = 0) (hv : lI x - lI x / lI y * lI y = lI v) (k : V yy cc nL ret d Q (pc + 1) ls (vL v :: st) σ) : V yy cc nL ret d Q pc ls (vL y :: vL x :: st) σ := by
  intro hn p l e R s m args below meth c D ca ad A cells slots C H locs la hP hS hl
  refine lv_lrem C.x C.b d0 h0 ?_
  rw [hv]
  exact (k hn p l e R s m args below meth c D ca ad A cells slots C H locs la hP hS hl)
theorem V_iushr {x y : Int} {v : Int} (d0 : decode cc pc = .ok (.iushr, 1))  (hv : ((iN x).toUInt32 >>> ((iN y).toUInt32 &&& Int32.toUInt32 31)).toInt32 = iN v) (k : V yy cc nL ret d Q (pc + 1) ls (vI v :: st) σ) : V yy cc nL ret d Q pc ls (vI y :: vI x :: st) σ := by
  intro hn p l e R s m args below meth c D ca ad A cells slots C H locs la hP hS hl
  refine lv_iushr C.x C.b d0 rfl ?_
  rw [hv]
  exact (k hn p l e R s m args below meth c D ca ad A cells slots C H locs la hP hS hl)
theorem V_lshl {x y : Int} {v : Int} (d0 : decode cc pc = .ok (.lshl, 1))  (hv : lI x <<< ((iN y).toInt64 &&& 63) = lI v) (k : V yy cc nL ret d Q (pc + 1) ls (vL v :: st) σ) : V yy cc nL ret d Q pc ls (vI y :: vL x :: st) σ := by
  intro hn p l e R s m args below meth c D ca ad A cells slots C H locs la hP hS hl
  refine lv_lshl C.x C.b d0 rfl ?_
  rw [hv]
  exact (k hn p l e R s m args below meth c D ca ad A cells slots C H locs la hP hS hl)
theorem V_lshr {x y : Int} {v : Int} (d0 : decode cc pc = .ok (.lshr, 1))  (hv : lI x >>> ((iN y).toInt64 &&& 63) = lI v) (k : V yy cc nL ret d Q (pc + 1) ls (vL v :: st) σ) : V yy cc nL ret d Q pc ls (vI y :: vL x :: st) σ := by
  intro hn p l e R s m args below meth c D ca ad A cells slots C H locs la hP hS hl
  refine lv_lshr C.x C.b d0 rfl ?_
  rw [hv]
  exact (k hn p l e R s m args below meth c D ca ad A cells slots C H locs la hP hS hl)
theorem V_i2l {x : Int} (d0 : decode cc pc = .ok (.i2l, 1)) (hx : IR x) (k : V yy cc nL ret d Q (pc + 1) ls (vL x :: st) σ) : V yy cc nL ret d Q pc ls (vI x :: st) σ := by
  intro hn p l e R s m args below meth c D ca ad A cells slots C H locs la hP hS hl
  exact lv_i2l C.x C.b d0 (iN_l hx) (k hn p l e R s m args below meth c D ca ad A cells slots C H locs la hP hS hl)
theorem V_l2i {x : Int} (d0 : decode cc pc = .ok (.l2i, 1)) (k : V yy cc nL ret d Q (pc + 1) ls (vI x :: st) σ) : V yy cc nL ret d Q pc ls (vL x :: st) σ := by
  intro hn p l e R s m args below meth c D ca ad A cells slots C H locs la hP hS hl
  exact lv_l2i C.x C.b d0 (lI_i x) (k hn p l e R s m args below meth c D ca ad A cells slots C H locs la hP hS hl)
theorem V_i2b {x : Int} (d0 : decode cc pc = .ok (.i2b, 1)) (k : V yy cc nL ret d Q (pc + 1) ls (vI (b8 x) :: st) σ) : V yy cc nL ret d Q pc ls (vI x :: st) σ := by
  intro hn p l e R s m args below meth c D ca ad A cells slots C H locs la hP hS hl
  exact lv_i2b C.x C.b d0 (iN_b8 x) (k hn p l e R s m args below meth c D ca ad A cells slots C H locs la hP hS hl)
theorem V_i2s {x : Int} (d0 : decode cc pc = .ok (.i2s, 1)) (k : V yy cc nL ret d Q (pc + 1) ls (vI (b16 x) :: st) σ) : V yy cc nL ret d Q pc ls (vI x :: st) σ := by
  intro hn p l e R s m args below meth c D ca ad A cells slots C H locs la hP hS hl
  exact lv_i2s C.x C.b d0 (iN_b16 x) (k hn p l e R s m args below meth c D ca ad A cells slots C H locs la hP hS hl)
theorem V_i2c {x v : Int} (d0 : decode cc pc = .ok (.i2c, 1)) (hv : ((iN x).toUInt32 % 65536).toInt32 = iN v) (k : V yy cc nL ret d Q (pc + 1) ls (vI v :: st) σ) : V yy cc nL ret d Q pc ls (vI x :: st) σ := by
  intro hn p l e R s m args below meth c D ca ad A cells slots C H locs la hP hS hl
  exact lv_i2c C.x C.b d0 hv (k hn p l e R s m args below meth c D ca ad A cells slots C H locs la hP hS hl)
theorem V_iconst {n : Int} (d0 : decode cc pc = .ok (.iconst n, 1)) (k : V yy cc nL ret d Q (pc + 1) ls (vI n :: st) σ) : V yy cc nL ret d Q pc ls st σ := by
  intro hn p l e R s m args below meth c D ca ad A cells slots C H locs la hP hS hl
  exact lv_iconst C.x C.b d0 rfl (k hn p l e R s m args below meth c D ca ad A cells slots C H locs la hP hS hl)
theorem V_bipush {n : Int} (d0 : decode cc pc = .ok (.bipush n, 2)) (hv : (Int8.ofInt n).toInt32 = iN n) (k : V yy cc nL ret d Q (pc + 2) ls (vI n :: st) σ) : V yy cc nL ret d Q pc ls st σ := by
  intro hn p l e R s m args below meth c D ca ad A cells slots C H locs la hP hS hl
  exact lv_bipush C.x C.b d0 hv (k hn p l e R s m args below meth c D ca ad A cells slots C H locs la hP hS hl)
theorem V_sipush {n : Int} (d0 : decode cc pc = .ok (.sipush n, 3)) (hv : (Int16.ofInt n).toInt32 = iN n) (k : V yy cc nL ret d Q (pc + 3) ls (vI n :: st) σ) : V yy cc nL ret d Q pc ls st σ := by
  intro hn p l e R s m args below meth c D ca ad A cells slots C H locs la hP hS hl
  exact lv_sipush C.x C.b d0 hv (k hn p l e R s m args below meth c D ca ad A cells slots C H locs la hP hS hl)
theorem V_lconst {n : Fin 2} {z : Int} (d0 : decode cc pc = .ok (.lconst n, 1)) (hv : Int64.ofNat (n : Nat) = lI z) (k : V yy cc nL ret d Q (pc + 1) ls (vL z :: st) σ) : V yy cc nL ret d Q pc ls st σ := by
  intro hn p l e R s m args below meth c D ca ad A cells slots C H locs la hP hS hl
  exact lv_lconst C.x C.b d0 hv (k hn p l e R s m args below meth c D ca ad A cells slots C H locs la hP hS hl)
theorem V_ldc {idx : Nat} {z : Int} (d0 : decode cc pc = .ok (.ldc idx, 2)) (hc : Cond.constant yy.cls idx (iN z) ∈ lwG) (k : V yy cc nL ret d Q (pc + 2) ls (vI z :: st) σ) : V yy cc nL ret d Q pc ls st σ := by
  intro hn p l e R s m args below meth c D ca ad A cells slots C H locs la hP hS hl
  exact lv_ldc C.x C.b C.own (C.ts _ hc) d0 (k hn p l e R s m args below meth c D ca ad A cells slots C H locs la hP hS hl)
theorem V_ldcw {idx : Nat} {z : Int} (d0 : decode cc pc = .ok (.ldc_w idx, 3)) (hc : Cond.constant yy.cls idx (iN z) ∈ lwG) (k : V yy cc nL ret d Q (pc + 3) ls (vI z :: st) σ) : V yy cc nL ret d Q pc ls st σ := by
  intro hn p l e R s m args below meth c D ca ad A cells slots C H locs la hP hS hl
  exact lv_ldcw C.x C.b C.own (C.ts _ hc) d0 (k hn p l e R s m args below meth c D ca ad A cells slots C H locs la hP hS hl)
theorem V_ldc2 {idx : Nat} {z : Int} (d0 : decode cc pc = .ok (.ldc2_w idx, 3)) (hc : Cond.constantLong yy.cls idx (lI z) ∈ lwG) (k : V yy cc nL ret d Q (pc + 3) ls (vL z :: st) σ) : V yy cc nL ret d Q pc ls st σ := by
  intro hn p l e R s m args below meth c D ca ad A cells slots C H locs la hP hS hl
  exact lv_ldc2 C.x C.b C.own (C.ts _ hc) d0 (k hn p l e R s m args below meth c D ca ad A cells slots C H locs la hP hS hl)
theorem V_ldcS {idx i : Nat} {tx : String} (d0 : decode cc pc = .ok (.ldc idx, 2)) (ho : yy.cls = RX3) (hi : strL[i]? = some (idx, tx)) (k : V yy cc nL ret d Q (pc + 2) ls (vR 90 i :: st) σ) : V yy cc nL ret d Q pc ls st σ := by
  intro hn p l e R s m args below meth c D ca ad A cells slots C H locs la hP hS hl
  exact va_ldcS C.x C.b C.own (by rw [ho]; exact C.S.1 i _ hi) d0 (k hn p l e R s m args below meth c D ca ad A cells slots C H locs la hP hS hl)
theorem V_dup {a : AV} (d0 : decode cc pc = .ok (.dup, 1)) (ha : avc a = 1) (k : V yy cc nL ret d Q (pc + 1) ls (a :: a :: st) σ) : V yy cc nL ret d Q pc ls (a :: st) σ := by
  intro hn p l e R s m args below meth c D ca ad A cells slots C H locs la hP hS hl
  exact lv_dup C.x C.b d0 ((avc_cv ad a).trans ha) (k hn p l e R s m args below meth c D ca ad A cells slots C H locs la hP hS hl)
theorem V_pop {a : AV} (d0 : decode cc pc = .ok (.pop, 1)) (ha : avc a = 1) (k : V yy cc nL ret d Q (pc + 1) ls st σ) : V yy cc nL ret d Q pc ls (a :: st) σ := by
  intro hn p l e R s m args below meth c D ca ad A cells slots C H locs la hP hS hl
  exact lv_pop C.x C.b d0 ((avc_cv ad a).trans ha) (k hn p l e R s m args below meth c D ca ad A cells slots C H locs la hP hS hl)
theorem V_dup2 {a b : AV} (d0 : decode cc pc = .ok (.dup2, 1)) (ha : avc a = 1) (hb : avc b = 1) (k : V yy cc nL ret d Q (pc + 1) ls (a :: b :: a :: b :: st) σ) : V yy cc nL ret d Q pc ls (a :: b :: st) σ := by
  intro hn p l e R s m args below meth c D ca ad A cells slots C H locs la hP hS hl
  exact lv_dup2_11 C.x C.b d0 ((avc_cv ad a).trans ha) ((avc_cv ad b).trans hb) (k hn p l e R s m args below meth c D ca ad A cells slots C H locs la hP hS hl)
theorem V_goto {off : Int} (tgt : Nat) (d0 : decode cc pc = .ok (.goto off, 3)) (ht : (pc : Int) + off = (tgt : Int)) (k : V yy cc nL ret d Q tgt ls st σ) : V yy cc nL ret d Q pc ls st σ := by
  intro hn p l e R s m args below meth c D ca ad A cells slots C H locs la hP hS hl
  exact lv_goto C.x C.b d0 ht (k hn p l e R s m args below meth c D ca ad A cells slots C H locs la hP hS hl)
theorem V_icmp_eq {x y off : Int} (tgt : Nat) (d0 : decode cc pc = .ok (.if_icmp .eq off, 3)) (ht : (pc : Int) + off = (tgt : Int)) (hx : IR x) (hy : IR y) (kt : x = y → V yy cc nL ret d Q tgt ls st σ) (kf : x ≠ y → V yy cc nL ret d Q (pc + 3) ls st σ) : V yy cc nL ret d Q pc ls (vI y :: vI x :: st) σ := by
  intro hn p l e R s m args below meth c D ca ad A cells slots C H locs la hP hS hl
  exact lv_icmp_eq C.x C.b d0 ht (fun h => kt ((iN_eq hx hy).mp h) hn p l e R s m args below meth c D ca ad A cells slots C H locs la hP hS hl) (fun h => kf (fun z => h ((iN_eq hx hy).mpr z)) hn p l e R s m args below meth c D ca ad A cells slots C H locs la hP hS hl)
theorem V_if_eq {x off : Int} (tgt : Nat) (d0 : decode cc pc = .ok (.ifCond .eq off, 3)) (ht : (pc : Int) + off = (tgt : Int)) (hx : IR x) (kt : x = 0 → V yy cc nL ret d Q tgt ls st σ) (kf : x ≠ 0 → V yy cc nL ret d Q (pc + 3) ls st σ) : V yy cc nL ret d Q pc ls (vI x :: st) σ := by
  intro hn p l e R s m args below meth c D ca ad A cells slots C H locs la hP hS hl
  have H0 : IR 0 := ⟨by omega, by omega⟩
  exact lv_if_eq C.x C.b d0 ht (fun h => kt ((iN_eq hx H0).mp h) hn p l e R s m args below meth c D ca ad A cells slots C H locs la hP hS hl) (fun h => kf (fun z => h ((iN_eq hx H0).mpr z)) hn p l e R s m args below meth c D ca ad A cells slots C H locs la hP hS hl)
theorem V_icmp_ne {x y off : Int} (tgt : Nat) (d0 : decode cc pc = .ok (.if_icmp .ne off, 3)) (ht : (pc : Int) + off = (tgt : Int)) (hx : IR x) (hy : IR y) (kt : x ≠ y → V yy cc nL ret d Q tgt ls st σ) (kf : x = y → V yy cc nL ret d Q (pc + 3) ls st σ) : V yy cc nL ret d Q pc ls (vI y :: vI x :: st) σ := by
  intro hn p l e R s m args below meth c D ca ad A cells slots C H locs la hP hS hl
  exact lv_icmp_ne C.x C.b d0 ht (fun h => kt (fun z => h ((iN_eq hx hy).mpr z)) hn p l e R s m args below meth c D ca ad A cells slots C H locs la hP hS hl) (fun h => kf ((iN_eq hx hy).mp h) hn p l e R s m args below meth c D ca ad A cells slots C H locs la hP hS hl)
theorem V_if_ne {x off : Int} (tgt : Nat) (d0 : decode cc pc = .ok (.ifCond .ne off, 3)) (ht : (pc : Int) + off = (tgt : Int)) (hx : IR x) (kt : x ≠ 0 → V yy cc nL ret d Q tgt ls st σ) (kf : x = 0 → V yy cc nL ret d Q (pc + 3) ls st σ) : V yy cc nL ret d Q pc ls (vI x :: st) σ := by
  intro hn p l e R s m args below meth c D ca ad A cells slots C H locs la hP hS hl
  have H0 : IR 0 := ⟨by omega, by omega⟩
  exact lv_if_ne C.x C.b d0 ht (fun h => kt (fun z => h ((iN_eq hx H0).mpr z)) hn p l e R s m args below meth c D ca ad A cells slots C H locs la hP hS hl) (fun h => kf ((iN_eq hx H0).mp h) hn p l e R s m args below meth c D ca ad A cells slots C H locs la hP hS hl)
theorem V_icmp_lt {x y off : Int} (tgt : Nat) (d0 : decode cc pc = .ok (.if_icmp .lt off, 3)) (ht : (pc : Int) + off = (tgt : Int)) (hx : IR x) (hy : IR y) (kt : x < y → V yy cc nL ret d Q tgt ls st σ) (kf : y ≤ x → V yy cc nL ret d Q (pc + 3) ls st σ) : V yy cc nL ret d Q pc ls (vI y :: vI x :: st) σ := by
  intro hn p l e R s m args below meth c D ca ad A cells slots C H locs la hP hS hl
  exact lv_icmp_lt C.x C.b d0 ht (fun h => kt ((iN_lt hx hy).mp h) hn p l e R s m args below meth c D ca ad A cells slots C H locs la hP hS hl) (fun h => kf (Int.not_lt.mp (fun z => h ((iN_lt hx hy).mpr z))) hn p l e R s m args below meth c D ca ad A cells slots C H locs la hP hS hl)
theorem V_if_lt {x off : Int} (tgt : Nat) (d0 : decode cc pc = .ok (.ifCond .lt off, 3)) (ht : (pc : Int) + off = (tgt : Int)) (hx : IR x) (kt : x < 0 → V yy cc nL ret d Q tgt ls st σ) (kf : 0 ≤ x → V yy cc nL ret d Q (pc + 3) ls st σ) : V yy cc nL ret d Q pc ls (vI x :: st) σ := by
  intro hn p l e R s m args below meth c D ca ad A cells slots C H locs la hP hS hl
  have H0 : IR 0 := ⟨by omega, by omega⟩
  exact lv_if_lt C.x C.b d0 ht (fun h => kt ((iN_lt hx H0).mp h) hn p l e R s m args below meth c D ca ad A cells slots C H locs la hP hS hl) (fun h => kf (Int.not_lt.mp (fun z => h ((iN_lt hx H0).mpr z))) hn p l e R s m args below meth c D ca ad A cells slots C H locs la hP hS hl)
theorem V_icmp_ge {x y off : Int} (tgt : Nat) (d0 : decode cc pc = .ok (.if_icmp .ge off, 3)) (ht : (pc : Int) + off = (tgt : Int)) (hx : IR x) (hy : IR y) (kt : y ≤ x → V yy cc nL ret d Q tgt ls st σ) (kf : x < y → V yy cc nL ret d Q (pc + 3) ls st σ) : V yy cc nL ret d Q pc ls (vI y :: vI x :: st) σ := by
  intro hn p l e R s m args below meth c D ca ad A cells slots C H locs la hP hS hl
  exact lv_icmp_ge C.x C.b d0 ht (fun h => kt ((iN_le hy hx).mp h) hn p l e R s m args below meth c D ca ad A cells slots C H locs la hP hS hl) (fun h => kf (Int.not_le.mp (fun z => h ((iN_le hy hx).mpr z))) hn p l e R s m args below meth c D ca ad A cells slots C H locs la hP hS hl)
theorem V_if_ge {x off : Int} (tgt : Nat) (d0 : decode cc pc = .ok (.ifCond .ge off, 3)) (ht : (pc : Int) + off = (tgt : Int)) (hx : IR x) (kt : 0 ≤ x → V yy cc nL ret d Q tgt ls st σ) (kf : x < 0 → V yy cc nL ret d Q (pc + 3) ls st σ) : V yy cc nL ret d Q pc ls (vI x :: st) σ := by
  intro hn p l e R s m args below meth c D ca ad A cells slots C H locs la hP hS hl
  have H0 : IR 0 := ⟨by omega, by omega⟩
  exact lv_if_ge C.x C.b d0 ht (fun h => kt ((iN_le H0 hx).mp h) hn p l e R s m args below meth c D ca ad A cells slots C H locs la hP hS hl) (fun h => kf (Int.not_le.mp (fun z => h ((iN_le H0 hx).mpr z))) hn p l e R s m args below meth c D ca ad A cells slots C H locs la hP hS hl)
theorem V_icmp_gt {x y off : Int} (tgt : Nat) (d0 : decode cc pc = .ok (.if_icmp .gt off, 3)) (ht : (pc : Int) + off = (tgt : Int)) (hx : IR x) (hy : IR y) (kt : y < x → V yy cc nL ret d Q tgt ls st σ) (kf : x ≤ y → V yy cc nL ret d Q (pc + 3) ls st σ) : V yy cc nL ret d Q pc ls (vI y :: vI x :: st) σ := by
  intro hn p l e R s m args below meth c D ca ad A cells slots C H locs la hP hS hl
  exact lv_icmp_gt C.x C.b d0 ht (fun h => kt ((iN_lt hy hx).mp h) hn p l e R s m args below meth c D ca ad A cells slots C H locs la hP hS hl) (fun h => kf (Int.not_lt.mp (fun z => h ((iN_lt hy hx).mpr z))) hn p l e R s m args below meth c D ca ad A cells slots C H locs la hP hS hl)
theorem V_if_gt {x off : Int} (tgt : Nat) (d0 : decode cc pc = .ok (.ifCond .gt off, 3)) (ht : (pc : Int) + off = (tgt : Int)) (hx : IR x) (kt : 0 < x → V yy cc nL ret d Q tgt ls st σ) (kf : x ≤ 0 → V yy cc nL ret d Q (pc + 3) ls st σ) : V yy cc nL ret d Q pc ls (vI x :: st) σ := by
  intro hn p l e R s m args below meth c D ca ad A cells slots C H locs la hP hS hl
  have H0 : IR 0 := ⟨by omega, by omega⟩
  exact lv_if_gt C.x C.b d0 ht (fun h => kt ((iN_lt H0 hx).mp h) hn p l e R s m args below meth c D ca ad A cells slots C H locs la hP hS hl) (fun h => kf (Int.not_lt.mp (fun z => h ((iN_lt H0 hx).mpr z))) hn p l e R s m args below meth c D ca ad A cells slots C H locs la hP hS hl)
theorem V_icmp_le {x y off : Int} (tgt : Nat) (d0 : decode cc pc = .ok (.if_icmp .le off, 3)) (ht : (pc : Int) + off = (tgt : Int)) (hx : IR x) (hy : IR y) (kt : x ≤ y → V yy cc nL ret d Q tgt ls st σ) (kf : y < x → V yy cc nL ret d Q (pc + 3) ls st σ) : V yy cc nL ret d Q pc ls (vI y :: vI x :: st) σ := by
  intro hn p l e R s m args below meth c D ca ad A cells slots C H locs la hP hS hl
  exact lv_icmp_le C.x C.b d0 ht (fun h => kt ((iN_le hx hy).mp h) hn p l e R s m args below meth c D ca ad A cells slots C H locs la hP hS hl) (fun h => kf (Int.not_le.mp (fun z => h ((iN_le hx hy).mpr z))) hn p l e R s m args below meth c D ca ad A cells slots C H locs la hP hS hl)
theorem V_if_le {x off : Int} (tgt : Nat) (d0 : decode cc pc = .ok (.ifCond .le off, 3)) (ht : (pc : Int) + off = (tgt : Int)) (hx : IR x) (kt : x ≤ 0 → V yy cc nL ret d Q tgt ls st σ) (kf : 0 < x → V yy cc nL ret d Q (pc + 3) ls st σ) : V yy cc nL ret d Q pc ls (vI x :: st) σ := by
  intro hn p l e R s m args below meth c D ca ad A cells slots C H locs la hP hS hl
  have H0 : IR 0 := ⟨by omega, by omega⟩
  exact lv_if_le C.x C.b d0 ht (fun h => kt ((iN_le hx H0).mp h) hn p l e R s m args below meth c D ca ad A cells slots C H locs la hP hS hl) (fun h => kf (Int.not_le.mp (fun z => h ((iN_le hx H0).mpr z))) hn p l e R s m args below meth c D ca ad A cells slots C H locs la hP hS hl)
theorem bI_IR (c : Prop) [Decidable c] : IR (bI c) := by unfold bI; split <;> exact ⟨by omega, by omega⟩
theorem bI_0 {c : Prop} [Decidable c] : bI c = 0 ↔ ¬ c := by unfold bI; by_cases h : c <;> simp [h]
/-- a branch on the answer of a question -/
theorem V_if_eq_b {cnd : Prop} [Decidable cnd] {off : Int} (tgt : Nat) (d0 : decode cc pc = .ok (.ifCond .eq off, 3)) (ht : (pc : Int) + off = (tgt : Int)) (kt : ¬ cnd → V yy cc nL ret d Q tgt ls st σ) (kf : cnd → V yy cc nL ret d Q (pc + 3) ls st σ) : V yy cc nL ret d Q pc ls (vI (bI cnd) :: st) σ :=
  V_if_eq tgt d0 ht (bI_IR cnd) (fun h => kt (bI_0.mp h)) (fun h => kf (Decidable.of_not_not (fun z => h (bI_0.mpr z))))
theorem V_if_ne_b {cnd : Prop} [Decidable cnd] {off : Int} (tgt : Nat) (d0 : decode cc pc = .ok (.ifCond .ne off, 3)) (ht : (pc : Int) + off = (tgt : Int)) (kt : cnd → V yy cc nL ret d Q tgt ls st σ) (kf : ¬ cnd → V yy cc nL ret d Q (pc + 3) ls st σ) : V yy cc nL ret d Q pc ls (vI (bI cnd) :: st) σ :=
  V_if_ne tgt d0 ht (bI_IR cnd) (fun h => kt (Decidable.of_not_not (fun z => h (bI_0.mpr z)))) (fun h => kf (bI_0.mp h))
def cmpZ (a b : Int) : Int := if b < a then 1 else if a = b then 0 else -1
theorem V_lcmp {x y : Int} (d0 : decode cc pc = .ok (.lcmp, 1)) (hx : LR x) (hy : LR y) (k : V yy cc nL ret d Q (pc + 1) ls (vI (cmpZ x y) :: st) σ) : V yy cc nL ret d Q pc ls (vL y :: vL x :: st) σ := by
  intro hn p l e R s m args below meth c D ca ad A cells slots C H locs la hP hS hl
  refine W.lcmp C.x C.b d0 ?_
  have e9 : lg_cmp (lI x) (lI y) = iN (cmpZ x y) := by
    unfold lg_cmp cmpZ
    by_cases h1 : y < x
    · rw [if_pos h1, if_pos ((lI_lt hy hx).mpr h1)]; rfl
    · rw [if_neg h1, if_neg (fun z => h1 ((lI_lt hy hx).mp z))]
      by_cases h2 : x = y
      · rw [if_pos h2, if_pos (congrArg lI h2)]; rfl
      · rw [if_neg h2, if_neg (fun z => h2 ((lI_eq hx hy).mp z))]; rfl
  rw [e9]
  exact (k hn p l e R s m args below meth c D ca ad A cells slots C H locs la hP hS hl)
theorem V_iload_0 {x : Int} {r : List (Option AV)} (d0 : decode cc pc = .ok (.iload_n 0, 1)) (k : V yy cc nL ret d Q (pc + 1) (some (vI x) :: r) (vI x :: st) σ) : V yy cc nL ret d Q pc (some (vI x) :: r) st σ := by
  intro hn p l e R s m args below meth c D ca ad A cells slots C H locs la hP hS hl
  exact lv_iload_n C.x C.b d0 rfl (has_get (i := 0) (v := vI x) hl rfl) (k hn p l e R s m args below meth c D ca ad A cells slots C H locs la hP hS hl)
theorem V_lload_0 {x : Int} {r : List (Option AV)} (d0 : decode cc pc = .ok (.lload_n 0, 1)) (k : V yy cc nL ret d Q (pc + 1) (some (vL x) :: r) (vL x :: st) σ) : V yy cc nL ret d Q pc (some (vL x) :: r) st σ := by
  intro hn p l e R s m args below meth c D ca ad A cells slots C H locs la hP hS hl
  exact lv_lload_n C.x C.b d0 rfl (has_get (i := 0) (v := vL x) hl rfl) (k hn p l e R s m args below meth c D ca ad A cells slots C H locs la hP hS hl)
theorem V_aload_0 {t : Nat} {x : Int} {r : List (Option AV)} (d0 : decode cc pc = .ok (.aload_n 0, 1)) (k : V yy cc nL ret d Q (pc + 1) (some (vR t x) :: r) (vR t x :: st) σ) : V yy cc nL ret d Q pc (some (vR t x) :: r) st σ := by
  intro hn p l e R s m args below meth c D ca ad A cells slots C H locs la hP hS hl
  exact lv_aload_n C.x C.b d0 rfl (has_get (i := 0) (v := vR t x) hl rfl) (k hn p l e R s m args below meth c D ca ad A cells slots C H locs la hP hS hl)
theorem V_istore_0 {x : Int} {a0 : Option AV} {r : List (Option AV)} (d0 : decode cc pc = .ok (.istore_n 0, 1)) (k : V yy cc nL ret d Q (pc + 1) (some (vI x) :: r) st σ) (hp : okp (a0 :: r) 0 = true := by rfl) : V yy cc nL ret d Q pc (a0 :: r) (vI x :: st) σ := by
  intro hn p l e R s m args below meth c D ca ad A cells slots C H locs la hP hS hl
  have hi : 0 < nL := by rw [← hn]; simp only [List.length_cons]; omega
  exact lv_istore_n C.x C.b d0 rfl hl hi rfl (fun la2 hl2 => k (by simpa only [List.length_cons] using hn) p l e R s m args below meth c D ca ad A cells slots C H locs la2 hP hS (has_set1 (v := vI x) hp hl2))
theorem V_astore_0 {t : Nat} {x : Int} {a0 : Option AV} {r : List (Option AV)} (d0 : decode cc pc = .ok (.astore_n 0, 1)) (k : V yy cc nL ret d Q (pc + 1) (some (vR t x) :: r) st σ) (hp : okp (a0 :: r) 0 = true := by rfl) : V yy cc nL ret d Q pc (a0 :: r) (vR t x :: st) σ := by
  intro hn p l e R s m args below meth c D ca ad A cells slots C H locs la hP hS hl
  have hi : 0 < nL := by rw [← hn]; simp only [List.length_cons]; omega
  exact lv_astore_n C.x C.b d0 rfl hl hi rfl (fun la2 hl2 => k (by simpa only [List.length_cons] using hn) p l e R s m args below meth c D ca ad A cells slots C H locs la2 hP hS (has_set1 (v := vR t x) hp hl2))
theorem V_iinc_0 {x n : Int} {r : List (Option AV)} (d0 : decode cc pc = .ok (.iinc 0 n, 3)) (k : V yy cc nL ret d Q (pc + 3) (some (vI (x + n)) :: r) st σ) (hp : okp (some (vI x) :: r) 0 = true := by rfl) : V yy cc nL ret d Q pc (some (vI x) :: r) st σ := by
  intro hn p l e R s m args below meth c D ca ad A cells slots C H locs la hP hS hl
  have hi : 0 < nL := by rw [← hn]; simp only [List.length_cons]; omega
  obtain ⟨kx, hkx⟩ := List.getElem?_of_mem ((asc_mem ad (some (vI x) :: r) 0 (0, cv ad (vI x))).mpr ⟨0, vI x, rfl, rfl⟩)
  exact lv_iinc (v := iN (x + n)) C.x C.b d0 hl hkx (iN_add x n) hi rfl (fun la2 hl2 => k (by simpa only [List.length_cons] using hn) p l e R s m args below meth c D ca ad A cells slots C H locs la2 hP hS (has_set1 (v := vI (x + n)) hp hl2))
theorem V_lstore_0 {x : Int} {a0 : Option AV} {a1 : Option AV} {r : List (Option AV)} (d0 : decode cc pc = .ok (.lstore_n 0, 1)) (k : V yy cc nL ret d Q (pc + 1) (some (vL x) :: none :: r) st σ) (hp : okp (a0 :: a1 :: r) 0 = true := by rfl) : V yy cc nL ret d Q pc (a0 :: a1 :: r) (vL x :: st) σ := by
  intro hn p l e R s m args below meth c D ca ad A cells slots C H locs la hP hS hl
  have hi : 0 + 1 < nL := by rw [← hn]; simp only [List.length_cons]; omega
  exact lv_lstore_n C.x C.b d0 rfl hl hi rfl (fun la2 hl2 => k (by simpa only [List.length_cons] using hn) p l e R s m args below meth c D ca ad A cells slots C H locs la2 hP hS (has_set2 (v := vL x) hp (by simp only [List.length_cons]; omega) hl2))
theorem V_iload_1 {x : Int} {a0 : Option AV} {r : List (Option AV)} (d0 : decode cc pc = .ok (.iload_n 1, 1)) (k : V yy cc nL ret d Q (pc + 1) (a0 :: some (vI x) :: r) (vI x :: st) σ) : V yy cc nL ret d Q pc (a0 :: some (vI x) :: r) st σ := by
  intro hn p l e R s m args below meth c D ca ad A cells slots C H locs la hP hS hl
  exact lv_iload_n C.x C.b d0 rfl (has_get (i := 1) (v := vI x) hl rfl) (k hn p l e R s m args below meth c D ca ad A cells slots C H locs la hP hS hl)
theorem V_lload_1 {x : Int} {a0 : Option AV} {r : List (Option AV)} (d0 : decode cc pc = .ok (.lload_n 1, 1)) (k : V yy cc nL ret d Q (pc + 1) (a0 :: some (vL x) :: r) (vL x :: st) σ) : V yy cc nL ret d Q pc (a0 :: some (vL x) :: r) st σ := by
  intro hn p l e R s m args below meth c D ca ad A cells slots C H locs la hP hS hl
  exact lv_lload_n C.x C.b d0 rfl (has_get (i := 1) (v := vL x) hl rfl) (k hn p l e R s m args below meth c D ca ad A cells slots C H locs la hP hS hl)
theorem V_aload_1 {t : Nat} {x : Int} {a0 : Option AV} {r : List (Option AV)} (d0 : decode cc pc = .ok (.aload_n 1, 1)) (k : V yy cc nL ret d Q (pc + 1) (a0 :: some (vR t x) :: r) (vR t x :: st) σ) : V yy cc nL ret d Q pc (a0 :: some (vR t x) :: r) st σ := by
  intro hn p l e R s m args below meth c D ca ad A cells slots C H locs la hP hS hl
  exact lv_aload_n C.x C.b d0 rfl (has_get (i := 1) (v := vR t x) hl rfl) (k hn p l e R s m args below meth c D ca ad A cells slots C H locs la hP hS hl)
theorem V_istore_1 {x : Int} {a0 : Option AV} {a1 : Option AV} {r : List (Option AV)} (d0 : decode cc pc = .ok (.istore_n 1, 1)) (k : V yy cc nL ret d Q (pc + 1) (a0 :: some (vI x) :: r) st σ) (hp : okp (a0 :: a1 :: r) 1 = true := by rfl) : V yy cc nL ret d Q pc (a0 :: a1 :: r) (vI x :: st) σ := by
  intro hn p l e R s m args below meth c D ca ad A cells slots C H locs la hP hS hl
  have hi : 1 < nL := by rw [← hn]; simp only [List.length_cons]; omega
  exact lv_istore_n C.x C.b d0 rfl hl hi rfl (fun la2 hl2 => k (by simpa only [List.length_cons] using hn) p l e R s m args below meth c D ca ad A cells slots C H locs la2 hP hS (has_set1 (v := vI x) hp hl2))
theorem V_astore_1 {t : Nat} {x : Int} {a0 : Option AV} {a1 : Option AV} {r : List (Option AV)} (d0 : decode cc pc = .ok (.astore_n 1, 1)) (k : V yy cc nL ret d Q (pc + 1) (a0 :: some (vR t x) :: r) st σ) (hp : okp (a0 :: a1 :: r) 1 = true := by rfl) : V yy cc nL ret d Q pc (a0 :: a1 :: r) (vR t x :: st) σ := by
  intro hn p l e R s m args below meth c D ca ad A cells slots C H locs la hP hS hl
  have hi : 1 < nL := by rw [← hn]; simp only [List.length_cons]; omega
  exact lv_astore_n C.x C.b d0 rfl hl hi rfl (fun la2 hl2 => k (by simpa only [List.length_cons] using hn) p l e R s m args below meth c D ca ad A cells slots C H locs la2 hP hS (has_set1 (v := vR t x) hp hl2))
theorem V_iinc_1 {x n : Int} {a0 : Option AV} {r : List (Option AV)} (d0 : decode cc pc = .ok (.iinc 1 n, 3)) (k : V yy cc nL ret d Q (pc + 3) (a0 :: some (vI (x + n)) :: r) st σ) (hp : okp (a0 :: some (vI x) :: r) 1 = true := by rfl) : V yy cc nL ret d Q pc (a0 :: some (vI x) :: r) st σ := by
  intro hn p l e R s m args below meth c D ca ad A cells slots C H locs la hP hS hl
  have hi : 1 < nL := by rw [← hn]; simp only [List.length_cons]; omega
  obtain ⟨kx, hkx⟩ := List.getElem?_of_mem ((asc_mem ad (a0 :: some (vI x) :: r) 0 (1, cv ad (vI x))).mpr ⟨1, vI x, rfl, rfl⟩)
  exact lv_iinc (v := iN (x + n)) C.x C.b d0 hl hkx (iN_add x n) hi rfl (fun la2 hl2 => k (by simpa only [List.length_cons] using hn) p l e R s m args below meth c D ca ad A cells slots C H locs la2 hP hS (has_set1 (v := vI (x + n)) hp hl2))
theorem V_lstore_1 {x : Int} {a0 : Option AV} {a1 : Option AV} {a2 : Option AV} {r : List (Option AV)} (d0 : decode cc pc = .ok (.lstore_n 1, 1)) (k : V yy cc nL ret d Q (pc + 1) (a0 :: some (vL x) :: none :: r) st σ) (hp : okp (a0 :: a1 :: a2 :: r) 1 = true := by rfl) : V yy cc nL ret d Q pc (a0 :: a1 :: a2 :: r) (vL x :: st) σ := by
  intro hn p l e R s m args below meth c D ca ad A cells slots C H locs la hP hS hl
  have hi : 1 + 1 < nL := by rw [← hn]; simp only [List.length_cons]; omega
  exact lv_lstore_n C.x C.b d0 rfl hl hi rfl (fun la2 hl2 => k (by simpa only [List.length_cons] using hn) p l e R s m args below meth c D ca ad A cells slots C H locs la2 hP hS (has_set2 (v := vL x) hp (by simp only [List.length_cons]; omega) hl2))
theorem V_iload_2 {x : Int} {a0 : Option AV} {a1 : Option AV} {r : List (Option AV)} (d0 : decode cc pc = .ok (.iload_n 2, 1)) (k : V yy cc nL ret d Q (pc + 1) (a0 :: a1 :: some (vI x) :: r) (vI x :: st) σ) : V yy cc nL ret d Q pc (a0 :: a1 :: some (vI x) :: r) st σ := by
  intro hn p l e R s m args below meth c D ca ad A cells slots C H locs la hP hS hl
  exact lv_iload_n C.x C.b d0 rfl (has_get (i := 2) (v := vI x) hl rfl) (k hn p l e R s m args below meth c D ca ad A cells slots C H locs la hP hS hl)
theorem V_lload_2 {x : Int} {a0 : Option AV} {a1 : Option AV} {r : List (Option AV)} (d0 : decode cc pc = .ok (.lload_n 2, 1)) (k : V yy cc nL ret d Q (pc + 1) (a0 :: a1 :: some (vL x) :: r) (vL x :: st) σ) : V yy cc nL ret d Q pc (a0 :: a1 :: some (vL x) :: r) st σ := by
  intro hn p l e R s m args below meth c D ca ad A cells slots C H locs la hP hS hl
  exact lv_lload_n C.x C.b d0 rfl (has_get (i := 2) (v := vL x) hl rfl) (k hn p l e R s m args below meth c D ca ad A cells slots C H locs la hP hS hl)
theorem V_aload_2 {t : Nat} {x : Int} {a0 : Option AV} {a1 : Option AV} {r : List (Option AV)} (d0 : decode cc pc = .ok (.aload_n 2, 1)) (k : V yy cc nL ret d Q (pc + 1) (a0 :: a1 :: some (vR t x) :: r) (vR t x :: st) σ) : V yy cc nL ret d Q pc (a0 :: a1 :: some (vR t x) :: r) st σ := by
  intro hn p l e R s m args below meth c D ca ad A cells slots C H locs la hP hS hl
  exact lv_aload_n C.x C.b d0 rfl (has_get (i := 2) (v := vR t x) hl rfl) (k hn p l e R s m args below meth c D ca ad A cells slots C H locs la hP hS hl)
theorem V_istore_2 {x : Int} {a0 : Option AV} {a1 : Option AV} {a2 : Option AV} {r : List (Option AV)} (d0 : decode cc pc = .ok (.istore_n 2, 1)) (k : V yy cc nL ret d Q (pc + 1) (a0 :: a1 :: some (vI x) :: r) st σ) (hp : okp (a0 :: a1 :: a2 :: r) 2 = true := by rfl) : V yy cc nL ret d Q pc (a0 :: a1 :: a2 :: r) (vI x :: st) σ := by
  intro hn p l e R s m args below meth c D ca ad A cells slots C H locs la hP hS hl
  have hi : 2 < nL := by rw [← hn]; simp only [List.length_cons]; omega
  exact lv_istore_n C.x C.b d0 rfl hl hi rfl (fun la2 hl2 => k (by simpa only [List.length_cons] using hn) p l e R s m args below meth c D ca ad A cells slots C H locs la2 hP hS (has_set1 (v := vI x) hp hl2))
theorem V_astore_2 {t : Nat} {x : Int} {a0 : Option AV} {a1 : Option AV} {a2 : Option AV} {r : List (Option AV)} (d0 : decode cc pc = .ok (.astore_n 2, 1)) (k : V yy cc nL ret d Q (pc + 1) (a0 :: a1 :: some (vR t x) :: r) st σ) (hp : okp (a0 :: a1 :: a2 :: r) 2 = true := by rfl) : V yy cc nL ret d Q pc (a0 :: a1 :: a2 :: r) (vR t x :: st) σ := by
  intro hn p l e R s m args below meth c D ca ad A cells slots C H locs la hP hS hl
  have hi : 2 < nL := by rw [← hn]; simp only [List.length_cons]; omega
  exact lv_astore_n C.x C.b d0 rfl hl hi rfl (fun la2 hl2 => k (by simpa only [List.length_cons] using hn) p l e R s m args below meth c D ca ad A cells slots C H locs la2 hP hS (has_set1 (v := vR t x) hp hl2))
theorem V_iinc_2 {x n : Int} {a0 : Option AV} {a1 : Option AV} {r : List (Option AV)} (d0 : decode cc pc = .ok (.iinc 2 n, 3)) (k : V yy cc nL ret d Q (pc + 3) (a0 :: a1 :: some (vI (x + n)) :: r) st σ) (hp : okp (a0 :: a1 :: some (vI x) :: r) 2 = true := by rfl) : V yy cc nL ret d Q pc (a0 :: a1 :: some (vI x) :: r) st σ := by
  intro hn p l e R s m args below meth c D ca ad A cells slots C H locs la hP hS hl
  have hi : 2 < nL := by rw [← hn]; simp only [List.length_cons]; omega
  obtain ⟨kx, hkx⟩ := List.getElem?_of_mem ((asc_mem ad (a0 :: a1 :: some (vI x) :: r) 0 (2, cv ad (vI x))).mpr ⟨2, vI x, rfl, rfl⟩)
  exact lv_iinc (v := iN (x + n)) C.x C.b d0 hl hkx (iN_add x n) hi rfl (fun la2 hl2 => k (by simpa only [List.length_cons] using hn) p l e R s m args below meth c D ca ad A cells slots C H locs la2 hP hS (has_set1 (v := vI (x + n)) hp hl2))
theorem V_lstore_2 {x : Int} {a0 : Option AV} {a1 : Option AV} {a2 : Option AV} {a3 : Option AV} {r : List (Option AV)} (d0 : decode cc pc = .ok (.lstore_n 2, 1)) (k : V yy cc nL ret d Q (pc + 1) (a0 :: a1 :: some (vL x) :: none :: r) st σ) (hp : okp (a0 :: a1 :: a2 :: a3 :: r) 2 = true := by rfl) : V yy cc nL ret d Q pc (a0 :: a1 :: a2 :: a3 :: r) (vL x :: st) σ := by
  intro hn p l e R s m args below meth c D ca ad A cells slots C H locs la hP hS hl
  have hi : 2 + 1 < nL := by rw [← hn]; simp only [List.length_cons]; omega
  exact lv_lstore_n C.x C.b d0 rfl hl hi rfl (fun la2 hl2 => k (by simpa only [List.length_cons] using hn) p l e R s m args below meth c D ca ad A cells slots C H locs la2 hP hS (has_set2 (v := vL x) hp (by simp only [List.length_cons]; omega) hl2))
theorem V_iload_3 {x : Int} {a0 : Option AV} {a1 : Option AV} {a2 : Option AV} {r : List (Option AV)} (d0 : decode cc pc = .ok (.iload_n 3, 1)) (k : V yy cc nL ret d Q (pc + 1) (a0 :: a1 :: a2 :: some (vI x) :: r) (vI x :: st) σ) : V yy cc nL ret d Q pc (a0 :: a1 :: a2 :: some (vI x) :: r) st σ := by
  intro hn p l e R s m args below meth c D ca ad A cells slots C H locs la hP hS hl
  exact lv_iload_n C.x C.b d0 rfl (has_get (i := 3) (v := vI x) hl rfl) (k hn p l e R s m args below meth c D ca ad A cells slots C H locs la hP hS hl)
theorem V_lload_3 {x : Int} {a0 : Option AV} {a1 : Option AV} {a2 : Option AV} {r : List (Option AV)} (d0 : decode cc pc = .ok (.lload_n 3, 1)) (k : V yy cc nL ret d Q (pc + 1) (a0 :: a1 :: a2 :: some (vL x) :: r) (vL x :: st) σ) : V yy cc nL ret d Q pc (a0 :: a1 :: a2 :: some (vL x) :: r) st σ := by
  intro hn p l e R s m args below meth c D ca ad A cells slots C H locs la hP hS hl
  exact lv_lload_n C.x C.b d0 rfl (has_get (i := 3) (v := vL x) hl rfl) (k hn p l e R s m args below meth c D ca ad A cells slots C H locs la hP hS hl)
theorem V_aload_3 {t : Nat} {x : Int} {a0 : Option AV} {a1 : Option AV} {a2 : Option AV} {r : List (Option AV)} (d0 : decode cc pc = .ok (.aload_n 3, 1)) (k : V yy cc nL ret d Q (pc + 1) (a0 :: a1 :: a2 :: some (vR t x) :: r) (vR t x :: st) σ) : V yy cc nL ret d Q pc (a0 :: a1 :: a2 :: some (vR t x) :: r) st σ := by
  intro hn p l e R s m args below meth c D ca ad A cells slots C H locs la hP hS hl
  exact lv_aload_n C.x C.b d0 rfl (has_get (i := 3) (v := vR t x) hl rfl) (k hn p l e R s m args below meth c D ca ad A cells slots C H locs la hP hS hl)
theorem V_istore_3 {x : Int} {a0 : Option AV} {a1 : Option AV} {a2 : Option AV} {a3 : Option AV} {r : List (Option AV)} (d0 : decode cc pc = .ok (.istore_n 3, 1)) (k : V yy cc nL ret d Q (pc + 1) (a0 :: a1 :: a2 :: some (vI x) :: r) st σ) (hp : okp (a0 :: a1 :: a2 :: a3 :: r) 3 = true := by rfl) : V yy cc nL ret d Q pc (a0 :: a1 :: a2 :: a3 :: r) (vI x :: st) σ := by
  intro hn p l e R s m args below meth c D ca ad A cells slots C H locs la hP hS hl
  have hi : 3 < nL := by rw [← hn]; simp only [List.length_cons]; omega
  exact lv_istore_n C.x C.b d0 rfl hl hi rfl (fun la2 hl2 => k (by simpa only [List.length_cons] using hn) p l e R s m args below meth c D ca ad A cells slots C H locs la2 hP hS (has_set1 (v := vI x) hp hl2))
theorem V_astore_3 {t : Nat} {x : Int} {a0 : Option AV} {a1 : Option AV} {a2 : Option AV} {a3 : Option AV} {r : List (Option AV)} (d0 : decode cc pc = .ok (.astore_n 3, 1)) (k : V yy cc nL ret d Q (pc + 1) (a0 :: a1 :: a2 :: some (vR t x) :: r) st σ) (hp : okp (a0 :: a1 :: a2 :: a3 :: r) 3 = true := by rfl) : V yy cc nL ret d Q pc (a0 :: a1 :: a2 :: a3 :: r) (vR t x :: st) σ := by
  intro hn p l e R s m args below meth c D ca ad A cells slots C H locs la hP hS hl
  have hi : 3 < nL := by rw [← hn]; simp only [List.length_cons]; omega
  exact lv_astore_n C.x C.b d0 rfl hl hi rfl (fun la2 hl2 => k (by simpa only [List.length_cons] using hn) p l e R s m args below meth c D ca ad A cells slots C H locs la2 hP hS (has_set1 (v := vR t x) hp hl2))
theorem V_iinc_3 {x n : Int} {a0 : Option AV} {a1 : Option AV} {a2 : Option AV} {r : List (Option AV)} (d0 : decode cc pc = .ok (.iinc 3 n, 3)) (k : V yy cc nL ret d Q (pc + 3) (a0 :: a1 :: a2 :: some (vI (x + n)) :: r) st σ) (hp : okp (a0 :: a1 :: a2 :: some (vI x) :: r) 3 = true := by rfl) : V yy cc nL ret d Q pc (a0 :: a1 :: a2 :: some (vI x) :: r) st σ := by
  intro hn p l e R s m args below meth c D ca ad A cells slots C H locs la hP hS hl
  have hi : 3 < nL := by rw [← hn]; simp only [List.length_cons]; omega
  obtain ⟨kx, hkx⟩ := List.getElem?_of_mem ((asc_mem ad (a0 :: a1 :: a2 :: some (vI x) :: r) 0 (3, cv ad (vI x))).mpr ⟨3, vI x, rfl, rfl⟩)
  exact lv_iinc (v := iN (x + n)) C.x C.b d0 hl hkx (iN_add x n) hi rfl (fun la2 hl2 => k (by simpa only [List.length_cons] using hn) p l e R s m args below meth c D ca ad A cells slots C H locs la2 hP hS (has_set1 (v := vI (x + n)) hp hl2))
theorem V_lstore_3 {x : Int} {a0 : Option AV} {a1 : Option AV} {a2 : Option AV} {a3 : Option AV} {a4 : Option AV} {r : List (Option AV)} (d0 : decode cc pc = .ok (.lstore_n 3, 1)) (k : V yy cc nL ret d Q (pc + 1) (a0 :: a1 :: a2 :: some (vL x) :: none :: r) st σ) (hp : okp (a0 :: a1 :: a2 :: a3 :: a4 :: r) 3 = true := by rfl) : V yy cc nL ret d Q pc (a0 :: a1 :: a2 :: a3 :: a4 :: r) (vL x :: st) σ := by
  intro hn p l e R s m args below meth c D ca ad A cells slots C H locs la hP hS hl
  have hi : 3 + 1 < nL := by rw [← hn]; simp only [List.length_cons]; omega
  exact lv_lstore_n C.x C.b d0 rfl hl hi rfl (fun la2 hl2 => k (by simpa only [List.length_cons] using hn) p l e R s m args below meth c D ca ad A cells slots C H locs la2 hP hS (has_set2 (v := vL x) hp (by simp only [List.length_cons]; omega) hl2))
theorem V_iload_4 {x : Int} {a0 : Option AV} {a1 : Option AV} {a2 : Option AV} {a3 : Option AV} {r : List (Option AV)} (d0 : decode cc pc = .ok (.iload 4, 2)) (k : V yy cc nL ret d Q (pc + 2) (a0 :: a1 :: a2 :: a3 :: some (vI x) :: r) (vI x :: st) σ) : V yy cc nL ret d Q pc (a0 :: a1 :: a2 :: a3 :: some (vI x) :: r) st σ := by
  intro hn p l e R s m args below meth c D ca ad A cells slots C H locs la hP hS hl
  exact lv_iload C.x C.b d0 (has_get (i := 4) (v := vI x) hl rfl) (k hn p l e R s m args below meth c D ca ad A cells slots C H locs la hP hS hl)
theorem V_lload_4 {x : Int} {a0 : Option AV} {a1 : Option AV} {a2 : Option AV} {a3 : Option AV} {r : List (Option AV)} (d0 : decode cc pc = .ok (.lload 4, 2)) (k : V yy cc nL ret d Q (pc + 2) (a0 :: a1 :: a2 :: a3 :: some (vL x) :: r) (vL x :: st) σ) : V yy cc nL ret d Q pc (a0 :: a1 :: a2 :: a3 :: some (vL x) :: r) st σ := by
  intro hn p l e R s m args below meth c D ca ad A cells slots C H locs la hP hS hl
  exact lv_lload C.x C.b d0 (has_get (i := 4) (v := vL x) hl rfl) (k hn p l e R s m args below meth c D ca ad A cells slots C H locs la hP hS hl)
theorem V_aload_4 {t : Nat} {x : Int} {a0 : Option AV} {a1 : Option AV} {a2 : Option AV} {a3 : Option AV} {r : List (Option AV)} (d0 : decode cc pc = .ok (.aload 4, 2)) (k : V yy cc nL ret d Q (pc + 2) (a0 :: a1 :: a2 :: a3 :: some (vR t x) :: r) (vR t x :: st) σ) : V yy cc nL ret d Q pc (a0 :: a1 :: a2 :: a3 :: some (vR t x) :: r) st σ := by
  intro hn p l e R s m args below meth c D ca ad A cells slots C H locs la hP hS hl
  exact lv_aload C.x C.b d0 (has_get (i := 4) (v := vR t x) hl rfl) (k hn p l e R s m args below meth c D ca ad A cells slots C H locs la hP hS hl)
theorem V_istore_4 {x : Int} {a0 : Option AV} {a1 : Option AV} {a2 : Option AV} {a3 : Option AV} {a4 : Option AV} {r : List (Option AV)} (d0 : decode cc pc = .ok (.istore 4, 2)) (k : V yy cc nL ret d Q (pc + 2) (a0 :: a1 :: a2 :: a3 :: some (vI x) :: r) st σ) (hp : okp (a0 :: a1 :: a2 :: a3 :: a4 :: r) 4 = true := by rfl) : V yy cc nL ret d Q pc (a0 :: a1 :: a2 :: a3 :: a4 :: r) (vI x :: st) σ := by
  intro hn p l e R s m args below meth c D ca ad A cells slots C H locs la hP hS hl
  have hi : 4 < nL := by rw [← hn]; simp only [List.length_cons]; omega
  exact lv_istore C.x C.b d0 hl hi rfl (fun la2 hl2 => k (by simpa only [List.length_cons] using hn) p l e R s m args below meth c D ca ad A cells slots C H locs la2 hP hS (has_set1 (v := vI x) hp hl2))
theorem V_astore_4 {t : Nat} {x : Int} {a0 : Option AV} {a1 : Option AV} {a2 : Option AV} {a3 : Option AV} {a4 : Option AV} {r : List (Option AV)} (d0 : decode cc pc = .ok (.astore 4, 2)) (k : V yy cc nL ret d Q (pc + 2) (a0 :: a1 :: a2 :: a3 :: some (vR t x) :: r) st σ) (hp : okp (a0 :: a1 :: a2 :: a3 :: a4 :: r) 4 = true := by rfl) : V yy cc nL ret d Q pc (a0 :: a1 :: a2 :: a3 :: a4 :: r) (vR t x :: st) σ := by
  intro hn p l e R s m args below meth c D ca ad A cells slots C H locs la hP hS hl
  have hi : 4 < nL := by rw [← hn]; simp only [List.length_cons]; omega
  exact lv_astore C.x C.b d0 hl hi rfl (fun la2 hl2 => k (by simpa only [List.length_cons] using hn) p l e R s m args below meth c D ca ad A cells slots C H locs la2 hP hS (has_set1 (v := vR t x) hp hl2))
theorem V_iinc_4 {x n : Int} {a0 : Option AV} {a1 : Option AV} {a2 : Option AV} {a3 : Option AV} {r : List (Option AV)} (d0 : decode cc pc = .ok (.iinc 4 n, 3)) (k : V yy cc nL ret d Q (pc + 3) (a0 :: a1 :: a2 :: a3 :: some (vI (x + n)) :: r) st σ) (hp : okp (a0 :: a1 :: a2 :: a3 :: some (vI x) :: r) 4 = true := by rfl) : V yy cc nL ret d Q pc (a0 :: a1 :: a2 :: a3 :: some (vI x) :: r) st σ := by
  intro hn p l e R s m args below meth c D ca ad A cells slots C H locs la hP hS hl
  have hi : 4 < nL := by rw [← hn]; simp only [List.length_cons]; omega
  obtain ⟨kx, hkx⟩ := List.getElem?_of_mem ((asc_mem ad (a0 :: a1 :: a2 :: a3 :: some (vI x) :: r) 0 (4, cv ad (vI x))).mpr ⟨4, vI x, rfl, rfl⟩)
  exact lv_iinc (v := iN (x + n)) C.x C.b d0 hl hkx (iN_add x n) hi rfl (fun la2 hl2 => k (by simpa only [List.length_cons] using hn) p l e R s m args below meth c D ca ad A cells slots C H locs la2 hP hS (has_set1 (v := vI (x + n)) hp hl2))
theorem V_lstore_4 {x : Int} {a0 : Option AV} {a1 : Option AV} {a2 : Option AV} {a3 : Option AV} {a4 : Option AV} {a5 : Option AV} {r : List (Option AV)} (d0 : decode cc pc = .ok (.lstore 4, 2)) (k : V yy cc nL ret d Q (pc + 2) (a0 :: a1 :: a2 :: a3 :: some (vL x) :: none :: r) st σ) (hp : okp (a0 :: a1 :: a2 :: a3 :: a4 :: a5 :: r) 4 = true := by rfl) : V yy cc nL ret d Q pc (a0 :: a1 :: a2 :: a3 :: a4 :: a5 :: r) (vL x :: st) σ := by
  intro hn p l e R s m args below meth c D ca ad A cells slots C H locs la hP hS hl
  have hi : 4 + 1 < nL := by rw [← hn]; simp only [List.length_cons]; omega
  exact lv_lstore C.x C.b d0 hl hi rfl (fun la2 hl2 => k (by simpa only [List.length_cons] using hn) p l e R s m args below meth c D ca ad A cells slots C H locs la2 hP hS (has_set2 (v := vL x) hp (by simp only [List.length_cons]; omega) hl2))
theorem V_iload_5 {x : Int} {a0 : Option AV} {a1 : Option AV} {a2 : Option AV} {a3 : Option AV} {a4 : Option AV} {r : List (Option AV)} (d0 : decode cc pc = .ok (.iload 5, 2)) (k : V yy cc nL ret d Q (pc + 2) (a0 :: a1 :: a2 :: a3 :: a4 :: some (vI x) :: r) (vI x :: st) σ) : V yy cc nL ret d Q pc (a0 :: a1 :: a2 :: a3 :: a4 :: some (vI x) :: r) st σ := by
  intro hn p l e R s m args below meth c D ca ad A cells slots C H locs la hP hS hl
  exact lv_iload C.x C.b d0 (has_get (i := 5) (v := vI x) hl rfl) (k hn p l e R s m args below meth c D ca ad A cells slots C H locs la hP hS hl)
theorem V_lload_5 {x : Int} {a0 : Option AV} {a1 : Option AV} {a2 : Option AV} {a3 : Option AV} {a4 : Option AV} {r : List (Option AV)} (d0 : decode cc pc = .ok (.lload 5, 2)) (k : V yy cc nL ret d Q (pc + 2) (a0 :: a1 :: a2 :: a3 :: a4 :: some (vL x) :: r) (vL x :: st) σ) : V yy cc nL ret d Q pc (a0 :: a1 :: a2 :: a3 :: a4 :: some (vL x) :: r) st σ := by
  intro hn p l e R s m args below meth c D ca ad A cells slots C H locs la hP hS hl
  exact lv_lload C.x C.b d0 (has_get (i := 5) (v := vL x) hl rfl) (k hn p l e R s m args below meth c D ca ad A cells slots C H locs la hP hS hl)
theorem V_aload_5 {t : Nat} {x : Int} {a0 : Option AV} {a1 : Option AV} {a2 : Option AV} {a3 : Option AV} {a4 : Option AV} {r : List (Option AV)} (d0 : decode cc pc = .ok (.aload 5, 2)) (k : V yy cc nL ret d Q (pc + 2) (a0 :: a1 :: a2 :: a3 :: a4 :: some (vR t x) :: r) (vR t x :: st) σ) : V yy cc nL ret d Q pc (a0 :: a1 :: a2 :: a3 :: a4 :: some (vR t x) :: r) st σ := by
  intro hn p l e R s m args below meth c D ca ad A cells slots C H locs la hP hS hl
  exact lv_aload C.x C.b d0 (has_get (i := 5) (v := vR t x) hl rfl) (k hn p l e R s m args below meth c D ca ad A cells slots C H locs la hP hS hl)
theorem V_istore_5 {x : Int} {a0 : Option AV} {a1 : Option AV} {a2 : Option AV} {a3 : Option AV} {a4 : Option AV} {a5 : Option AV} {r : List (Option AV)} (d0 : decode cc pc = .ok (.istore 5, 2)) (k : V yy cc nL ret d Q (pc + 2) (a0 :: a1 :: a2 :: a3 :: a4 :: some (vI x) :: r) st σ) (hp : okp (a0 :: a1 :: a2 :: a3 :: a4 :: a5 :: r) 5 = true := by rfl) : V yy cc nL ret d Q pc (a0 :: a1 :: a2 :: a3 :: a4 :: a5 :: r) (vI x :: st) σ := by
  intro hn p l e R s m args below meth c D ca ad A cells slots C H locs la hP hS hl
  have hi : 5 < nL := by rw [← hn]; simp only [List.length_cons]; omega
  exact lv_istore C.x C.b d0 hl hi rfl (fun la2 hl2 => k (by simpa only [List.length_cons] using hn) p l e R s m args below meth c D ca ad A cells slots C H locs la2 hP hS (has_set1 (v := vI x) hp hl2))
theorem V_astore_5 {t : Nat} {x : Int} {a0 : Option AV} {a1 : Option AV} {a2 : Option AV} {a3 : Option AV} {a4 : Option AV} {a5 : Option AV} {r : List (Option AV)} (d0 : decode cc pc = .ok (.astore 5, 2)) (k : V yy cc nL ret d Q (pc + 2) (a0 :: a1 :: a2 :: a3 :: a4 :: some (vR t x) :: r) st σ) (hp : okp (a0 :: a1 :: a2 :: a3 :: a4 :: a5 :: r) 5 = true := by rfl) : V yy cc nL ret d Q pc (a0 :: a1 :: a2 :: a3 :: a4 :: a5 :: r) (vR t x :: st) σ := by
  intro hn p l e R s m args below meth c D ca ad A cells slots C H locs la hP hS hl
  have hi : 5 < nL := by rw [← hn]; simp only [List.length_cons]; omega
  exact lv_astore C.x C.b d0 hl hi rfl (fun la2 hl2 => k (by simpa only [List.length_cons] using hn) p l e R s m args below meth c D ca ad A cells slots C H locs la2 hP hS (has_set1 (v := vR t x) hp hl2))
theorem V_iinc_5 {x n : Int} {a0 : Option AV} {a1 : Option AV} {a2 : Option AV} {a3 : Option AV} {a4 : Option AV} {r : List (Option AV)} (d0 : decode cc pc = .ok (.iinc 5 n, 3)) (k : V yy cc nL ret d Q (pc + 3) (a0 :: a1 :: a2 :: a3 :: a4 :: some (vI (x + n)) :: r) st σ) (hp : okp (a0 :: a1 :: a2 :: a3 :: a4 :: some (vI x) :: r) 5 = true := by rfl) : V yy cc nL ret d Q pc (a0 :: a1 :: a2 :: a3 :: a4 :: some (vI x) :: r) st σ := by
  intro hn p l e R s m args below meth c D ca ad A cells slots C H locs la hP hS hl
  have hi : 5 < nL := by rw [← hn]; simp only [List.length_cons]; omega
  obtain ⟨kx, hkx⟩ := List.getElem?_of_mem ((asc_mem ad (a0 :: a1 :: a2 :: a3 :: a4 :: some (vI x) :: r) 0 (5, cv ad (vI x))).mpr ⟨5, vI x, rfl, rfl⟩)
  exact lv_iinc (v := iN (x + n)) C.x C.b d0 hl hkx (iN_add x n) hi rfl (fun la2 hl2 => k (by simpa only [List.length_cons] using hn) p l e R s m args below meth c D ca ad A cells slots C H locs la2 hP hS (has_set1 (v := vI (x + n)) hp hl2))
theorem V_lstore_5 {x : Int} {a0 : Option AV} {a1 : Option AV} {a2 : Option AV} {a3 : Option AV} {a4 : Option AV} {a5 : Option AV} {a6 : Option AV} {r : List (Option AV)} (d0 : decode cc pc = .ok (.lstore 5, 2)) (k : V yy cc nL ret d Q (pc + 2) (a0 :: a1 :: a2 :: a3 :: a4 :: some (vL x) :: none :: r) st σ) (hp : okp (a0 :: a1 :: a2 :: a3 :: a4 :: a5 :: a6 :: r) 5 = true := by rfl) : V yy cc nL ret d Q pc (a0 :: a1 :: a2 :: a3 :: a4 :: a5 :: a6 :: r) (vL x :: st) σ := by
  intro hn p l e R s m args below meth c D ca ad A cells slots C H locs la hP hS hl
  have hi : 5 + 1 < nL := by rw [← hn]; simp only [List.length_cons]; omega
  exact lv_lstore C.x C.b d0 hl hi rfl (fun la2 hl2 => k (by simpa only [List.length_cons] using hn) p l e R s m args below meth c D ca ad A cells slots C H locs la2 hP hS (has_set2 (v := vL x) hp (by simp only [List.length_cons]; omega) hl2))
theorem V_iload_6 {x : Int} {a0 : Option AV} {a1 : Option AV} {a2 : Option AV} {a3 : Option AV} {a4 : Option AV} {a5 : Option AV} {r : List (Option AV)} (d0 : decode cc pc = .ok (.iload 6, 2)) (k : V yy cc nL ret d Q (pc + 2) (a0 :: a1 :: a2 :: a3 :: a4 :: a5 :: some (vI x) :: r) (vI x :: st) σ) : V yy cc nL ret d Q pc (a0 :: a1 :: a2 :: a3 :: a4 :: a5 :: some (vI x) :: r) st σ := by
  intro hn p l e R s m args below meth c D ca ad A cells slots C H locs la hP hS hl
  exact lv_iload C.x C.b d0 (has_get (i := 6) (v := vI x) hl rfl) (k hn p l e R s m args below meth c D ca ad A cells slots C H locs la hP hS hl)
theorem V_lload_6 {x : Int} {a0 : Option AV} {a1 : Option AV} {a2 : Option AV} {a3 : Option AV} {a4 : Option AV} {a5 : Option AV} {r : List (Option AV)} (d0 : decode cc pc = .ok (.lload 6, 2)) (k : V yy cc nL ret d Q (pc + 2) (a0 :: a1 :: a2 :: a3 :: a4 :: a5 :: some (vL x) :: r) (vL x :: st) σ) : V yy cc nL ret d Q pc (a0 :: a1 :: a2 :: a3 :: a4 :: a5 :: some (vL x) :: r) st σ := by
  intro hn p l e R s m args below meth c D ca ad A cells slots C H locs la hP hS hl
  exact lv_lload C.x C.b d0 (has_get (i := 6) (v := vL x) hl rfl) (k hn p l e R s m args below meth c D ca ad A cells slots C H locs la hP hS hl)
theorem V_aload_6 {t : Nat} {x : Int} {a0 : Option AV} {a1 : Option AV} {a2 : Option AV} {a3 : Option AV} {a4 : Option AV} {a5 : Option AV} {r : List (Option AV)} (d0 : decode cc pc = .ok (.aload 6, 2)) (k : V yy cc nL ret d Q (pc + 2) (a0 :: a1 :: a2 :: a3 :: a4 :: a5 :: some (vR t x) :: r) (vR t x :: st) σ) : V yy cc nL ret d Q pc (a0 :: a1 :: a2 :: a3 :: a4 :: a5 :: some (vR t x) :: r) st σ := by
  intro hn p l e R s m args below meth c D ca ad A cells slots C H locs la hP hS hl
  exact lv_aload C.x C.b d0 (has_get (i := 6) (v := vR t x) hl rfl) (k hn p l e R s m args below meth c D ca ad A cells slots C H locs la hP hS hl)
theorem V_istore_6 {x : Int} {a0 : Option AV} {a1 : Option AV} {a2 : Option AV} {a3 : Option AV} {a4 : Option AV} {a5 : Option AV} {a6 : Option AV} {r : List (Option AV)} (d0 : decode cc pc = .ok (.istore 6, 2)) (k : V yy cc nL ret d Q (pc + 2) (a0 :: a1 :: a2 :: a3 :: a4 :: a5 :: some (vI x) :: r) st σ) (hp : okp (a0 :: a1 :: a2 :: a3 :: a4 :: a5 :: a6 :: r) 6 = true := by rfl) : V yy cc nL ret d Q pc (a0 :: a1 :: a2 :: a3 :: a4 :: a5 :: a6 :: r) (vI x :: st) σ := by
  intro hn p l e R s m args below meth c D ca ad A cells slots C H locs la hP hS hl
  have hi : 6 < nL := by rw [← hn]; simp only [List.length_cons]; omega
  exact lv_istore C.x C.b d0 hl hi rfl (fun la2 hl2 => k (by simpa only [List.length_cons] using hn) p l e R s m args below meth c D ca ad A cells slots C H locs la2 hP hS (has_set1 (v := vI x) hp hl2))
theorem V_astore_6 {t : Nat} {x : Int} {a0 : Option AV} {a1 : Option AV} {a2 : Option AV} {a3 : Option AV} {a4 : Option AV} {a5 : Option AV} {a6 : Option AV} {r : List (Option AV)} (d0 : decode cc pc = .ok (.astore 6, 2)) (k : V yy cc nL ret d Q (pc + 2) (a0 :: a1 :: a2 :: a3 :: a4 :: a5 :: some (vR t x) :: r) st σ) (hp : okp (a0 :: a1 :: a2 :: a3 :: a4 :: a5 :: a6 :: r) 6 = true := by rfl) : V yy cc nL ret d Q pc (a0 :: a1 :: a2 :: a3 :: a4 :: a5 :: a6 :: r) (vR t x :: st) σ := by
  intro hn p l e R s m args below meth c D ca ad A cells slots C H locs la hP hS hl
  have hi : 6 < nL := by rw [← hn]; simp only [List.length_cons]; omega
  exact lv_astore C.x C.b d0 hl hi rfl (fun la2 hl2 => k (by simpa only [List.length_cons] using hn) p l e R s m args below meth c D ca ad A cells slots C H locs la2 hP hS (has_set1 (v := vR t x) hp hl2))
theorem V_iinc_6 {x n : Int} {a0 : Option AV} {a1 : Option AV} {a2 : Option AV} {a3 : Option AV} {a4 : Option AV} {a5 : Option AV} {r : List (Option AV)} (d0 : decode cc pc = .ok (.iinc 6 n, 3)) (k : V yy cc nL ret d Q (pc + 3) (a0 :: a1 :: a2 :: a3 :: a4 :: a5 :: some (vI (x + n)) :: r) st σ) (hp : okp (a0 :: a1 :: a2 :: a3 :: a4 :: a5 :: some (vI x) :: r) 6 = true := by rfl) : V yy cc nL ret d Q pc (a0 :: a1 :: a2 :: a3 :: a4 :: a5 :: some (vI x) :: r) st σ := by
  intro hn p l e R s m args below meth c D ca ad A cells slots C H locs la hP hS hl
  have hi : 6 < nL := by rw [← hn]; simp only [List.length_cons]; omega
  obtain ⟨kx, hkx⟩ := List.getElem?_of_mem ((asc_mem ad (a0 :: a1 :: a2 :: a3 :: a4 :: a5 :: some (vI x) :: r) 0 (6, cv ad (vI x))).mpr ⟨6, vI x, rfl, rfl⟩)
  exact lv_iinc (v := iN (x + n)) C.x C.b d0 hl hkx (iN_add x n) hi rfl (fun la2 hl2 => k (by simpa only [List.length_cons] using hn) p l e R s m args below meth c D ca ad A cells slots C H locs la2 hP hS (has_set1 (v := vI (x + n)) hp hl2))
theorem V_lstore_6 {x : Int} {a0 : Option AV} {a1 : Option AV} {a2 : Option AV} {a3 : Option AV} {a4 : Option AV} {a5 : Option AV} {a6 : Option AV} {a7 : Option AV} {r : List (Option AV)} (d0 : decode cc pc = .ok (.lstore 6, 2)) (k : V yy cc nL ret d Q (pc + 2) (a0 :: a1 :: a2 :: a3 :: a4 :: a5 :: some (vL x) :: none :: r) st σ) (hp : okp (a0 :: a1 :: a2 :: a3 :: a4 :: a5 :: a6 :: a7 :: r) 6 = true := by rfl) : V yy cc nL ret d Q pc (a0 :: a1 :: a2 :: a3 :: a4 :: a5 :: a6 :: a7 :: r) (vL x :: st) σ := by
  intro hn p l e R s m args below meth c D ca ad A cells slots C H locs la hP hS hl
  have hi : 6 + 1 < nL := by rw [← hn]; simp only [List.length_cons]; omega
  exact lv_lstore C.x C.b d0 hl hi rfl (fun la2 hl2 => k (by simpa only [List.length_cons] using hn) p l e R s m args below meth c D ca ad A cells slots C H locs la2 hP hS (has_set2 (v := vL x) hp (by simp only [List.length_cons]; omega) hl2))
theorem V_iload_7 {x : Int} {a0 : Option AV} {a1 : Option AV} {a2 : Option AV} {a3 : Option AV} {a4 : Option AV} {a5 : Option AV} {a6 : Option AV} {r : List (Option AV)} (d0 : decode cc pc = .ok (.iload 7, 2)) (k : V yy cc nL ret d Q (pc + 2) (a0 :: a1 :: a2 :: a3 :: a4 :: a5 :: a6 :: some (vI x) :: r) (vI x :: st) σ) : V yy cc nL ret d Q pc (a0 :: a1 :: a2 :: a3 :: a4 :: a5 :: a6 :: some (vI x) :: r) st σ := by
  intro hn p l e R s m args below meth c D ca ad A cells slots C H locs la hP hS hl
  exact lv_iload C.x C.b d0 (has_get (i := 7) (v := vI x) hl rfl) (k hn p l e R s m args below meth c D ca ad A cells slots C H locs la hP hS hl)
theorem V_lload_7 {x : Int} {a0 : Option AV} {a1 : Option AV} {a2 : Option AV} {a3 : Option AV} {a4 : Option AV} {a5 : Option AV} {a6 : Option AV} {r : List (Option AV)} (d0 : decode cc pc = .ok (.lload 7, 2)) (k : V yy cc nL ret d Q (pc + 2) (a0 :: a1 :: a2 :: a3 :: a4 :: a5 :: a6 :: some (vL x) :: r) (vL x :: st) σ) : V yy cc nL ret d Q pc (a0 :: a1 :: a2 :: a3 :: a4 :: a5 :: a6 :: some (vL x) :: r) st σ := by
  intro hn p l e R s m args below meth c D ca ad A cells slots C H locs la hP hS hl
  exact lv_lload C.x C.b d0 (has_get (i := 7) (v := vL x) hl rfl) (k hn p l e R s m args below meth c D ca ad A cells slots C H locs la hP hS hl)
theorem V_aload_7 {t : Nat} {x : Int} {a0 : Option AV} {a1 : Option AV} {a2 : Option AV} {a3 : Option AV} {a4 : Option AV} {a5 : Option AV} {a6 : Option AV} {r : List (Option AV)} (d0 : decode cc pc = .ok (.aload 7, 2)) (k : V yy cc nL ret d Q (pc + 2) (a0 :: a1 :: a2 :: a3 :: a4 :: a5 :: a6 :: some (vR t x) :: r) (vR t x :: st) σ) : V yy cc nL ret d Q pc (a0 :: a1 :: a2 :: a3 :: a4 :: a5 :: a6 :: some (vR t x) :: r) st σ := by
  intro hn p l e R s m args below meth c D ca ad A cells slots C H locs la hP hS hl
  exact lv_aload C.x C.b d0 (has_get (i := 7) (v := vR t x) hl rfl) (k hn p l e R s m args below meth c D ca ad A cells slots C H locs la hP hS hl)
theorem V_istore_7 {x : Int} {a0 : Option AV} {a1 : Option AV} {a2 : Option AV} {a3 : Option AV} {a4 : Option AV} {a5 : Option AV} {a6 : Option AV} {a7 : Option AV} {r : List (Option AV)} (d0 : decode cc pc = .ok (.istore 7, 2)) (k : V yy cc nL ret d Q (pc + 2) (a0 :: a1 :: a2 :: a3 :: a4 :: a5 :: a6 :: some (vI x) :: r) st σ) (hp : okp (a0 :: a1 :: a2 :: a3 :: a4 :: a5 :: a6 :: a7 :: r) 7 = true := by rfl) : V yy cc nL ret d Q pc (a0 :: a1 :: a2 :: a3 :: a4 :: a5 :: a6 :: a7 :: r) (vI x :: st) σ := by
  intro hn p l e R s m args below meth c D ca ad A cells slots C H locs la hP hS hl
  have hi : 7 < nL := by rw [← hn]; simp only [List.length_cons]; omega
  exact lv_istore C.x C.b d0 hl hi rfl (fun la2 hl2 => k (by simpa only [List.length_cons] using hn) p l e R s m args below meth c D ca ad A cells slots C H locs la2 hP hS (has_set1 (v := vI x) hp hl2))
theorem V_astore_7 {t : Nat} {x : Int} {a0 : Option AV} {a1 : Option AV} {a2 : Option AV} {a3 : Option AV} {a4 : Option AV} {a5 : Option AV} {a6 : Option AV} {a7 : Option AV} {r : List (Option AV)} (d0 : decode cc pc = .ok (.astore 7, 2)) (k : V yy cc nL ret d Q (pc + 2) (a0 :: a1 :: a2 :: a3 :: a4 :: a5 :: a6 :: some (vR t x) :: r) st σ) (hp : okp (a0 :: a1 :: a2 :: a3 :: a4 :: a5 :: a6 :: a7 :: r) 7 = true := by rfl) : V yy cc nL ret d Q pc (a0 :: a1 :: a2 :: a3 :: a4 :: a5 :: a6 :: a7 :: r) (vR t x :: st) σ := by
  intro hn p l e R s m args below meth c D ca ad A cells slots C H locs la hP hS hl
  have hi : 7 < nL := by rw [← hn]; simp only [List.length_cons]; omega
  exact lv_astore C.x C.b d0 hl hi rfl (fun la2 hl2 => k (by simpa only [List.length_cons] using hn) p l e R s m args below meth c D ca ad A cells slots C H locs la2 hP hS (has_set1 (v := vR t x) hp hl2))
theorem V_iinc_7 {x n : Int} {a0 : Option AV} {a1 : Option AV} {a2 : Option AV} {a3 : Option AV} {a4 : Option AV} {a5 : Option AV} {a6 : Option AV} {r : List (Option AV)} (d0 : decode cc pc = .ok (.iinc 7 n, 3)) (k : V yy cc nL ret d Q (pc + 3) (a0 :: a1 :: a2 :: a3 :: a4 :: a5 :: a6 :: some (vI (x + n)) :: r) st σ) (hp : okp (a0 :: a1 :: a2 :: a3 :: a4 :: a5 :: a6 :: some (vI x) :: r) 7 = true := by rfl) : V yy cc nL ret d Q pc (a0 :: a1 :: a2 :: a3 :: a4 :: a5 :: a6 :: some (vI x) :: r) st σ := by
  intro hn p l e R s m args below meth c D ca ad A cells slots C H locs la hP hS hl
  have hi : 7 < nL := by rw [← hn]; simp only [List.length_cons]; omega
  obtain ⟨kx, hkx⟩ := List.getElem?_of_mem ((asc_mem ad (a0 :: a1 :: a2 :: a3 :: a4 :: a5 :: a6 :: some (vI x) :: r) 0 (7, cv ad (vI x))).mpr ⟨7, vI x, rfl, rfl⟩)
  exact lv_iinc (v := iN (x + n)) C.x C.b d0 hl hkx (iN_add x n) hi rfl (fun la2 hl2 => k (by simpa only [List.length_cons] using hn) p l e R s m args below meth c D ca ad A cells slots C H locs la2 hP hS (has_set1 (v := vI (x + n)) hp hl2))
theorem V_lstore_7 {x : Int} {a0 : Option AV} {a1 : Option AV} {a2 : Option AV} {a3 : Option AV} {a4 : Option AV} {a5 : Option AV} {a6 : Option AV} {a7 : Option AV} {a8 : Option AV} {r : List (Option AV)} (d0 : decode cc pc = .ok (.lstore 7, 2)) (k : V yy cc nL ret d Q (pc + 2) (a0 :: a1 :: a2 :: a3 :: a4 :: a5 :: a6 :: some (vL x) :: none :: r) st σ) (hp : okp (a0 :: a1 :: a2 :: a3 :: a4 :: a5 :: a6 :: a7 :: a8 :: r) 7 = true := by rfl) : V yy cc nL ret d Q pc (a0 :: a1 :: a2 :: a3 :: a4 :: a5 :: a6 :: a7 :: a8 :: r) (vL x :: st) σ := by
  intro hn p l e R s m args below meth c D ca ad A cells slots C H locs la hP hS hl
  have hi : 7 + 1 < nL := by rw [← hn]; simp only [List.length_cons]; omega
  exact lv_lstore C.x C.b d0 hl hi rfl (fun la2 hl2 => k (by simpa only [List.length_cons] using hn) p l e R s m args below meth c D ca ad A cells slots C H locs la2 hP hS (has_set2 (v := vL x) hp (by simp only [List.length_cons]; omega) hl2))
theorem V_iload_8 {x : Int} {a0 : Option AV} {a1 : Option AV} {a2 : Option AV} {a3 : Option AV} {a4 : Option AV} {a5 : Option AV} {a6 : Option AV} {a7 : Option AV} {r : List (Option AV)} (d0 : decode cc pc = .ok (.iload 8, 2)) (k : V yy cc nL ret d Q (pc + 2) (a0 :: a1 :: a2 :: a3 :: a4 :: a5 :: a6 :: a7 :: some (vI x) :: r) (vI x :: st) σ) : V yy cc nL ret d Q pc (a0 :: a1 :: a2 :: a3 :: a4 :: a5 :: a6 :: a7 :: some (vI x) :: r) st σ := by
  intro hn p l e R s m args below meth c D ca ad A cells slots C H locs la hP hS hl
  exact lv_iload C.x C.b d0 (has_get (i := 8) (v := vI x) hl rfl) (k hn p l e R s m args below meth c D ca ad A cells slots C H locs la hP hS hl)
theorem V_lload_8 {x : Int} {a0 : Option AV} {a1 : Option AV} {a2 : Option AV} {a3 : Option AV} {a4 : Option AV} {a5 : Option AV} {a6 : Option AV} {a7 : Option AV} {r : List (Option AV)} (d0 : decode cc pc = .ok (.lload 8, 2)) (k : V yy cc nL ret d Q (pc + 2) (a0 :: a1 :: a2 :: a3 :: a4 :: a5 :: a6 :: a7 :: some (vL x) :: r) (vL x :: st) σ) : V yy cc nL ret d Q pc (a0 :: a1 :: a2 :: a3 :: a4 :: a5 :: a6 :: a7 :: some (vL x) :: r) st σ := by
  intro hn p l e R s m args below meth c D ca ad A cells slots C H locs la hP hS hl
  exact lv_lload C.x C.b d0 (has_get (i := 8) (v := vL x) hl rfl) (k hn p l e R s m args below meth c D ca ad A cells slots C H locs la hP hS hl)
theorem V_aload_8 {t : Nat} {x : Int} {a0 : Option AV} {a1 : Option AV} {a2 : Option AV} {a3 : Option AV} {a4 : Option AV} {a5 : Option AV} {a6 : Option AV} {a7 : Option AV} {r : List (Option AV)} (d0 : decode cc pc = .ok (.aload 8, 2)) (k : V yy cc nL ret d Q (pc + 2) (a0 :: a1 :: a2 :: a3 :: a4 :: a5 :: a6 :: a7 :: some (vR t x) :: r) (vR t x :: st) σ) : V yy cc nL ret d Q pc (a0 :: a1 :: a2 :: a3 :: a4 :: a5 :: a6 :: a7 :: some (vR t x) :: r) st σ := by
  intro hn p l e R s m args below meth c D ca ad A cells slots C H locs la hP hS hl
  exact lv_aload C.x C.b d0 (has_get (i := 8) (v := vR t x) hl rfl) (k hn p l e R s m args below meth c D ca ad A cells slots C H locs la hP hS hl)
theorem V_istore_8 {x : Int} {a0 : Option AV} {a1 : Option AV} {a2 : Option AV} {a3 : Option AV} {a4 : Option AV} {a5 : Option AV} {a6 : Option AV} {a7 : Option AV} {a8 : Option AV} {r : List (Option AV)} (d0 : decode cc pc = .ok (.istore 8, 2)) (k : V yy cc nL ret d Q (pc + 2) (a0 :: a1 :: a2 :: a3 :: a4 :: a5 :: a6 :: a7 :: some (vI x) :: r) st σ) (hp : okp (a0 :: a1 :: a2 :: a3 :: a4 :: a5 :: a6 :: a7 :: a8 :: r) 8 = true := by rfl) : V yy cc nL ret d Q pc (a0 :: a1 :: a2 :: a3 :: a4 :: a5 :: a6 :: a7 :: a8 :: r) (vI x :: st) σ := by
  intro hn p l e R s m args below meth c D ca ad A cells slots C H locs la hP hS hl
  have hi : 8 < nL := by rw [← hn]; simp only [List.length_cons]; omega
  exact lv_istore C.x C.b d0 hl hi rfl (fun la2 hl2 => k (by simpa only [List.length_cons] using hn) p l e R s m args below meth c D ca ad A cells slots C H locs la2 hP hS (has_set1 (v := vI x) hp hl2))
theorem V_astore_8 {t : Nat} {x : Int} {a0 : Option AV} {a1 : Option AV} {a2 : Option AV} {a3 : Option AV} {a4 : Option AV} {a5 : Option AV} {a6 : Option AV} {a7 : Option AV} {a8 : Option AV} {r : List (Option AV)} (d0 : decode cc pc = .ok (.astore 8, 2)) (k : V yy cc nL ret d Q (pc + 2) (a0 :: a1 :: a2 :: a3 :: a4 :: a5 :: a6 :: a7 :: some (vR t x) :: r) st σ) (hp : okp (a0 :: a1 :: a2 :: a3 :: a4 :: a5 :: a6 :: a7 :: a8 :: r) 8 = true := by rfl) : V yy cc nL ret d Q pc (a0 :: a1 :: a2 :: a3 :: a4 :: a5 :: a6 :: a7 :: a8 :: r) (vR t x :: st) σ := by
  intro hn p l e R s m args below meth c D ca ad A cells slots C H locs la hP hS hl
  have hi : 8 < nL := by rw [← hn]; simp only [List.length_cons]; omega
  exact lv_astore C.x C.b d0 hl hi rfl (fun la2 hl2 => k (by simpa only [List.length_cons] using hn) p l e R s m args below meth c D ca ad A cells slots C H locs la2 hP hS (has_set1 (v := vR t x) hp hl2))
theorem V_iinc_8 {x n : Int} {a0 : Option AV} {a1 : Option AV} {a2 : Option AV} {a3 : Option AV} {a4 : Option AV} {a5 : Option AV} {a6 : Option AV} {a7 : Option AV} {r : List (Option AV)} (d0 : decode cc pc = .ok (.iinc 8 n, 3)) (k : V yy cc nL ret d Q (pc + 3) (a0 :: a1 :: a2 :: a3 :: a4 :: a5 :: a6 :: a7 :: some (vI (x + n)) :: r) st σ) (hp : okp (a0 :: a1 :: a2 :: a3 :: a4 :: a5 :: a6 :: a7 :: some (vI x) :: r) 8 = true := by rfl) : V yy cc nL ret d Q pc (a0 :: a1 :: a2 :: a3 :: a4 :: a5 :: a6 :: a7 :: some (vI x) :: r) st σ := by
  intro hn p l e R s m args below meth c D ca ad A cells slots C H locs la hP hS hl
  have hi : 8 < nL := by rw [← hn]; simp only [List.length_cons]; omega
  obtain ⟨kx, hkx⟩ := List.getElem?_of_mem ((asc_mem ad (a0 :: a1 :: a2 :: a3 :: a4 :: a5 :: a6 :: a7 :: some (vI x) :: r) 0 (8, cv ad (vI x))).mpr ⟨8, vI x, rfl, rfl⟩)
  exact lv_iinc (v := iN (x + n)) C.x C.b d0 hl hkx (iN_add x n) hi rfl (fun la2 hl2 => k (by simpa only [List.length_cons] using hn) p l e R s m args below meth c D ca ad A cells slots C H locs la2 hP hS (has_set1 (v := vI (x + n)) hp hl2))
theorem V_lstore_8 {x : Int} {a0 : Option AV} {a1 : Option AV} {a2 : Option AV} {a3 : Option AV} {a4 : Option AV} {a5 : Option AV} {a6 : Option AV} {a7 : Option AV} {a8 : Option AV} {a9 : Option AV} {r : List (Option AV)} (d0 : decode cc pc = .ok (.lstore 8, 2)) (k : V yy cc nL ret d Q (pc + 2) (a0 :: a1 :: a2 :: a3 :: a4 :: a5 :: a6 :: a7 :: some (vL x) :: none :: r) st σ) (hp : okp (a0 :: a1 :: a2 :: a3 :: a4 :: a5 :: a6 :: a7 :: a8 :: a9 :: r) 8 = true := by rfl) : V yy cc nL ret d Q pc (a0 :: a1 :: a2 :: a3 :: a4 :: a5 :: a6 :: a7 :: a8 :: a9 :: r) (vL x :: st) σ := by
  intro hn p l e R s m args below meth c D ca ad A cells slots C H locs la hP hS hl
  have hi : 8 + 1 < nL := by rw [← hn]; simp only [List.length_cons]; omega
  exact lv_lstore C.x C.b d0 hl hi rfl (fun la2 hl2 => k (by simpa only [List.length_cons] using hn) p l e R s m args below meth c D ca ad A cells slots C H locs la2 hP hS (has_set2 (v := vL x) hp (by simp only [List.length_cons]; omega) hl2))
theorem V_iald {t n N : Nat} {k z v : Int} (d0 : decode cc pc = .ok (.iaload, 1)) (hs : shp t = shI n ∧ cnt t = N ∧ n < 2147483648) (hk : 0 ≤ k ∧ k < N) (hz : 0 ≤ z ∧ z < n) (hv : σ t k z = v) (k9 : V yy cc nL ret d Q (pc + 1) ls (vI v :: st) σ) : V yy cc nL ret d Q pc ls (vI z :: vR t k :: st) σ := by
  subst hv
  intro hn p l e R s m args below meth c D ca ad A cells slots C H locs la hP hS hl
  obtain ⟨hs, hN, hn2⟩ := hs
  obtain ⟨kk, rfl⟩ := Int.eq_ofNat_of_zero_le hk.1
  obtain ⟨q0, h1, h2⟩ := ws_at ca ad σ (t := t) (k := kk) (by rw [hN]; omega)
  rw [en_p hs] at h2
  refine va_iald C.x C.b C.K hP q0 0 h2 rfl (iN_in hz.1 hz.2 hn2) d0 ?_
  show W _ _ _ _ _ _ _ _ _ _ _ _ _ _ _ (F0 _ _ _ (.int (iN (σ t kk ((iN z).toNatClampNeg : Int))) :: _))
  rw [iN_cl hz.1 hz.2 hn2]
  exact k9 hn p l e R s m args below meth c D ca ad A cells slots C H locs la hP hS hl
theorem V_bald {t n N : Nat} {k z v : Int} (d0 : decode cc pc = .ok (.baload, 1)) (hs : shp t = shB n ∧ cnt t = N ∧ n < 2147483648) (hk : 0 ≤ k ∧ k < N) (hz : 0 ≤ z ∧ z < n) (hv : σ t k z = v) (k9 : V yy cc nL ret d Q (pc + 1) ls (vI v :: st) σ) : V yy cc nL ret d Q pc ls (vI z :: vR t k :: st) σ := by
  subst hv
  intro hn p l e R s m args below meth c D ca ad A cells slots C H locs la hP hS hl
  obtain ⟨hs, hN, hn2⟩ := hs
  obtain ⟨kk, rfl⟩ := Int.eq_ofNat_of_zero_le hk.1
  obtain ⟨q0, h1, h2⟩ := ws_at ca ad σ (t := t) (k := kk) (by rw [hN]; omega)
  rw [en_p hs] at h2
  refine va_bald C.x C.b C.K hP q0 2 h2 rfl (iN_in hz.1 hz.2 hn2) d0 ?_
  show W _ _ _ _ _ _ _ _ _ _ _ _ _ _ _ (F0 _ _ _ (.int (iN (σ t kk ((iN z).toNatClampNeg : Int))) :: _))
  rw [iN_cl hz.1 hz.2 hn2]
  exact k9 hn p l e R s m args below meth c D ca ad A cells slots C H locs la hP hS hl
theorem V_zald {t n N : Nat} {k z v : Int} (d0 : decode cc pc = .ok (.baload, 1)) (hs : shp t = shZ n ∧ cnt t = N ∧ n < 2147483648) (hk : 0 ≤ k ∧ k < N) (hz : 0 ≤ z ∧ z < n) (hv : σ t k z = v) (k9 : V yy cc nL ret d Q (pc + 1) ls (vI v :: st) σ) : V yy cc nL ret d Q pc ls (vI z :: vR t k :: st) σ := by
  subst hv
  intro hn p l e R s m args below meth c D ca ad A cells slots C H locs la hP hS hl
  obtain ⟨hs, hN, hn2⟩ := hs
  obtain ⟨kk, rfl⟩ := Int.eq_ofNat_of_zero_le hk.1
  obtain ⟨q0, h1, h2⟩ := ws_at ca ad σ (t := t) (k := kk) (by rw [hN]; omega)
  rw [en_p hs] at h2
  refine va_zald C.x C.b C.K hP q0 3 h2 rfl (iN_in hz.1 hz.2 hn2) d0 ?_
  show W _ _ _ _ _ _ _ _ _ _ _ _ _ _ _ (F0 _ _ _ (.int (iN (σ t kk ((iN z).toNatClampNeg : Int))) :: _))
  rw [iN_cl hz.1 hz.2 hn2]
  exact k9 hn p l e R s m args below meth c D ca ad A cells slots C H locs la hP hS hl
theorem V_jald {t n N : Nat} {k z v : Int} (d0 : decode cc pc = .ok (.laload, 1)) (hs : shp t = shJ n ∧ cnt t = N ∧ n < 2147483648) (hk : 0 ≤ k ∧ k < N) (hz : 0 ≤ z ∧ z < n) (hv : σ t k z = v) (k9 : V yy cc nL ret d Q (pc + 1) ls (vL v :: st) σ) : V yy cc nL ret d Q pc ls (vI z :: vR t k :: st) σ := by
  subst hv
  intro hn p l e R s m args below meth c D ca ad A cells slots C H locs la hP hS hl
  obtain ⟨hs, hN, hn2⟩ := hs
  obtain ⟨kk, rfl⟩ := Int.eq_ofNat_of_zero_le hk.1
  obtain ⟨q0, h1, h2⟩ := ws_at ca ad σ (t := t) (k := kk) (by rw [hN]; omega)
  rw [en_j hs] at h2
  refine va_lald C.x C.b C.K hP q0 1 h2 rfl (iN_in hz.1 hz.2 hn2) d0 ?_
  show W _ _ _ _ _ _ _ _ _ _ _ _ _ _ _ (F0 _ _ _ (.long (lI (σ t kk ((iN z).toNatClampNeg : Int))) :: _))
  rw [iN_cl hz.1 hz.2 hn2]
  exact k9 hn p l e R s m args below meth c D ca ad A cells slots C H locs la hP hS hl
theorem V_iast {t n N : Nat} {k z v : Int} (d0 : decode cc pc = .ok (.iastore, 1)) (hs : shp t = shI n ∧ cnt t = N ∧ n < 2147483648) (hk : 0 ≤ k ∧ k < N) (hz : 0 ≤ z ∧ z < n)  (k9 : V yy cc nL ret d Q (pc + 1) ls st (setI σ t k z v)) : V yy cc nL ret d Q pc ls (vI v :: vI z :: vR t k :: st) σ := by
  intro hn p l e R s m args below meth c D ca ad A cells slots C H locs la hP hS hl
  obtain ⟨hs, hN, hn2⟩ := hs
  obtain ⟨kk, rfl⟩ := Int.eq_ofNat_of_zero_le hk.1
  have hkc : kk < cnt t := by rw [hN]; omega
  obtain ⟨q0, h1, h2⟩ := ws_at ca ad σ (t := t) (k := kk) hkc
  rw [en_p hs] at h2
  have ht92 : (92 : Nat) ≠ t := by have := cnt_lt hkc; omega
  have e9 : (setI σ t kk z v) 92 = σ 92 := setI_tag ht92
  have k9 := k9 hn p l e R s m args below meth c D ca ad A cells slots (by rw [e9]; exact C)
  rw [e9] at k9
  refine va_iast C.x C.b C.K hP (C.dw.D σ) hS q0 0 h2 rfl (iN_in hz.1 hz.2 hn2) d0 (fun H1 locs1 hP1 hD1 hS1 => ?_)
  have e8 := ws_elI (ca := ca) (ad := ad) (σ := σ) (i := (iN z).toNatClampNeg) v h1 hs
  rw [iN_cl hz.1 hz.2 hn2] at e8
  exact k9 H1 locs1 la (by rw [← e8]; exact hP1) hS1 hl
theorem V_jast {t n N : Nat} {k z v : Int} (d0 : decode cc pc = .ok (.lastore, 1)) (hs : shp t = shJ n ∧ cnt t = N ∧ n < 2147483648) (hk : 0 ≤ k ∧ k < N) (hz : 0 ≤ z ∧ z < n)  (k9 : V yy cc nL ret d Q (pc + 1) ls st (setI σ t k z v)) : V yy cc nL ret d Q pc ls (vL v :: vI z :: vR t k :: st) σ := by
  intro hn p l e R s m args below meth c D ca ad A cells slots C H locs la hP hS hl
  obtain ⟨hs, hN, hn2⟩ := hs
  obtain ⟨kk, rfl⟩ := Int.eq_ofNat_of_zero_le hk.1
  have hkc : kk < cnt t := by rw [hN]; omega
  obtain ⟨q0, h1, h2⟩ := ws_at ca ad σ (t := t) (k := kk) hkc
  rw [en_j hs] at h2
  have ht92 : (92 : Nat) ≠ t := by have := cnt_lt hkc; omega
  have e9 : (setI σ t kk z v) 92 = σ 92 := setI_tag ht92
  have k9 := k9 hn p l e R s m args below meth c D ca ad A cells slots (by rw [e9]; exact C)
  rw [e9] at k9
  refine va_last C.x C.b C.K hP (C.dw.D σ) hS q0 1 h2 rfl (iN_in hz.1 hz.2 hn2) d0 (fun H1 locs1 hP1 hD1 hS1 => ?_)
  have e8 := ws_elJ (ca := ca) (ad := ad) (σ := σ) (i := (iN z).toNatClampNeg) v h1 hs
  rw [iN_cl hz.1 hz.2 hn2] at e8
  exact k9 H1 locs1 la (by rw [← e8]; exact hP1) hS1 hl
theorem V_bast {t n N : Nat} {k z v : Int} (d0 : decode cc pc = .ok (.bastore, 1)) (hs : shp t = shB n ∧ cnt t = N ∧ n < 2147483648) (hk : 0 ≤ k ∧ k < N) (hz : 0 ≤ z ∧ z < n)  (k9 : V yy cc nL ret d Q (pc + 1) ls st (setI σ t k z (b8 v))) : V yy cc nL ret d Q pc ls (vI v :: vI z :: vR t k :: st) σ := by
  intro hn p l e R s m args below meth c D ca ad A cells slots C H locs la hP hS hl
  obtain ⟨hs, hN, hn2⟩ := hs
  obtain ⟨kk, rfl⟩ := Int.eq_ofNat_of_zero_le hk.1
  have hkc : kk < cnt t := by rw [hN]; omega
  obtain ⟨q0, h1, h2⟩ := ws_at ca ad σ (t := t) (k := kk) hkc
  rw [en_p hs] at h2
  have ht92 : (92 : Nat) ≠ t := by have := cnt_lt hkc; omega
  have e9 : (setI σ t kk z (b8 v)) 92 = σ 92 := setI_tag ht92
  have k9 := k9 hn p l e R s m args below meth c D ca ad A cells slots (by rw [e9]; exact C)
  rw [e9] at k9
  refine va_bast C.x C.b C.K hP (C.dw.D σ) hS q0 2 h2 rfl (iN_in hz.1 hz.2 hn2) d0 (fun H1 locs1 hP1 hD1 hS1 => ?_)
  rw [show vp_nar .byte (iN v) = iN (b8 v) from (vp_nar_byte _).trans (iN_b8 v)] at hP1
  have e8 := ws_elI (ca := ca) (ad := ad) (σ := σ) (i := (iN z).toNatClampNeg) (b8 v) h1 hs
  rw [iN_cl hz.1 hz.2 hn2] at e8
  exact k9 H1 locs1 la (by rw [← e8]; exact hP1) hS1 hl
theorem V_zast {t n N : Nat} {k z v : Int} (d0 : decode cc pc = .ok (.bastore, 1)) (hs : shp t = shZ n ∧ cnt t = N ∧ n < 2147483648) (hk : 0 ≤ k ∧ k < N) (hz : 0 ≤ z ∧ z < n) (hv : v = 0 ∨ v = 1) (k9 : V yy cc nL ret d Q (pc + 1) ls st (setI σ t k z v)) : V yy cc nL ret d Q pc ls (vI v :: vI z :: vR t k :: st) σ := by
  intro hn p l e R s m args below meth c D ca ad A cells slots C H locs la hP hS hl
  obtain ⟨hs, hN, hn2⟩ := hs
  obtain ⟨kk, rfl⟩ := Int.eq_ofNat_of_zero_le hk.1
  have hkc : kk < cnt t := by rw [hN]; omega
  obtain ⟨q0, h1, h2⟩ := ws_at ca ad σ (t := t) (k := kk) hkc
  rw [en_p hs] at h2
  have ht92 : (92 : Nat) ≠ t := by have := cnt_lt hkc; omega
  have e9 : (setI σ t kk z v) 92 = σ 92 := setI_tag ht92
  have k9 := k9 hn p l e R s m args below meth c D ca ad A cells slots (by rw [e9]; exact C)
  rw [e9] at k9
  refine va_zast C.x C.b C.K hP (C.dw.D σ) hS q0 3 h2 rfl (iN_in hz.1 hz.2 hn2) d0 (fun H1 locs1 hP1 hD1 hS1 => ?_)
  rw [show vp_nar .boolean (iN v) = iN v from (by rcases hv with rfl | rfl <;> rfl)] at hP1
  have e8 := ws_elI (ca := ca) (ad := ad) (σ := σ) (i := (iN z).toNatClampNeg) v h1 hs
  rw [iN_cl hz.1 hz.2 hn2] at e8
  exact k9 H1 locs1 la (by rw [← e8]; exact hP1) hS1 hl
theorem wa_aldr {p : Program} {l : Launch} {e : Env} {R : Room} {s : State} {m : MethodId} {args : Array Value} {below : List Frame} {meth : Method} {c : Code} {H : Heap} {locs : List Loc} {cells slots : Nat} {Z : State → Prop} {ls : Array Slot} {rest : List Value} {D : va_G} {cl : List vw_C} {a : Nat} {tys : List (ClassId × FieldType)} {ws : va_W} (hexec : p.tables.exec = Jvm.exec) (hb : c.code = cc) (hK : va_K D cl tys s) (hP : va_P D cl ws H) (q0 t0 : Nat) {cA : ClassId} {ty : FieldType} {n : Nat} {f : Nat → Option Nat} (hty : ty = .array .int) (ha : ws[q0]? = some (a, .inl (cA, n, .inr (.inr (.inr (.inr f)))))) (ht : tys[t0]? = some (cA, ty)) {i : Int32} (hin : vp_in i n) (hdg : decode cc pc = .ok (.aaload, 1))
    (kk : W p l e R s m args below meth c H locs cells slots Z (F0 m (pc + 1) ls (va_rf (f i.toNatClampNeg) :: rest))) : W p l e R s m args below meth c H locs cells slots Z (F0 m pc ls (.int i :: .ref a :: rest)) := by
  subst hty
  have hlt : i.toNatClampNeg < n := Nat.not_le.mp fun q => hin (Or.inr q)
  exact W.aald (v := va_rf (f i.toNatClampNeg)) (ty := .array .int) hexec hb (hP q0 _ ha) ((hK.2 t0 _ ht).1 n (fun j => va_rf (f j))) rfl (fun q => by cases q) (by show ¬ (i < 0 ∨ (arrV _ _ _).slots.size ≤ _); rw [arrV_size]; exact hin) (by show (arrV _ _ _).slots[_]? = _; rw [arrV_read _ _ hlt]) rfl rfl hdg kk
theorem V_aald_19 {k z : Int} (d0 : decode cc pc = .ok (.aaload, 1)) (hk : 0 ≤ k ∧ k < 2) (hz : 0 ≤ z ∧ z < 21) (k9 : V yy cc nL ret d Q (pc + 1) ls (vR 22 (21 * k + z) :: st) σ) : V yy cc nL ret d Q pc ls (vI z :: vR 19 k :: st) σ := by
  intro hn p l e R s m args below meth c D ca ad A cells slots C H locs la hP hS hl
  obtain ⟨kk, rfl⟩ := Int.eq_ofNat_of_zero_le hk.1
  obtain ⟨q0, h1, h2⟩ := ws_at ca ad σ (t := 19) (k := kk) (by show kk < 2; omega)
  rw [en_a (n := 21) (ty := (.array .int)) rfl] at h2
  refine wa_aldr C.x C.b C.K hP q0 6 rfl h2 rfl (iN_in (n := 21) hz.1 (by omega) (by omega)) d0 ?_
  have e9 : ((iN z).toNatClampNeg : Int) = z := iN_cl (n := 21) hz.1 (by omega) (by omega)
  have k9 := k9 hn p l e R s m args below meth c D ca ad A cells slots C H locs la hP hS hl
  rw [← e9] at k9
  exact k9
theorem V_aald_20 {k z : Int} (d0 : decode cc pc = .ok (.aaload, 1)) (hk : 0 ≤ k ∧ k < 2) (hz : 0 ≤ z ∧ z < 21) (k9 : V yy cc nL ret d Q (pc + 1) ls (vR 23 (21 * k + z) :: st) σ) : V yy cc nL ret d Q pc ls (vI z :: vR 20 k :: st) σ := by
  intro hn p l e R s m args below meth c D ca ad A cells slots C H locs la hP hS hl
  obtain ⟨kk, rfl⟩ := Int.eq_ofNat_of_zero_le hk.1
  obtain ⟨q0, h1, h2⟩ := ws_at ca ad σ (t := 20) (k := kk) (by show kk < 2; omega)
  rw [en_a (n := 21) (ty := (.array .int)) rfl] at h2
  refine wa_aldr C.x C.b C.K hP q0 6 rfl h2 rfl (iN_in (n := 21) hz.1 (by omega) (by omega)) d0 ?_
  have e9 : ((iN z).toNatClampNeg : Int) = z := iN_cl (n := 21) hz.1 (by omega) (by omega)
  have k9 := k9 hn p l e R s m args below meth c D ca ad A cells slots C H locs la hP hS hl
  rw [← e9] at k9
  exact k9
theorem V_aald_24 {k z : Int} (d0 : decode cc pc = .ok (.aaload, 1)) (hk : 0 ≤ k ∧ k < 1) (hz : 0 ≤ z ∧ z < 3) (k9 : V yy cc nL ret d Q (pc + 1) ls (vR 3 (3 + z) :: st) σ) : V yy cc nL ret d Q pc ls (vI z :: vR 24 k :: st) σ := by
  intro hn p l e R s m args below meth c D ca ad A cells slots C H locs la hP hS hl
  obtain ⟨kk, rfl⟩ := Int.eq_ofNat_of_zero_le hk.1
  obtain ⟨q0, h1, h2⟩ := ws_at ca ad σ (t := 24) (k := kk) (by show kk < 1; omega)
  rw [en_a (n := 3) (ty := (.object "GallRegister$Book")) rfl] at h2
  refine va_aldq C.x C.b C.K hP q0 4 h2 rfl (iN_in (n := 3) hz.1 (by omega) (by omega)) d0 ?_
  have e9 : ((iN z).toNatClampNeg : Int) = z := iN_cl (n := 3) hz.1 (by omega) (by omega)
  have k9 := k9 hn p l e R s m args below meth c D ca ad A cells slots C H locs la hP hS hl
  rw [← e9] at k9
  exact k9
theorem V_aald_26 {k z : Int} (d0 : decode cc pc = .ok (.aaload, 1)) (hk : 0 ≤ k ∧ k < 1) (hz : 0 ≤ z ∧ z < 4) (k9 : V yy cc nL ret d Q (pc + 1) ls (vR 27 (z) :: st) σ) : V yy cc nL ret d Q pc ls (vI z :: vR 26 k :: st) σ := by
  intro hn p l e R s m args below meth c D ca ad A cells slots C H locs la hP hS hl
  obtain ⟨kk, rfl⟩ := Int.eq_ofNat_of_zero_le hk.1
  obtain ⟨q0, h1, h2⟩ := ws_at ca ad σ (t := 26) (k := kk) (by show kk < 1; omega)
  rw [en_a (n := 4) (ty := (.object "GallRegister$Row")) rfl] at h2
  refine va_aldq C.x C.b C.K hP q0 5 h2 rfl (iN_in (n := 4) hz.1 (by omega) (by omega)) d0 ?_
  have e9 : ((iN z).toNatClampNeg : Int) = z := iN_cl (n := 4) hz.1 (by omega) (by omega)
  have k9 := k9 hn p l e R s m args below meth c D ca ad A cells slots C H locs la hP hS hl
  rw [← e9] at k9
  exact k9
theorem V_aald_29 {k z : Int} (d0 : decode cc pc = .ok (.aaload, 1)) (hk : 0 ≤ k ∧ k < 1) (hz : 0 ≤ z ∧ z < 21) (k9 : V yy cc nL ret d Q (pc + 1) ls (vR 30 (z) :: st) σ) : V yy cc nL ret d Q pc ls (vI z :: vR 29 k :: st) σ := by
  intro hn p l e R s m args below meth c D ca ad A cells slots C H locs la hP hS hl
  obtain ⟨kk, rfl⟩ := Int.eq_ofNat_of_zero_le hk.1
  obtain ⟨q0, h1, h2⟩ := ws_at ca ad σ (t := 29) (k := kk) (by show kk < 1; omega)
  rw [en_a (n := 21) (ty := (.array .int)) rfl] at h2
  refine wa_aldr C.x C.b C.K hP q0 6 rfl h2 rfl (iN_in (n := 21) hz.1 (by omega) (by omega)) d0 ?_
  have e9 : ((iN z).toNatClampNeg : Int) = z := iN_cl (n := 21) hz.1 (by omega) (by omega)
  have k9 := k9 hn p l e R s m args below meth c D ca ad A cells slots C H locs la hP hS hl
  rw [← e9] at k9
  exact k9
theorem V_geti {t idx N : Nat} {j k v : Int} {dsc : String} {fin : Bool} (d0 : decode cc pc = .ok (.getfield idx, 3)) (hf : GF yy.cls idx t j fI dsc fin N) (hk : 0 ≤ k ∧ k < N) (hv : σ t k j = v) (k9 : V yy cc nL ret d Q (pc + 3) ls (vI v :: st) σ) : V yy cc nL ret d Q pc ls (vR t k :: st) σ := by
  subst hv
  intro hn p l e R s m args below meth c D ca ad A cells slots C H locs la hP hS hl
  obtain ⟨ci, jn, fs, ⟨CC, TT, NN, ty0, f1, f2, f3, f4, f5, f6, f7, f8⟩, rfl, hs, hj, hN⟩ := hf
  obtain ⟨kk, rfl⟩ := Int.eq_ofNat_of_zero_le hk.1
  obtain ⟨q0, h1, h2⟩ := ws_at ca ad σ (t := t) (k := kk) (by rw [hN]; omega)
  rw [en_o hs] at h2
  refine va_get C.x C.b C.ts f3 C.own C.K hP q0 h2 f1 jn f2 (C.ts _ f4) (fun x hx => hx) (v := .int (iN (σ t kk jn))) (by rw [fvs_get, hj, Nat.zero_add]; rfl) d0 ?_
  exact k9 hn p l e R s m args below meth c D ca ad A cells slots C H locs la hP hS hl
theorem V_getj {t idx N : Nat} {j k v : Int} {dsc : String} {fin : Bool} (d0 : decode cc pc = .ok (.getfield idx, 3)) (hf : GF yy.cls idx t j fL dsc fin N) (hk : 0 ≤ k ∧ k < N) (hv : σ t k j = v) (k9 : V yy cc nL ret d Q (pc + 3) ls (vL v :: st) σ) : V yy cc nL ret d Q pc ls (vR t k :: st) σ := by
  subst hv
  intro hn p l e R s m args below meth c D ca ad A cells slots C H locs la hP hS hl
  obtain ⟨ci, jn, fs, ⟨CC, TT, NN, ty0, f1, f2, f3, f4, f5, f6, f7, f8⟩, rfl, hs, hj, hN⟩ := hf
  obtain ⟨kk, rfl⟩ := Int.eq_ofNat_of_zero_le hk.1
  obtain ⟨q0, h1, h2⟩ := ws_at ca ad σ (t := t) (k := kk) (by rw [hN]; omega)
  rw [en_o hs] at h2
  refine va_get C.x C.b C.ts f3 C.own C.K hP q0 h2 f1 jn f2 (C.ts _ f4) (fun x hx => hx) (v := .long (lI (σ t kk jn))) (by rw [fvs_get, hj, Nat.zero_add]; rfl) d0 ?_
  exact k9 hn p l e R s m args below meth c D ca ad A cells slots C H locs la hP hS hl
theorem V_getg {t idx N : Nat} {j k : Int} {g : Int → Nat × Int} {dsc : String} {fin : Bool} (d0 : decode cc pc = .ok (.getfield idx, 3)) (hf : GF yy.cls idx t j (.inr g) dsc fin N) (hk : 0 ≤ k ∧ k < N) (k9 : V yy cc nL ret d Q (pc + 3) ls (vR (g k).1 (g k).2 :: st) σ) : V yy cc nL ret d Q pc ls (vR t k :: st) σ := by
  intro hn p l e R s m args below meth c D ca ad A cells slots C H locs la hP hS hl
  obtain ⟨ci, jn, fs, ⟨CC, TT, NN, ty0, f1, f2, f3, f4, f5, f6, f7, f8⟩, rfl, hs, hj, hN⟩ := hf
  obtain ⟨kk, rfl⟩ := Int.eq_ofNat_of_zero_le hk.1
  obtain ⟨q0, h1, h2⟩ := ws_at ca ad σ (t := t) (k := kk) (by rw [hN]; omega)
  rw [en_o hs] at h2
  refine va_get C.x C.b C.ts f3 C.own C.K hP q0 h2 f1 jn f2 (C.ts _ f4) (fun x hx => hx) (v := .ref (ad (g kk).1 (g kk).2.toNat)) (by rw [fvs_get, hj]; rfl) d0 ?_
  exact k9 hn p l e R s m args below meth c D ca ad A cells slots C H locs la hP hS hl
theorem V_gets {t t2 idx N : Nat} {j k : Int} {dsc : String} {fin : Bool} (d0 : decode cc pc = .ok (.getfield idx, 3)) (hf : GF yy.cls idx t j (fS t2) dsc fin N) (hk : 0 ≤ k ∧ k < N) (k9 : V yy cc nL ret d Q (pc + 3) ls (vR t2 k :: st) σ) : V yy cc nL ret d Q pc ls (vR t k :: st) σ := V_getg d0 hf hk k9
theorem V_getc {t t2 idx N : Nat} {j k k2 : Int} {dsc : String} {fin : Bool} (d0 : decode cc pc = .ok (.getfield idx, 3)) (hf : GF yy.cls idx t j (fC t2 k2) dsc fin N) (hk : 0 ≤ k ∧ k < N) (k9 : V yy cc nL ret d Q (pc + 3) ls (vR t2 k2 :: st) σ) : V yy cc nL ret d Q pc ls (vR t k :: st) σ := V_getg d0 hf hk k9
theorem V_puti {t idx N : Nat} {j k v : Int} (d0 : decode cc pc = .ok (.putfield idx, 3)) (hf : GF yy.cls idx t j fI "I" false N) (hk : 0 ≤ k ∧ k < N)  (k9 : V yy cc nL ret d Q (pc + 3) ls st (setI σ t k j v)) : V yy cc nL ret d Q pc ls (vI v :: vR t k :: st) σ := by
  intro hn p l e R s m args below meth c D ca ad A cells slots C H locs la hP hS hl
  obtain ⟨ci, jn, fs, ⟨CC, TT, NN, ty0, f1, f2, f3, f4, f5, f6, f7, f8⟩, rfl, hs, hj, hN⟩ := hf
  obtain ⟨kk, rfl⟩ := Int.eq_ofNat_of_zero_le hk.1
  have hkc : kk < cnt t := by rw [hN]; omega
  obtain ⟨q0, h1, h2⟩ := ws_at ca ad σ (t := t) (k := kk) hkc
  rw [en_o hs] at h2
  have ht92 : (92 : Nat) ≠ t := by have := cnt_lt hkc; omega
  have e9 : (setI σ t kk jn v) 92 = σ 92 := setI_tag ht92
  have k9 := k9 hn p l e R s m args below meth c D ca ad A cells slots (by rw [e9]; exact C)
  rw [e9] at k9
  have hpf : parseFieldDescriptor (TT jn).2.2.1 = some .int := by rw [f7]; rfl
  refine va_put C.x C.b C.ts f3 ty0 f5 f6 C.own C.K hP (C.dw.D σ) hS q0 h2 f1 jn f2 (C.ts _ f4) (fun x hx => hx) f8 (ty := .int) (v := .int (iN v)) hpf rfl rfl (by rw [fvs_len]; exact (List.getElem?_eq_some_iff.mp hj).1) d0 (fun H1 locs1 hP1 hD1 hS1 => ?_)
  exact k9 H1 locs1 la (by rw [← ws_fldI h1 hs hj]; exact hP1) hS1 hl
theorem V_putz {t idx N : Nat} {j k v : Int} (d0 : decode cc pc = .ok (.putfield idx, 3)) (hf : GF yy.cls idx t j fI "Z" false N) (hk : 0 ≤ k ∧ k < N) (hv : v = 0 ∨ v = 1) (k9 : V yy cc nL ret d Q (pc + 3) ls st (setI σ t k j v)) : V yy cc nL ret d Q pc ls (vI v :: vR t k :: st) σ := by
  intro hn p l e R s m args below meth c D ca ad A cells slots C H locs la hP hS hl
  obtain ⟨ci, jn, fs, ⟨CC, TT, NN, ty0, f1, f2, f3, f4, f5, f6, f7, f8⟩, rfl, hs, hj, hN⟩ := hf
  obtain ⟨kk, rfl⟩ := Int.eq_ofNat_of_zero_le hk.1
  have hkc : kk < cnt t := by rw [hN]; omega
  obtain ⟨q0, h1, h2⟩ := ws_at ca ad σ (t := t) (k := kk) hkc
  rw [en_o hs] at h2
  have ht92 : (92 : Nat) ≠ t := by have := cnt_lt hkc; omega
  have e9 : (setI σ t kk jn v) 92 = σ 92 := setI_tag ht92
  have k9 := k9 hn p l e R s m args below meth c D ca ad A cells slots (by rw [e9]; exact C)
  rw [e9] at k9
  have hpf : parseFieldDescriptor (TT jn).2.2.1 = some .boolean := by rw [f7]; rfl
  refine va_put C.x C.b C.ts f3 ty0 f5 f6 C.own C.K hP (C.dw.D σ) hS q0 h2 f1 jn f2 (C.ts _ f4) (fun x hx => hx) f8 (ty := .boolean) (v := .int (iN v)) hpf (by rcases hv with rfl | rfl <;> rfl) (by rcases hv with rfl | rfl <;> rfl) (by rw [fvs_len]; exact (List.getElem?_eq_some_iff.mp hj).1) d0 (fun H1 locs1 hP1 hD1 hS1 => ?_)
  exact k9 H1 locs1 la (by rw [← ws_fldI h1 hs hj]; exact hP1) hS1 hl
theorem V_putj {t idx N : Nat} {j k v : Int} (d0 : decode cc pc = .ok (.putfield idx, 3)) (hf : GF yy.cls idx t j fL "J" false N) (hk : 0 ≤ k ∧ k < N)  (k9 : V yy cc nL ret d Q (pc + 3) ls st (setI σ t k j v)) : V yy cc nL ret d Q pc ls (vL v :: vR t k :: st) σ := by
  intro hn p l e R s m args below meth c D ca ad A cells slots C H locs la hP hS hl
  obtain ⟨ci, jn, fs, ⟨CC, TT, NN, ty0, f1, f2, f3, f4, f5, f6, f7, f8⟩, rfl, hs, hj, hN⟩ := hf
  obtain ⟨kk, rfl⟩ := Int.eq_ofNat_of_zero_le hk.1
  have hkc : kk < cnt t := by rw [hN]; omega
  obtain ⟨q0, h1, h2⟩ := ws_at ca ad σ (t := t) (k := kk) hkc
  rw [en_o hs] at h2
  have ht92 : (92 : Nat) ≠ t := by have := cnt_lt hkc; omega
  have e9 : (setI σ t kk jn v) 92 = σ 92 := setI_tag ht92
  have k9 := k9 hn p l e R s m args below meth c D ca ad A cells slots (by rw [e9]; exact C)
  rw [e9] at k9
  have hpf : parseFieldDescriptor (TT jn).2.2.1 = some .long := by rw [f7]; rfl
  refine va_put C.x C.b C.ts f3 ty0 f5 f6 C.own C.K hP (C.dw.D σ) hS q0 h2 f1 jn f2 (C.ts _ f4) (fun x hx => hx) f8 (ty := .long) (v := .long (lI v)) hpf rfl rfl (by rw [fvs_len]; exact (List.getElem?_eq_some_iff.mp hj).1) d0 (fun H1 locs1 hP1 hD1 hS1 => ?_)
  exact k9 H1 locs1 la (by rw [← ws_fldJ h1 hs hj]; exact hP1) hS1 hl
theorem V_iret {x : Int} (d0 : decode cc pc = .ok (.ireturn, 1)) (hr : ∃ ty, ret = some ty ∧ narrow ty (.int (iN x)) = .int (iN x)) (hq : Q (some (vI x)) σ) : V yy cc nL ret d Q pc ls [vI x] σ := by
  intro hn p l e R s m args below meth c D ca ad A cells slots C H locs la hP hS hl
  obtain ⟨ty, rfl, hnr⟩ := hr
  exact W.zret C.x C.b C.rt hnr (fun t ht hW => ⟨⟨some (vI x), σ, rfl, hq, rfl, by rw [ht]; exact hP⟩, hS.F ht⟩) hS.2.2 d0 C.lk
theorem V_iretI {x : Int} (d0 : decode cc pc = .ok (.ireturn, 1)) (hr : ret = some .int) (hq : Q (some (vI x)) σ) : V yy cc nL ret d Q pc ls [vI x] σ := V_iret d0 ⟨_, hr, rfl⟩ hq
theorem V_iretZ {x : Int} (d0 : decode cc pc = .ok (.ireturn, 1)) (hr : ret = some .boolean) (hx : x = 0 ∨ x = 1) (hq : Q (some (vI x)) σ) : V yy cc nL ret d Q pc ls [vI x] σ := V_iret d0 ⟨_, hr, by rcases hx with rfl | rfl <;> rfl⟩ hq
theorem V_lret {x : Int} (d0 : decode cc pc = .ok (.lreturn, 1)) (hr : ret = some .long) (hq : Q (some (vL x)) σ) : V yy cc nL ret d Q pc ls [vL x] σ := by
  intro hn p l e R s m args below meth c D ca ad A cells slots C H locs la hP hS hl
  subst hr
  exact W.lret C.x C.b C.rt (fun t ht hW => ⟨⟨some (vL x), σ, rfl, hq, rfl, by rw [ht]; exact hP⟩, hS.F ht⟩) hS.2.2 d0 C.lk
theorem V_vret (d0 : decode cc pc = .ok (.return_, 1)) (hr : ret = none) (hq : Q none σ) : V yy cc nL ret d Q pc ls [] σ := by
  intro hn p l e R s m args below meth c D ca ad A cells slots C H locs la hP hS hl
  subst hr
  exact W.vret C.x C.b C.rt (fun t ht hW => ⟨⟨none, σ, rfl, hq, rfl, by rw [ht]; exact hP⟩, hS.F ht⟩) hS.2.2 d0 C.lk
theorem cb_of {y : MethodName} {cy : ByteArray} {nY n d1 : Nat} {rY : Option FieldType} {R : Room} {s : State} {args : Array Value} {own : String} {idx : Nat} (hK : KC y cy nY rY n) (ht : ∀ w ∈ lwG, w.before args s = true) (hl : Cond.methodLink own idx y ∈ lwG) (hf : d ≤ R.frames) (hlo : 41 * d ≤ R.locals) (hd : d1 + 1 ≤ d) : CallB R s args own idx y cy nY rY (wsG y cy nY rY) (rmD d1) 0 0 n :=
  callB_of n ht (wsG_good hK.1) rfl rfl rfl (ht _ hK.2.1) (ht _ hl) ⟨hK.2.2.2.1, hK.2.2.2.2.1, hK.2.2.2.2.2.1⟩ ⟨by show d1 + 1 ≤ _; omega, by show 8 + (nY + 11) + 41 * d1 ≤ _; have := hK.2.2.2.2.2.2; omega⟩
theorem st_room {ad : ADD} {st : List AV} (h : (st.map avc).sum ≤ 8) : ((st.map (cv ad)).map fun v => v.category).sum ≤ 8 := by
  rw [List.map_map]
  have e : ((fun v : Value => v.category) ∘ cv ad) = avc := funext fun a => avc_cv ad a
  rw [e]
  exact h
theorem st_app {ad : ADD} {st : List AV} (r : Option AV) : (r.toList ++ st).map (cv ad) = (r.map (cv ad)).toList ++ st.map (cv ad) := by cases r <;> rfl
theorem V_callV {y : MethodName} {cy : ByteArray} {nY n idx d1 t N : Nat} {rY : Option FieldType} {Q1 : Option AV → MM → Prop} {as : List AV} {ls1 : List (Option AV)} {k : Int} (d0 : decode cc pc = .ok (.invokevirtual idx, 3)) (hK : KV yy.cls idx y cy nY rY n) (hR : RC t y.cls N) (hn9 : as.length = n) (hk : 0 ≤ k ∧ k < N) (hd : d1 + 1 ≤ d) (hw : (st.map avc).sum ≤ 8) (he : entL nY (vR t k :: as) = ls1) (hfit : (entA (vR t k :: as)).length ≤ nY) (hV : V y cy nY rY d1 Q1 0 ls1 [] σ) (kk : ∀ r σ', Q1 r σ' → V yy cc nL ret d Q (pc + 3) ls (r.toList ++ st) σ') : V yy cc nL ret d Q pc ls (as.reverse ++ vR t k :: st) σ := by
  intro hn p l e R s m args below meth c D ca ad A cells slots C H locs la hP hS hl
  obtain ⟨hKC, hlk, hin, hse⟩ := hK
  obtain ⟨ci, fs, q, hs, hc, hq, hN⟩ := hR
  obtain ⟨kk9, rfl⟩ := Int.eq_ofNat_of_zero_le hk.1
  have hkc : kk9 < cnt t := by rw [hN]; omega
  obtain ⟨q0, h1, h2⟩ := ws_at ca ad σ (t := t) (k := kk9) hkc
  rw [en_o hs] at h2
  have hM := met_V (y := y) (cc := cy) (nL := nY) (ret := rY) (d := d1) (Q := Q1) (as := vR t kk9 :: as) (σ := σ) l D ca ad A hKC.2.2.1 C.dw he hfit hV
  have hrec := va_recv C.K hP hc h2
  rw [hq] at hrec
  have hr := va_runV (C := y.cls) (b := ad t kk9) (As := as.map (cv ad)) (rest := st.map (cv ad)) (g := F0 m pc la ((as.reverse ++ vR t kk9 :: st).map (cv ad))) (H := H) (locs := locs) (cells := cells) (slots := slots) (e := e) (below := below) (meth := meth) (args := args) (R := R) (n := n) (mc := 0) (ms := 0) ⟨C.x, C.b, C.ml, C.own, C.ts⟩ hM ⟨cb_of hKC C.ts hlk C.fr C.lo hd, C.ts _ hin, C.ts _ hse⟩ ⟨KX.blind, hrec, fun U hU hW => ⟨rfl, C.kx hP hS hU hW⟩⟩ rfl (by rw [List.length_map]; exact hn9) hl.1 (by show List.map _ _ = _; rw [List.map_append, List.map_reverse, List.map_cons]; rfl) (lv_room (st_room hw)) d0 ⟨C.ce, C.sl⟩
  refine w_call hr hS (fun r σ' H1 locs1 hq1 hsc hP1 hS1 => ?_)
  have k9 := kk r σ' hq1 hn p l e R s m args below meth c D ca ad A cells slots (by rw [hsc]; exact C) H1 locs1 la hP1 hS1 hl
  rw [hsc, st_app] at k9
  exact k9
theorem V_callS {y : MethodName} {cy : ByteArray} {nY n idx d1 : Nat} {rY : Option FieldType} {Q1 : Option AV → MM → Prop} {as : List AV} {ls1 : List (Option AV)} (d0 : decode cc pc = .ok (.invokestatic idx, 3)) (hK : KS yy.cls idx y cy nY rY n) (hn9 : as.length = n) (hd : d1 + 1 ≤ d) (hw : (st.map avc).sum ≤ 8) (he : entL nY as = ls1) (hfit : (entA as).length ≤ nY) (hV : V y cy nY rY d1 Q1 0 ls1 [] σ) (kk : ∀ r σ', Q1 r σ' → V yy cc nL ret d Q (pc + 3) ls (r.toList ++ st) σ') : V yy cc nL ret d Q pc ls (as.reverse ++ st) σ := by
  intro hn p l e R s m args below meth c D ca ad A cells slots C H locs la hP hS hl
  obtain ⟨hKC, hlk, hst⟩ := hK
  have hM := met_V (y := y) (cc := cy) (nL := nY) (ret := rY) (d := d1) (Q := Q1) (as := as) (σ := σ) l D ca ad A hKC.2.2.1 C.dw he hfit hV
  have hr := va_runS (As := as.map (cv ad)) (rest := st.map (cv ad)) (g := F0 m pc la ((as.reverse ++ st).map (cv ad))) (H := H) (locs := locs) (cells := cells) (slots := slots) (e := e) (below := below) (meth := meth) (args := args) (R := R) (n := n) (mc := 0) (ms := 0) ⟨C.x, C.b, C.ml, C.own, C.ts⟩ hM ⟨cb_of hKC C.ts hlk C.fr C.lo hd, C.ts _ hst⟩ ⟨KX.blind, fun U hU hW => ⟨rfl, C.kx hP hS hU hW⟩⟩ rfl (by rw [List.length_map]; exact hn9) hl.1 (by show List.map _ _ = _; rw [List.map_append, List.map_reverse]) (lv_room (st_room hw)) d0 ⟨C.ce, C.sl⟩
  refine w_call hr hS (fun r σ' H1 locs1 hq1 hsc hP1 hS1 => ?_)
  have k9 := kk r σ' hq1 hn p l e R s m args below meth c D ca ad A cells slots (by rw [hsc]; exact C) H1 locs1 la hP1 hS1 hl
  rw [hsc, st_app] at k9
  exact k9
theorem V_callN {y : MethodName} {cy : ByteArray} {nY n d1 : Nat} {rY : Option FieldType} {Q1 : Option AV → MM → Prop} {as : List AV} {ls1 : List (Option AV)} (d0 : decode cc pc = .ok (.invokestatic 29, 3)) (hy : yy.cls = RX2) (hY : y = yX5_hasBit) (hK : KC y cy nY rY n) (hst : Cond.static y ∈ lwG) (hn9 : as.length = n) (hd : d1 + 1 ≤ d) (hw : (st.map avc).sum ≤ 8) (he : entL nY as = ls1) (hfit : (entA as).length ≤ nY) (hV : V y cy nY rY d1 Q1 0 ls1 [] σ) (kk : ∀ r σ', Q1 r σ' → V yy cc nL ret d Q (pc + 3) ls (r.toList ++ st) σ') : V yy cc nL ret d Q pc ls (as.reverse ++ st) σ := by
  intro hn p l e R s m args below meth c D ca ad A cells slots C H locs la hP hS hl
  subst hY
  have hM := met_V (y := yX5_hasBit) (cc := cy) (nL := nY) (ret := rY) (d := d1) (Q := Q1) (as := as) (σ := σ) l D ca ad A hK.2.2.1 C.dw he hfit hV
  have hcn : va_CN R s args yy.cls 29 yX5_hasBit "GallRegister" cy nY rY (wsG yX5_hasBit cy nY rY) (rmD d1) 0 0 n := va_cnB n C.ts (wsG_good hK.1) rfl rfl rfl (by rw [hy]; exact C.S.2) (C.ts _ hK.2.1) ⟨hK.2.2.2.1, hK.2.2.2.2.1, hK.2.2.2.2.2.1⟩ ⟨by show d1 + 1 ≤ _; have := C.fr; omega, by show 8 + (nY + 11) + 41 * d1 ≤ _; have := hK.2.2.2.2.2.2; have := C.lo; omega⟩
  have hr := va_runSN (As := as.map (cv ad)) (rest := st.map (cv ad)) (g := F0 m pc la ((as.reverse ++ st).map (cv ad))) (H := H) (locs := locs) (cells := cells) (slots := slots) (e := e) (below := below) (meth := meth) (args := args) (R := R) (n := n) (mc := 0) (ms := 0) ⟨C.x, C.b, C.ml, C.own, C.ts⟩ hM ⟨hcn, C.ts _ hst, trivial⟩ ⟨KX.blind, fun U hU hW => ⟨rfl, C.kx hP hS hU hW⟩⟩ rfl (by rw [List.length_map]; exact hn9) hl.1 (by show List.map _ _ = _; rw [List.map_append, List.map_reverse]) (lv_room (st_room hw)) d0 ⟨C.ce, C.sl⟩
  refine w_call hr hS (fun r σ' H1 locs1 hq1 hsc hP1 hS1 => ?_)
  have k9 := kk r σ' hq1 hn p l e R s m args below meth c D ca ad A cells slots (by rw [hsc]; exact C) H1 locs1 la hP1 hS1 hl
  rw [hsc, st_app] at k9
  exact k9
theorem V_callN2p {y : MethodName} {cy : ByteArray} {nY : Nat} {rY : Option FieldType} {x0 x1 : AV} {ls1 : List (Option AV)} {v : Int} (d0 : decode cc pc = .ok (.invokestatic 29, 3)) (hy : yy.cls = RX2) (hY : y = yX5_hasBit) (hK : KC y cy nY rY 2) (hst : Cond.static y ∈ lwG) (d1 : Nat) (hd : d1 + 1 ≤ d) (he : entL nY [x0, x1] = ls1) (hV : V y cy nY rY d1 (QI (fun r σ' => r = v ∧ σ' = σ)) 0 ls1 [] σ) (kk : V yy cc nL ret d Q (pc + 3) ls (vI v :: st) σ) (hw : (st.map avc).sum ≤ 8 := by exact Nat.le_of_ble_eq_true rfl) (hfit : (entA [x0, x1]).length ≤ nY := by exact Nat.le_of_ble_eq_true rfl) : V yy cc nL ret d Q pc ls (x1 :: x0 :: st) σ :=
  V_callN (as := [x0, x1]) d0 hy hY hK hst rfl hd hw he hfit hV (fun r σ' h => by obtain ⟨v, rfl, rfl, rfl⟩ := h; exact kk)
theorem V_callV0i {y : MethodName} {cy : ByteArray} {nY idx : Nat} {rY : Option FieldType} {t N : Nat} {k : Int} {ls1 : List (Option AV)} {P : Int → MM → Prop} (d0 : decode cc pc = .ok (.invokevirtual idx, 3)) (hK : KV yy.cls idx y cy nY rY 0) (hR : RC t y.cls N) (hk : 0 ≤ k ∧ k < N) (d1 : Nat) (hd : d1 + 1 ≤ d) (he : entL nY (vR t k :: []) = ls1) (hV : V y cy nY rY d1 (QI P) 0 ls1 [] σ) (kk : ∀ v σ', P v σ' → V yy cc nL ret d Q (pc + 3) ls (vI v :: st) σ') (hw : (st.map avc).sum ≤ 8 := by exact Nat.le_of_ble_eq_true rfl) (hfit : (entA (vR t k :: [])).length ≤ nY := by exact Nat.le_of_ble_eq_true rfl) : V yy cc nL ret d Q pc ls (vR t k :: st) σ :=
  V_callV (as := []) d0 hK hR rfl hk hd hw he hfit hV (fun r σ' h => by obtain ⟨v, rfl, hp⟩ := h; exact kk v σ' hp)
theorem V_callV0p {y : MethodName} {cy : ByteArray} {nY idx : Nat} {rY : Option FieldType} {t N : Nat} {k : Int} {ls1 : List (Option AV)} {v : Int} (d0 : decode cc pc = .ok (.invokevirtual idx, 3)) (hK : KV yy.cls idx y cy nY rY 0) (hR : RC t y.cls N) (hk : 0 ≤ k ∧ k < N) (d1 : Nat) (hd : d1 + 1 ≤ d) (he : entL nY (vR t k :: []) = ls1) (hV : V y cy nY rY d1 (QI (fun r σ' => r = v ∧ σ' = σ)) 0 ls1 [] σ) (kk : V yy cc nL ret d Q (pc + 3) ls (vI v :: st) σ) (hw : (st.map avc).sum ≤ 8 := by exact Nat.le_of_ble_eq_true rfl) (hfit : (entA (vR t k :: [])).length ≤ nY := by exact Nat.le_of_ble_eq_true rfl) : V yy cc nL ret d Q pc ls (vR t k :: st) σ :=
  V_callV (as := []) d0 hK hR rfl hk hd hw he hfit hV (fun r σ' h => by obtain ⟨v, rfl, rfl, rfl⟩ := h; exact kk)
theorem V_callV0j {y : MethodName} {cy : ByteArray} {nY idx : Nat} {rY : Option FieldType} {t N : Nat} {k : Int} {ls1 : List (Option AV)} {P : Int → MM → Prop} (d0 : decode cc pc = .ok (.invokevirtual idx, 3)) (hK : KV yy.cls idx y cy nY rY 0) (hR : RC t y.cls N) (hk : 0 ≤ k ∧ k < N) (d1 : Nat) (hd : d1 + 1 ≤ d) (he : entL nY (vR t k :: []) = ls1) (hV : V y cy nY rY d1 (QJ P) 0 ls1 [] σ) (kk : ∀ v σ', P v σ' → V yy cc nL ret d Q (pc + 3) ls (vL v :: st) σ') (hw : (st.map avc).sum ≤ 8 := by exact Nat.le_of_ble_eq_true rfl) (hfit : (entA (vR t k :: [])).length ≤ nY := by exact Nat.le_of_ble_eq_true rfl) : V yy cc nL ret d Q pc ls (vR t k :: st) σ :=
  V_callV (as := []) d0 hK hR rfl hk hd hw he hfit hV (fun r σ' h => by obtain ⟨v, rfl, hp⟩ := h; exact kk v σ' hp)
theorem V_callV0z {y : MethodName} {cy : ByteArray} {nY idx : Nat} {rY : Option FieldType} {t N : Nat} {k : Int} {ls1 : List (Option AV)} {P : MM → Prop} (d0 : decode cc pc = .ok (.invokevirtual idx, 3)) (hK : KV yy.cls idx y cy nY rY 0) (hR : RC t y.cls N) (hk : 0 ≤ k ∧ k < N) (d1 : Nat) (hd : d1 + 1 ≤ d) (he : entL nY (vR t k :: []) = ls1) (hV : V y cy nY rY d1 (QZ P) 0 ls1 [] σ) (kk : ∀ σ', P σ' → V yy cc nL ret d Q (pc + 3) ls st σ') (hw : (st.map avc).sum ≤ 8 := by exact Nat.le_of_ble_eq_true rfl) (hfit : (entA (vR t k :: [])).length ≤ nY := by exact Nat.le_of_ble_eq_true rfl) : V yy cc nL ret d Q pc ls (vR t k :: st) σ :=
  V_callV (as := []) d0 hK hR rfl hk hd hw he hfit hV (fun r σ' h => by obtain ⟨rfl, hp⟩ := h; exact kk σ' hp)
theorem V_callV1i {y : MethodName} {cy : ByteArray} {nY idx : Nat} {rY : Option FieldType} {t N : Nat} {k : Int} {x0 : AV} {ls1 : List (Option AV)} {P : Int → MM → Prop} (d0 : decode cc pc = .ok (.invokevirtual idx, 3)) (hK : KV yy.cls idx y cy nY rY 1) (hR : RC t y.cls N) (hk : 0 ≤ k ∧ k < N) (d1 : Nat) (hd : d1 + 1 ≤ d) (he : entL nY (vR t k :: [x0]) = ls1) (hV : V y cy nY rY d1 (QI P) 0 ls1 [] σ) (kk : ∀ v σ', P v σ' → V yy cc nL ret d Q (pc + 3) ls (vI v :: st) σ') (hw : (st.map avc).sum ≤ 8 := by exact Nat.le_of_ble_eq_true rfl) (hfit : (entA (vR t k :: [x0])).length ≤ nY := by exact Nat.le_of_ble_eq_true rfl) : V yy cc nL ret d Q pc ls (x0 :: vR t k :: st) σ :=
  V_callV (as := [x0]) d0 hK hR rfl hk hd hw he hfit hV (fun r σ' h => by obtain ⟨v, rfl, hp⟩ := h; exact kk v σ' hp)
theorem V_callV1p {y : MethodName} {cy : ByteArray} {nY idx : Nat} {rY : Option FieldType} {t N : Nat} {k : Int} {x0 : AV} {ls1 : List (Option AV)} {v : Int} (d0 : decode cc pc = .ok (.invokevirtual idx, 3)) (hK : KV yy.cls idx y cy nY rY 1) (hR : RC t y.cls N) (hk : 0 ≤ k ∧ k < N) (d1 : Nat) (hd : d1 + 1 ≤ d) (he : entL nY (vR t k :: [x0]) = ls1) (hV : V y cy nY rY d1 (QI (fun r σ' => r = v ∧ σ' = σ)) 0 ls1 [] σ) (kk : V yy cc nL ret d Q (pc + 3) ls (vI v :: st) σ) (hw : (st.map avc).sum ≤ 8 := by exact Nat.le_of_ble_eq_true rfl) (hfit : (entA (vR t k :: [x0])).length ≤ nY := by exact Nat.le_of_ble_eq_true rfl) : V yy cc nL ret d Q pc ls (x0 :: vR t k :: st) σ :=
  V_callV (as := [x0]) d0 hK hR rfl hk hd hw he hfit hV (fun r σ' h => by obtain ⟨v, rfl, rfl, rfl⟩ := h; exact kk)
theorem V_callV1j {y : MethodName} {cy : ByteArray} {nY idx : Nat} {rY : Option FieldType} {t N : Nat} {k : Int} {x0 : AV} {ls1 : List (Option AV)} {P : Int → MM → Prop} (d0 : decode cc pc = .ok (.invokevirtual idx, 3)) (hK : KV yy.cls idx y cy nY rY 1) (hR : RC t y.cls N) (hk : 0 ≤ k ∧ k < N) (d1 : Nat) (hd : d1 + 1 ≤ d) (he : entL nY (vR t k :: [x0]) = ls1) (hV : V y cy nY rY d1 (QJ P) 0 ls1 [] σ) (kk : ∀ v σ', P v σ' → V yy cc nL ret d Q (pc + 3) ls (vL v :: st) σ') (hw : (st.map avc).sum ≤ 8 := by exact Nat.le_of_ble_eq_true rfl) (hfit : (entA (vR t k :: [x0])).length ≤ nY := by exact Nat.le_of_ble_eq_true rfl) : V yy cc nL ret d Q pc ls (x0 :: vR t k :: st) σ :=
  V_callV (as := [x0]) d0 hK hR rfl hk hd hw he hfit hV (fun r σ' h => by obtain ⟨v, rfl, hp⟩ := h; exact kk v σ' hp)
theorem V_callV1z {y : MethodName} {cy : ByteArray} {nY idx : Nat} {rY : Option FieldType} {t N : Nat} {k : Int} {x0 : AV} {ls1 : List (Option AV)} {P : MM → Prop} (d0 : decode cc pc = .ok (.invokevirtual idx, 3)) (hK : KV yy.cls idx y cy nY rY 1) (hR : RC t y.cls N) (hk : 0 ≤ k ∧ k < N) (d1 : Nat) (hd : d1 + 1 ≤ d) (he : entL nY (vR t k :: [x0]) = ls1) (hV : V y cy nY rY d1 (QZ P) 0 ls1 [] σ) (kk : ∀ σ', P σ' → V yy cc nL ret d Q (pc + 3) ls st σ') (hw : (st.map avc).sum ≤ 8 := by exact Nat.le_of_ble_eq_true rfl) (hfit : (entA (vR t k :: [x0])).length ≤ nY := by exact Nat.le_of_ble_eq_true rfl) : V yy cc nL ret d Q pc ls (x0 :: vR t k :: st) σ :=
  V_callV (as := [x0]) d0 hK hR rfl hk hd hw he hfit hV (fun r σ' h => by obtain ⟨rfl, hp⟩ := h; exact kk σ' hp)
theorem V_callS1i {y : MethodName} {cy : ByteArray} {nY idx : Nat} {rY : Option FieldType} {x0 : AV} {ls1 : List (Option AV)} {P : Int → MM → Prop} (d0 : decode cc pc = .ok (.invokestatic idx, 3)) (hK : KS yy.cls idx y cy nY rY 1) (d1 : Nat) (hd : d1 + 1 ≤ d) (he : entL nY [x0] = ls1) (hV : V y cy nY rY d1 (QI P) 0 ls1 [] σ) (kk : ∀ v σ', P v σ' → V yy cc nL ret d Q (pc + 3) ls (vI v :: st) σ') (hw : (st.map avc).sum ≤ 8 := by exact Nat.le_of_ble_eq_true rfl) (hfit : (entA [x0]).length ≤ nY := by exact Nat.le_of_ble_eq_true rfl) : V yy cc nL ret d Q pc ls (x0 :: st) σ :=
  V_callS (as := [x0]) d0 hK rfl hd hw he hfit hV (fun r σ' h => by obtain ⟨v, rfl, hp⟩ := h; exact kk v σ' hp)
theorem V_callS1p {y : MethodName} {cy : ByteArray} {nY idx : Nat} {rY : Option FieldType} {x0 : AV} {ls1 : List (Option AV)} {v : Int} (d0 : decode cc pc = .ok (.invokestatic idx, 3)) (hK : KS yy.cls idx y cy nY rY 1) (d1 : Nat) (hd : d1 + 1 ≤ d) (he : entL nY [x0] = ls1) (hV : V y cy nY rY d1 (QI (fun r σ' => r = v ∧ σ' = σ)) 0 ls1 [] σ) (kk : V yy cc nL ret d Q (pc + 3) ls (vI v :: st) σ) (hw : (st.map avc).sum ≤ 8 := by exact Nat.le_of_ble_eq_true rfl) (hfit : (entA [x0]).length ≤ nY := by exact Nat.le_of_ble_eq_true rfl) : V yy cc nL ret d Q pc ls (x0 :: st) σ :=
  V_callS (as := [x0]) d0 hK rfl hd hw he hfit hV (fun r σ' h => by obtain ⟨v, rfl, rfl, rfl⟩ := h; exact kk)
theorem V_callS1j {y : MethodName} {cy : ByteArray} {nY idx : Nat} {rY : Option FieldType} {x0 : AV} {ls1 : List (Option AV)} {P : Int → MM → Prop} (d0 : decode cc pc = .ok (.invokestatic idx, 3)) (hK : KS yy.cls idx y cy nY rY 1) (d1 : Nat) (hd : d1 + 1 ≤ d) (he : entL nY [x0] = ls1) (hV : V y cy nY rY d1 (QJ P) 0 ls1 [] σ) (kk : ∀ v σ', P v σ' → V yy cc nL ret d Q (pc + 3) ls (vL v :: st) σ') (hw : (st.map avc).sum ≤ 8 := by exact Nat.le_of_ble_eq_true rfl) (hfit : (entA [x0]).length ≤ nY := by exact Nat.le_of_ble_eq_true rfl) : V yy cc nL ret d Q pc ls (x0 :: st) σ :=
  V_callS (as := [x0]) d0 hK rfl hd hw he hfit hV (fun r σ' h => by obtain ⟨v, rfl, hp⟩ := h; exact kk v σ' hp)
theorem V_callS1z {y : MethodName} {cy : ByteArray} {nY idx : Nat} {rY : Option FieldType} {x0 : AV} {ls1 : List (Option AV)} {P : MM → Prop} (d0 : decode cc pc = .ok (.invokestatic idx, 3)) (hK : KS yy.cls idx y cy nY rY 1) (d1 : Nat) (hd : d1 + 1 ≤ d) (he : entL nY [x0] = ls1) (hV : V y cy nY rY d1 (QZ P) 0 ls1 [] σ) (kk : ∀ σ', P σ' → V yy cc nL ret d Q (pc + 3) ls st σ') (hw : (st.map avc).sum ≤ 8 := by exact Nat.le_of_ble_eq_true rfl) (hfit : (entA [x0]).length ≤ nY := by exact Nat.le_of_ble_eq_true rfl) : V yy cc nL ret d Q pc ls (x0 :: st) σ :=
  V_callS (as := [x0]) d0 hK rfl hd hw he hfit hV (fun r σ' h => by obtain ⟨rfl, hp⟩ := h; exact kk σ' hp)
theorem V_callV2i {y : MethodName} {cy : ByteArray} {nY idx : Nat} {rY : Option FieldType} {t N : Nat} {k : Int} {x0 x1 : AV} {ls1 : List (Option AV)} {P : Int → MM → Prop} (d0 : decode cc pc = .ok (.invokevirtual idx, 3)) (hK : KV yy.cls idx y cy nY rY 2) (hR : RC t y.cls N) (hk : 0 ≤ k ∧ k < N) (d1 : Nat) (hd : d1 + 1 ≤ d) (he : entL nY (vR t k :: [x0, x1]) = ls1) (hV : V y cy nY rY d1 (QI P) 0 ls1 [] σ) (kk : ∀ v σ', P v σ' → V yy cc nL ret d Q (pc + 3) ls (vI v :: st) σ') (hw : (st.map avc).sum ≤ 8 := by exact Nat.le_of_ble_eq_true rfl) (hfit : (entA (vR t k :: [x0, x1])).length ≤ nY := by exact Nat.le_of_ble_eq_true rfl) : V yy cc nL ret d Q pc ls (x1 :: x0 :: vR t k :: st) σ :=
  V_callV (as := [x0, x1]) d0 hK hR rfl hk hd hw he hfit hV (fun r σ' h => by obtain ⟨v, rfl, hp⟩ := h; exact kk v σ' hp)
theorem V_callV2p {y : MethodName} {cy : ByteArray} {nY idx : Nat} {rY : Option FieldType} {t N : Nat} {k : Int} {x0 x1 : AV} {ls1 : List (Option AV)} {v : Int} (d0 : decode cc pc = .ok (.invokevirtual idx, 3)) (hK : KV yy.cls idx y cy nY rY 2) (hR : RC t y.cls N) (hk : 0 ≤ k ∧ k < N) (d1 : Nat) (hd : d1 + 1 ≤ d) (he : entL nY (vR t k :: [x0, x1]) = ls1) (hV : V y cy nY rY d1 (QI (fun r σ' => r = v ∧ σ' = σ)) 0 ls1 [] σ) (kk : V yy cc nL ret d Q (pc + 3) ls (vI v :: st) σ) (hw : (st.map avc).sum ≤ 8 := by exact Nat.le_of_ble_eq_true rfl) (hfit : (entA (vR t k :: [x0, x1])).length ≤ nY := by exact Nat.le_of_ble_eq_true rfl) : V yy cc nL ret d Q pc ls (x1 :: x0 :: vR t k :: st) σ :=
  V_callV (as := [x0, x1]) d0 hK hR rfl hk hd hw he hfit hV (fun r σ' h => by obtain ⟨v, rfl, rfl, rfl⟩ := h; exact kk)
theorem V_callV2j {y : MethodName} {cy : ByteArray} {nY idx : Nat} {rY : Option FieldType} {t N : Nat} {k : Int} {x0 x1 : AV} {ls1 : List (Option AV)} {P : Int → MM → Prop} (d0 : decode cc pc = .ok (.invokevirtual idx, 3)) (hK : KV yy.cls idx y cy nY rY 2) (hR : RC t y.cls N) (hk : 0 ≤ k ∧ k < N) (d1 : Nat) (hd : d1 + 1 ≤ d) (he : entL nY (vR t k :: [x0, x1]) = ls1) (hV : V y cy nY rY d1 (QJ P) 0 ls1 [] σ) (kk : ∀ v σ', P v σ' → V yy cc nL ret d Q (pc + 3) ls (vL v :: st) σ') (hw : (st.map avc).sum ≤ 8 := by exact Nat.le_of_ble_eq_true rfl) (hfit : (entA (vR t k :: [x0, x1])).length ≤ nY := by exact Nat.le_of_ble_eq_true rfl) : V yy cc nL ret d Q pc ls (x1 :: x0 :: vR t k :: st) σ :=
  V_callV (as := [x0, x1]) d0 hK hR rfl hk hd hw he hfit hV (fun r σ' h => by obtain ⟨v, rfl, hp⟩ := h; exact kk v σ' hp)
theorem V_callV2z {y : MethodName} {cy : ByteArray} {nY idx : Nat} {rY : Option FieldType} {t N : Nat} {k : Int} {x0 x1 : AV} {ls1 : List (Option AV)} {P : MM → Prop} (d0 : decode cc pc = .ok (.invokevirtual idx, 3)) (hK : KV yy.cls idx y cy nY rY 2) (hR : RC t y.cls N) (hk : 0 ≤ k ∧ k < N) (d1 : Nat) (hd : d1 + 1 ≤ d) (he : entL nY (vR t k :: [x0, x1]) = ls1) (hV : V y cy nY rY d1 (QZ P) 0 ls1 [] σ) (kk : ∀ σ', P σ' → V yy cc nL ret d Q (pc + 3) ls st σ') (hw : (st.map avc).sum ≤ 8 := by exact Nat.le_of_ble_eq_true rfl) (hfit : (entA (vR t k :: [x0, x1])).length ≤ nY := by exact Nat.le_of_ble_eq_true rfl) : V yy cc nL ret d Q pc ls (x1 :: x0 :: vR t k :: st) σ :=
  V_callV (as := [x0, x1]) d0 hK hR rfl hk hd hw he hfit hV (fun r σ' h => by obtain ⟨rfl, hp⟩ := h; exact kk σ' hp)
theorem V_callS2i {y : MethodName} {cy : ByteArray} {nY idx : Nat} {rY : Option FieldType} {x0 x1 : AV} {ls1 : List (Option AV)} {P : Int → MM → Prop} (d0 : decode cc pc = .ok (.invokestatic idx, 3)) (hK : KS yy.cls idx y cy nY rY 2) (d1 : Nat) (hd : d1 + 1 ≤ d) (he : entL nY [x0, x1] = ls1) (hV : V y cy nY rY d1 (QI P) 0 ls1 [] σ) (kk : ∀ v σ', P v σ' → V yy cc nL ret d Q (pc + 3) ls (vI v :: st) σ') (hw : (st.map avc).sum ≤ 8 := by exact Nat.le_of_ble_eq_true rfl) (hfit : (entA [x0, x1]).length ≤ nY := by exact Nat.le_of_ble_eq_true rfl) : V yy cc nL ret d Q pc ls (x1 :: x0 :: st) σ :=
  V_callS (as := [x0, x1]) d0 hK rfl hd hw he hfit hV (fun r σ' h => by obtain ⟨v, rfl, hp⟩ := h; exact kk v σ' hp)
theorem V_callS2p {y : MethodName} {cy : ByteArray} {nY idx : Nat} {rY : Option FieldType} {x0 x1 : AV} {ls1 : List (Option AV)} {v : Int} (d0 : decode cc pc = .ok (.invokestatic idx, 3)) (hK : KS yy.cls idx y cy nY rY 2) (d1 : Nat) (hd : d1 + 1 ≤ d) (he : entL nY [x0, x1] = ls1) (hV : V y cy nY rY d1 (QI (fun r σ' => r = v ∧ σ' = σ)) 0 ls1 [] σ) (kk : V yy cc nL ret d Q (pc + 3) ls (vI v :: st) σ) (hw : (st.map avc).sum ≤ 8 := by exact Nat.le_of_ble_eq_true rfl) (hfit : (entA [x0, x1]).length ≤ nY := by exact Nat.le_of_ble_eq_true rfl) : V yy cc nL ret d Q pc ls (x1 :: x0 :: st) σ :=
  V_callS (as := [x0, x1]) d0 hK rfl hd hw he hfit hV (fun r σ' h => by obtain ⟨v, rfl, rfl, rfl⟩ := h; exact kk)
theorem V_callS2j {y : MethodName} {cy : ByteArray} {nY idx : Nat} {rY : Option FieldType} {x0 x1 : AV} {ls1 : List (Option AV)} {P : Int → MM → Prop} (d0 : decode cc pc = .ok (.invokestatic idx, 3)) (hK : KS yy.cls idx y cy nY rY 2) (d1 : Nat) (hd : d1 + 1 ≤ d) (he : entL nY [x0, x1] = ls1) (hV : V y cy nY rY d1 (QJ P) 0 ls1 [] σ) (kk : ∀ v σ', P v σ' → V yy cc nL ret d Q (pc + 3) ls (vL v :: st) σ') (hw : (st.map avc).sum ≤ 8 := by exact Nat.le_of_ble_eq_true rfl) (hfit : (entA [x0, x1]).length ≤ nY := by exact Nat.le_of_ble_eq_true rfl) : V yy cc nL ret d Q pc ls (x1 :: x0 :: st) σ :=
  V_callS (as := [x0, x1]) d0 hK rfl hd hw he hfit hV (fun r σ' h => by obtain ⟨v, rfl, hp⟩ := h; exact kk v σ' hp)
theorem V_callS2z {y : MethodName} {cy : ByteArray} {nY idx : Nat} {rY : Option FieldType} {x0 x1 : AV} {ls1 : List (Option AV)} {P : MM → Prop} (d0 : decode cc pc = .ok (.invokestatic idx, 3)) (hK : KS yy.cls idx y cy nY rY 2) (d1 : Nat) (hd : d1 + 1 ≤ d) (he : entL nY [x0, x1] = ls1) (hV : V y cy nY rY d1 (QZ P) 0 ls1 [] σ) (kk : ∀ σ', P σ' → V yy cc nL ret d Q (pc + 3) ls st σ') (hw : (st.map avc).sum ≤ 8 := by exact Nat.le_of_ble_eq_true rfl) (hfit : (entA [x0, x1]).length ≤ nY := by exact Nat.le_of_ble_eq_true rfl) : V yy cc nL ret d Q pc ls (x1 :: x0 :: st) σ :=
  V_callS (as := [x0, x1]) d0 hK rfl hd hw he hfit hV (fun r σ' h => by obtain ⟨rfl, hp⟩ := h; exact kk σ' hp)
theorem V_callV3i {y : MethodName} {cy : ByteArray} {nY idx : Nat} {rY : Option FieldType} {t N : Nat} {k : Int} {x0 x1 x2 : AV} {ls1 : List (Option AV)} {P : Int → MM → Prop} (d0 : decode cc pc = .ok (.invokevirtual idx, 3)) (hK : KV yy.cls idx y cy nY rY 3) (hR : RC t y.cls N) (hk : 0 ≤ k ∧ k < N) (d1 : Nat) (hd : d1 + 1 ≤ d) (he : entL nY (vR t k :: [x0, x1, x2]) = ls1) (hV : V y cy nY rY d1 (QI P) 0 ls1 [] σ) (kk : ∀ v σ', P v σ' → V yy cc nL ret d Q (pc + 3) ls (vI v :: st) σ') (hw : (st.map avc).sum ≤ 8 := by exact Nat.le_of_ble_eq_true rfl) (hfit : (entA (vR t k :: [x0, x1, x2])).length ≤ nY := by exact Nat.le_of_ble_eq_true rfl) : V yy cc nL ret d Q pc ls (x2 :: x1 :: x0 :: vR t k :: st) σ :=
  V_callV (as := [x0, x1, x2]) d0 hK hR rfl hk hd hw he hfit hV (fun r σ' h => by obtain ⟨v, rfl, hp⟩ := h; exact kk v σ' hp)
theorem V_callV3p {y : MethodName} {cy : ByteArray} {nY idx : Nat} {rY : Option FieldType} {t N : Nat} {k : Int} {x0 x1 x2 : AV} {ls1 : List (Option AV)} {v : Int} (d0 : decode cc pc = .ok (.invokevirtual idx, 3)) (hK : KV yy.cls idx y cy nY rY 3) (hR : RC t y.cls N) (hk : 0 ≤ k ∧ k < N) (d1 : Nat) (hd : d1 + 1 ≤ d) (he : entL nY (vR t k :: [x0, x1, x2]) = ls1) (hV : V y cy nY rY d1 (QI (fun r σ' => r = v ∧ σ' = σ)) 0 ls1 [] σ) (kk : V yy cc nL ret d Q (pc + 3) ls (vI v :: st) σ) (hw : (st.map avc).sum ≤ 8 := by exact Nat.le_of_ble_eq_true rfl) (hfit : (entA (vR t k :: [x0, x1, x2])).length ≤ nY := by exact Nat.le_of_ble_eq_true rfl) : V yy cc nL ret d Q pc ls (x2 :: x1 :: x0 :: vR t k :: st) σ :=
  V_callV (as := [x0, x1, x2]) d0 hK hR rfl hk hd hw he hfit hV (fun r σ' h => by obtain ⟨v, rfl, rfl, rfl⟩ := h; exact kk)
theorem V_callV3j {y : MethodName} {cy : ByteArray} {nY idx : Nat} {rY : Option FieldType} {t N : Nat} {k : Int} {x0 x1 x2 : AV} {ls1 : List (Option AV)} {P : Int → MM → Prop} (d0 : decode cc pc = .ok (.invokevirtual idx, 3)) (hK : KV yy.cls idx y cy nY rY 3) (hR : RC t y.cls N) (hk : 0 ≤ k ∧ k < N) (d1 : Nat) (hd : d1 + 1 ≤ d) (he : entL nY (vR t k :: [x0, x1, x2]) = ls1) (hV : V y cy nY rY d1 (QJ P) 0 ls1 [] σ) (kk : ∀ v σ', P v σ' → V yy cc nL ret d Q (pc + 3) ls (vL v :: st) σ') (hw : (st.map avc).sum ≤ 8 := by exact Nat.le_of_ble_eq_true rfl) (hfit : (entA (vR t k :: [x0, x1, x2])).length ≤ nY := by exact Nat.le_of_ble_eq_true rfl) : V yy cc nL ret d Q pc ls (x2 :: x1 :: x0 :: vR t k :: st) σ :=
  V_callV (as := [x0, x1, x2]) d0 hK hR rfl hk hd hw he hfit hV (fun r σ' h => by obtain ⟨v, rfl, hp⟩ := h; exact kk v σ' hp)
theorem V_callV3z {y : MethodName} {cy : ByteArray} {nY idx : Nat} {rY : Option FieldType} {t N : Nat} {k : Int} {x0 x1 x2 : AV} {ls1 : List (Option AV)} {P : MM → Prop} (d0 : decode cc pc = .ok (.invokevirtual idx, 3)) (hK : KV yy.cls idx y cy nY rY 3) (hR : RC t y.cls N) (hk : 0 ≤ k ∧ k < N) (d1 : Nat) (hd : d1 + 1 ≤ d) (he : entL nY (vR t k :: [x0, x1, x2]) = ls1) (hV : V y cy nY rY d1 (QZ P) 0 ls1 [] σ) (kk : ∀ σ', P σ' → V yy cc nL ret d Q (pc + 3) ls st σ') (hw : (st.map avc).sum ≤ 8 := by exact Nat.le_of_ble_eq_true rfl) (hfit : (entA (vR t k :: [x0, x1, x2])).length ≤ nY := by exact Nat.le_of_ble_eq_true rfl) : V yy cc nL ret d Q pc ls (x2 :: x1 :: x0 :: vR t k :: st) σ :=
  V_callV (as := [x0, x1, x2]) d0 hK hR rfl hk hd hw he hfit hV (fun r σ' h => by obtain ⟨rfl, hp⟩ := h; exact kk σ' hp)
theorem V_callS3i {y : MethodName} {cy : ByteArray} {nY idx : Nat} {rY : Option FieldType} {x0 x1 x2 : AV} {ls1 : List (Option AV)} {P : Int → MM → Prop} (d0 : decode cc pc = .ok (.invokestatic idx, 3)) (hK : KS yy.cls idx y cy nY rY 3) (d1 : Nat) (hd : d1 + 1 ≤ d) (he : entL nY [x0, x1, x2] = ls1) (hV : V y cy nY rY d1 (QI P) 0 ls1 [] σ) (kk : ∀ v σ', P v σ' → V yy cc nL ret d Q (pc + 3) ls (vI v :: st) σ') (hw : (st.map avc).sum ≤ 8 := by exact Nat.le_of_ble_eq_true rfl) (hfit : (entA [x0, x1, x2]).length ≤ nY := by exact Nat.le_of_ble_eq_true rfl) : V yy cc nL ret d Q pc ls (x2 :: x1 :: x0 :: st) σ :=
  V_callS (as := [x0, x1, x2]) d0 hK rfl hd hw he hfit hV (fun r σ' h => by obtain ⟨v, rfl, hp⟩ := h; exact kk v σ' hp)
theorem V_callS3p {y : MethodName} {cy : ByteArray} {nY idx : Nat} {rY : Option FieldType} {x0 x1 x2 : AV} {ls1 : List (Option AV)} {v : Int} (d0 : decode cc pc = .ok (.invokestatic idx, 3)) (hK : KS yy.cls idx y cy nY rY 3) (d1 : Nat) (hd : d1 + 1 ≤ d) (he : entL nY [x0, x1, x2] = ls1) (hV : V y cy nY rY d1 (QI (fun r σ' => r = v ∧ σ' = σ)) 0 ls1 [] σ) (kk : V yy cc nL ret d Q (pc + 3) ls (vI v :: st) σ) (hw : (st.map avc).sum ≤ 8 := by exact Nat.le_of_ble_eq_true rfl) (hfit : (entA [x0, x1, x2]).length ≤ nY := by exact Nat.le_of_ble_eq_true rfl) : V yy cc nL ret d Q pc ls (x2 :: x1 :: x0 :: st) σ :=
  V_callS (as := [x0, x1, x2]) d0 hK rfl hd hw he hfit hV (fun r σ' h => by obtain ⟨v, rfl, rfl, rfl⟩ := h; exact kk)
theorem V_callS3j {y : MethodName} {cy : ByteArray} {nY idx : Nat} {rY : Option FieldType} {x0 x1 x2 : AV} {ls1 : List (Option AV)} {P : Int → MM → Prop} (d0 : decode cc pc = .ok (.invokestatic idx, 3)) (hK : KS yy.cls idx y cy nY rY 3) (d1 : Nat) (hd : d1 + 1 ≤ d) (he : entL nY [x0, x1, x2] = ls1) (hV : V y cy nY rY d1 (QJ P) 0 ls1 [] σ) (kk : ∀ v σ', P v σ' → V yy cc nL ret d Q (pc + 3) ls (vL v :: st) σ') (hw : (st.map avc).sum ≤ 8 := by exact Nat.le_of_ble_eq_true rfl) (hfit : (entA [x0, x1, x2]).length ≤ nY := by exact Nat.le_of_ble_eq_true rfl) : V yy cc nL ret d Q pc ls (x2 :: x1 :: x0 :: st) σ :=
  V_callS (as := [x0, x1, x2]) d0 hK rfl hd hw he hfit hV (fun r σ' h => by obtain ⟨v, rfl, hp⟩ := h; exact kk v σ' hp)
theorem V_callS3z {y : MethodName} {cy : ByteArray} {nY idx : Nat} {rY : Option FieldType} {x0 x1 x2 : AV} {ls1 : List (Option AV)} {P : MM → Prop} (d0 : decode cc pc = .ok (.invokestatic idx, 3)) (hK : KS yy.cls idx y cy nY rY 3) (d1 : Nat) (hd : d1 + 1 ≤ d) (he : entL nY [x0, x1, x2] = ls1) (hV : V y cy nY rY d1 (QZ P) 0 ls1 [] σ) (kk : ∀ σ', P σ' → V yy cc nL ret d Q (pc + 3) ls st σ') (hw : (st.map avc).sum ≤ 8 := by exact Nat.le_of_ble_eq_true rfl) (hfit : (entA [x0, x1, x2]).length ≤ nY := by exact Nat.le_of_ble_eq_true rfl) : V yy cc nL ret d Q pc ls (x2 :: x1 :: x0 :: st) σ :=
  V_callS (as := [x0, x1, x2]) d0 hK rfl hd hw he hfit hV (fun r σ' h => by obtain ⟨rfl, hp⟩ := h; exact kk σ' hp)
theorem V_callV4i {y : MethodName} {cy : ByteArray} {nY idx : Nat} {rY : Option FieldType} {t N : Nat} {k : Int} {x0 x1 x2 x3 : AV} {ls1 : List (Option AV)} {P : Int → MM → Prop} (d0 : decode cc pc = .ok (.invokevirtual idx, 3)) (hK : KV yy.cls idx y cy nY rY 4) (hR : RC t y.cls N) (hk : 0 ≤ k ∧ k < N) (d1 : Nat) (hd : d1 + 1 ≤ d) (he : entL nY (vR t k :: [x0, x1, x2, x3]) = ls1) (hV : V y cy nY rY d1 (QI P) 0 ls1 [] σ) (kk : ∀ v σ', P v σ' → V yy cc nL ret d Q (pc + 3) ls (vI v :: st) σ') (hw : (st.map avc).sum ≤ 8 := by exact Nat.le_of_ble_eq_true rfl) (hfit : (entA (vR t k :: [x0, x1, x2, x3])).length ≤ nY := by exact Nat.le_of_ble_eq_true rfl) : V yy cc nL ret d Q pc ls (x3 :: x2 :: x1 :: x0 :: vR t k :: st) σ :=
  V_callV (as := [x0, x1, x2, x3]) d0 hK hR rfl hk hd hw he hfit hV (fun r σ' h => by obtain ⟨v, rfl, hp⟩ := h; exact kk v σ' hp)
theorem V_callV4p {y : MethodName} {cy : ByteArray} {nY idx : Nat} {rY : Option FieldType} {t N : Nat} {k : Int} {x0 x1 x2 x3 : AV} {ls1 : List (Option AV)} {v : Int} (d0 : decode cc pc = .ok (.invokevirtual idx, 3)) (hK : KV yy.cls idx y cy nY rY 4) (hR : RC t y.cls N) (hk : 0 ≤ k ∧ k < N) (d1 : Nat) (hd : d1 + 1 ≤ d) (he : entL nY (vR t k :: [x0, x1, x2, x3]) = ls1) (hV : V y cy nY rY d1 (QI (fun r σ' => r = v ∧ σ' = σ)) 0 ls1 [] σ) (kk : V yy cc nL ret d Q (pc + 3) ls (vI v :: st) σ) (hw : (st.map avc).sum ≤ 8 := by exact Nat.le_of_ble_eq_true rfl) (hfit : (entA (vR t k :: [x0, x1, x2, x3])).length ≤ nY := by exact Nat.le_of_ble_eq_true rfl) : V yy cc nL ret d Q pc ls (x3 :: x2 :: x1 :: x0 :: vR t k :: st) σ :=
  V_callV (as := [x0, x1, x2, x3]) d0 hK hR rfl hk hd hw he hfit hV (fun r σ' h => by obtain ⟨v, rfl, rfl, rfl⟩ := h; exact kk)
theorem V_callV4j {y : MethodName} {cy : ByteArray} {nY idx : Nat} {rY : Option FieldType} {t N : Nat} {k : Int} {x0 x1 x2 x3 : AV} {ls1 : List (Option AV)} {P : Int → MM → Prop} (d0 : decode cc pc = .ok (.invokevirtual idx, 3)) (hK : KV yy.cls idx y cy nY rY 4) (hR : RC t y.cls N) (hk : 0 ≤ k ∧ k < N) (d1 : Nat) (hd : d1 + 1 ≤ d) (he : entL nY (vR t k :: [x0, x1, x2, x3]) = ls1) (hV : V y cy nY rY d1 (QJ P) 0 ls1 [] σ) (kk : ∀ v σ', P v σ' → V yy cc nL ret d Q (pc + 3) ls (vL v :: st) σ') (hw : (st.map avc).sum ≤ 8 := by exact Nat.le_of_ble_eq_true rfl) (hfit : (entA (vR t k :: [x0, x1, x2, x3])).length ≤ nY := by exact Nat.le_of_ble_eq_true rfl) : V yy cc nL ret d Q pc ls (x3 :: x2 :: x1 :: x0 :: vR t k :: st) σ :=
  V_callV (as := [x0, x1, x2, x3]) d0 hK hR rfl hk hd hw he hfit hV (fun r σ' h => by obtain ⟨v, rfl, hp⟩ := h; exact kk v σ' hp)
theorem V_callV4z {y : MethodName} {cy : ByteArray} {nY idx : Nat} {rY : Option FieldType} {t N : Nat} {k : Int} {x0 x1 x2 x3 : AV} {ls1 : List (Option AV)} {P : MM → Prop} (d0 : decode cc pc = .ok (.invokevirtual idx, 3)) (hK : KV yy.cls idx y cy nY rY 4) (hR : RC t y.cls N) (hk : 0 ≤ k ∧ k < N) (d1 : Nat) (hd : d1 + 1 ≤ d) (he : entL nY (vR t k :: [x0, x1, x2, x3]) = ls1) (hV : V y cy nY rY d1 (QZ P) 0 ls1 [] σ) (kk : ∀ σ', P σ' → V yy cc nL ret d Q (pc + 3) ls st σ') (hw : (st.map avc).sum ≤ 8 := by exact Nat.le_of_ble_eq_true rfl) (hfit : (entA (vR t k :: [x0, x1, x2, x3])).length ≤ nY := by exact Nat.le_of_ble_eq_true rfl) : V yy cc nL ret d Q pc ls (x3 :: x2 :: x1 :: x0 :: vR t k :: st) σ :=
  V_callV (as := [x0, x1, x2, x3]) d0 hK hR rfl hk hd hw he hfit hV (fun r σ' h => by obtain ⟨rfl, hp⟩ := h; exact kk σ' hp)
theorem V_callS4i {y : MethodName} {cy : ByteArray} {nY idx : Nat} {rY : Option FieldType} {x0 x1 x2 x3 : AV} {ls1 : List (Option AV)} {P : Int → MM → Prop} (d0 : decode cc pc = .ok (.invokestatic idx, 3)) (hK : KS yy.cls idx y cy nY rY 4) (d1 : Nat) (hd : d1 + 1 ≤ d) (he : entL nY [x0, x1, x2, x3] = ls1) (hV : V y cy nY rY d1 (QI P) 0 ls1 [] σ) (kk : ∀ v σ', P v σ' → V yy cc nL ret d Q (pc + 3) ls (vI v :: st) σ') (hw : (st.map avc).sum ≤ 8 := by exact Nat.le_of_ble_eq_true rfl) (hfit : (entA [x0, x1, x2, x3]).length ≤ nY := by exact Nat.le_of_ble_eq_true rfl) : V yy cc nL ret d Q pc ls (x3 :: x2 :: x1 :: x0 :: st) σ :=
  V_callS (as := [x0, x1, x2, x3]) d0 hK rfl hd hw he hfit hV (fun r σ' h => by obtain ⟨v, rfl, hp⟩ := h; exact kk v σ' hp)
theorem V_callS4p {y : MethodName} {cy : ByteArray} {nY idx : Nat} {rY : Option FieldType} {x0 x1 x2 x3 : AV} {ls1 : List (Option AV)} {v : Int} (d0 : decode cc pc = .ok (.invokestatic idx, 3)) (hK : KS yy.cls idx y cy nY rY 4) (d1 : Nat) (hd : d1 + 1 ≤ d) (he : entL nY [x0, x1, x2, x3] = ls1) (hV : V y cy nY rY d1 (QI (fun r σ' => r = v ∧ σ' = σ)) 0 ls1 [] σ) (kk : V yy cc nL ret d Q (pc + 3) ls (vI v :: st) σ) (hw : (st.map avc).sum ≤ 8 := by exact Nat.le_of_ble_eq_true rfl) (hfit : (entA [x0, x1, x2, x3]).length ≤ nY := by exact Nat.le_of_ble_eq_true rfl) : V yy cc nL ret d Q pc ls (x3 :: x2 :: x1 :: x0 :: st) σ :=
  V_callS (as := [x0, x1, x2, x3]) d0 hK rfl hd hw he hfit hV (fun r σ' h => by obtain ⟨v, rfl, rfl, rfl⟩ := h; exact kk)
theorem V_callS4j {y : MethodName} {cy : ByteArray} {nY idx : Nat} {rY : Option FieldType} {x0 x1 x2 x3 : AV} {ls1 : List (Option AV)} {P : Int → MM → Prop} (d0 : decode cc pc = .ok (.invokestatic idx, 3)) (hK : KS yy.cls idx y cy nY rY 4) (d1 : Nat) (hd : d1 + 1 ≤ d) (he : entL nY [x0, x1, x2, x3] = ls1) (hV : V y cy nY rY d1 (QJ P) 0 ls1 [] σ) (kk : ∀ v σ', P v σ' → V yy cc nL ret d Q (pc + 3) ls (vL v :: st) σ') (hw : (st.map avc).sum ≤ 8 := by exact Nat.le_of_ble_eq_true rfl) (hfit : (entA [x0, x1, x2, x3]).length ≤ nY := by exact Nat.le_of_ble_eq_true rfl) : V yy cc nL ret d Q pc ls (x3 :: x2 :: x1 :: x0 :: st) σ :=
  V_callS (as := [x0, x1, x2, x3]) d0 hK rfl hd hw he hfit hV (fun r σ' h => by obtain ⟨v, rfl, hp⟩ := h; exact kk v σ' hp)
theorem V_callS4z {y : MethodName} {cy : ByteArray} {nY idx : Nat} {rY : Option FieldType} {x0 x1 x2 x3 : AV} {ls1 : List (Option AV)} {P : MM → Prop} (d0 : decode cc pc = .ok (.invokestatic idx, 3)) (hK : KS yy.cls idx y cy nY rY 4) (d1 : Nat) (hd : d1 + 1 ≤ d) (he : entL nY [x0, x1, x2, x3] = ls1) (hV : V y cy nY rY d1 (QZ P) 0 ls1 [] σ) (kk : ∀ σ', P σ' → V yy cc nL ret d Q (pc + 3) ls st σ') (hw : (st.map avc).sum ≤ 8 := by exact Nat.le_of_ble_eq_true rfl) (hfit : (entA [x0, x1, x2, x3]).length ≤ nY := by exact Nat.le_of_ble_eq_true rfl) : V yy cc nL ret d Q pc ls (x3 :: x2 :: x1 :: x0 :: st) σ :=
  V_callS (as := [x0, x1, x2, x3]) d0 hK rfl hd hw he hfit hV (fun r σ' h => by obtain ⟨rfl, hp⟩ := h; exact kk σ' hp)
theorem V_callV5i {y : MethodName} {cy : ByteArray} {nY idx : Nat} {rY : Option FieldType} {t N : Nat} {k : Int} {x0 x1 x2 x3 x4 : AV} {ls1 : List (Option AV)} {P : Int → MM → Prop} (d0 : decode cc pc = .ok (.invokevirtual idx, 3)) (hK : KV yy.cls idx y cy nY rY 5) (hR : RC t y.cls N) (hk : 0 ≤ k ∧ k < N) (d1 : Nat) (hd : d1 + 1 ≤ d) (he : entL nY (vR t k :: [x0, x1, x2, x3, x4]) = ls1) (hV : V y cy nY rY d1 (QI P) 0 ls1 [] σ) (kk : ∀ v σ', P v σ' → V yy cc nL ret d Q (pc + 3) ls (vI v :: st) σ') (hw : (st.map avc).sum ≤ 8 := by exact Nat.le_of_ble_eq_true rfl) (hfit : (entA (vR t k :: [x0, x1, x2, x3, x4])).length ≤ nY := by exact Nat.le_of_ble_eq_true rfl) : V yy cc nL ret d Q pc ls (x4 :: x3 :: x2 :: x1 :: x0 :: vR t k :: st) σ :=
  V_callV (as := [x0, x1, x2, x3, x4]) d0 hK hR rfl hk hd hw he hfit hV (fun r σ' h => by obtain ⟨v, rfl, hp⟩ := h; exact kk v σ' hp)
theorem V_callV5p {y : MethodName} {cy : ByteArray} {nY idx : Nat} {rY : Option FieldType} {t N : Nat} {k : Int} {x0 x1 x2 x3 x4 : AV} {ls1 : List (Option AV)} {v : Int} (d0 : decode cc pc = .ok (.invokevirtual idx, 3)) (hK : KV yy.cls idx y cy nY rY 5) (hR : RC t y.cls N) (hk : 0 ≤ k ∧ k < N) (d1 : Nat) (hd : d1 + 1 ≤ d) (he : entL nY (vR t k :: [x0, x1, x2, x3, x4]) = ls1) (hV : V y cy nY rY d1 (QI (fun r σ' => r = v ∧ σ' = σ)) 0 ls1 [] σ) (kk : V yy cc nL ret d Q (pc + 3) ls (vI v :: st) σ) (hw : (st.map avc).sum ≤ 8 := by exact Nat.le_of_ble_eq_true rfl) (hfit : (entA (vR t k :: [x0, x1, x2, x3, x4])).length ≤ nY := by exact Nat.le_of_ble_eq_true rfl) : V yy cc nL ret d Q pc ls (x4 :: x3 :: x2 :: x1 :: x0 :: vR t k :: st) σ :=
  V_callV (as := [x0, x1, x2, x3, x4]) d0 hK hR rfl hk hd hw he hfit hV (fun r σ' h => by obtain ⟨v, rfl, rfl, rfl⟩ := h; exact kk)
theorem V_callV5j {y : MethodName} {cy : ByteArray} {nY idx : Nat} {rY : Option FieldType} {t N : Nat} {k : Int} {x0 x1 x2 x3 x4 : AV} {ls1 : List (Option AV)} {P : Int → MM → Prop} (d0 : decode cc pc = .ok (.invokevirtual idx, 3)) (hK : KV yy.cls idx y cy nY rY 5) (hR : RC t y.cls N) (hk : 0 ≤ k ∧ k < N) (d1 : Nat) (hd : d1 + 1 ≤ d) (he : entL nY (vR t k :: [x0, x1, x2, x3, x4]) = ls1) (hV : V y cy nY rY d1 (QJ P) 0 ls1 [] σ) (kk : ∀ v σ', P v σ' → V yy cc nL ret d Q (pc + 3) ls (vL v :: st) σ') (hw : (st.map avc).sum ≤ 8 := by exact Nat.le_of_ble_eq_true rfl) (hfit : (entA (vR t k :: [x0, x1, x2, x3, x4])).length ≤ nY := by exact Nat.le_of_ble_eq_true rfl) : V yy cc nL ret d Q pc ls (x4 :: x3 :: x2 :: x1 :: x0 :: vR t k :: st) σ :=
  V_callV (as := [x0, x1, x2, x3, x4]) d0 hK hR rfl hk hd hw he hfit hV (fun r σ' h => by obtain ⟨v, rfl, hp⟩ := h; exact kk v σ' hp)
theorem V_callV5z {y : MethodName} {cy : ByteArray} {nY idx : Nat} {rY : Option FieldType} {t N : Nat} {k : Int} {x0 x1 x2 x3 x4 : AV} {ls1 : List (Option AV)} {P : MM → Prop} (d0 : decode cc pc = .ok (.invokevirtual idx, 3)) (hK : KV yy.cls idx y cy nY rY 5) (hR : RC t y.cls N) (hk : 0 ≤ k ∧ k < N) (d1 : Nat) (hd : d1 + 1 ≤ d) (he : entL nY (vR t k :: [x0, x1, x2, x3, x4]) = ls1) (hV : V y cy nY rY d1 (QZ P) 0 ls1 [] σ) (kk : ∀ σ', P σ' → V yy cc nL ret d Q (pc + 3) ls st σ') (hw : (st.map avc).sum ≤ 8 := by exact Nat.le_of_ble_eq_true rfl) (hfit : (entA (vR t k :: [x0, x1, x2, x3, x4])).length ≤ nY := by exact Nat.le_of_ble_eq_true rfl) : V yy cc nL ret d Q pc ls (x4 :: x3 :: x2 :: x1 :: x0 :: vR t k :: st) σ :=
  V_callV (as := [x0, x1, x2, x3, x4]) d0 hK hR rfl hk hd hw he hfit hV (fun r σ' h => by obtain ⟨rfl, hp⟩ := h; exact kk σ' hp)
theorem V_callS5i {y : MethodName} {cy : ByteArray} {nY idx : Nat} {rY : Option FieldType} {x0 x1 x2 x3 x4 : AV} {ls1 : List (Option AV)} {P : Int → MM → Prop} (d0 : decode cc pc = .ok (.invokestatic idx, 3)) (hK : KS yy.cls idx y cy nY rY 5) (d1 : Nat) (hd : d1 + 1 ≤ d) (he : entL nY [x0, x1, x2, x3, x4] = ls1) (hV : V y cy nY rY d1 (QI P) 0 ls1 [] σ) (kk : ∀ v σ', P v σ' → V yy cc nL ret d Q (pc + 3) ls (vI v :: st) σ') (hw : (st.map avc).sum ≤ 8 := by exact Nat.le_of_ble_eq_true rfl) (hfit : (entA [x0, x1, x2, x3, x4]).length ≤ nY := by exact Nat.le_of_ble_eq_true rfl) : V yy cc nL ret d Q pc ls (x4 :: x3 :: x2 :: x1 :: x0 :: st) σ :=
  V_callS (as := [x0, x1, x2, x3, x4]) d0 hK rfl hd hw he hfit hV (fun r σ' h => by obtain ⟨v, rfl, hp⟩ := h; exact kk v σ' hp)
theorem V_callS5p {y : MethodName} {cy : ByteArray} {nY idx : Nat} {rY : Option FieldType} {x0 x1 x2 x3 x4 : AV} {ls1 : List (Option AV)} {v : Int} (d0 : decode cc pc = .ok (.invokestatic idx, 3)) (hK : KS yy.cls idx y cy nY rY 5) (d1 : Nat) (hd : d1 + 1 ≤ d) (he : entL nY [x0, x1, x2, x3, x4] = ls1) (hV : V y cy nY rY d1 (QI (fun r σ' => r = v ∧ σ' = σ)) 0 ls1 [] σ) (kk : V yy cc nL ret d Q (pc + 3) ls (vI v :: st) σ) (hw : (st.map avc).sum ≤ 8 := by exact Nat.le_of_ble_eq_true rfl) (hfit : (entA [x0, x1, x2, x3, x4]).length ≤ nY := by exact Nat.le_of_ble_eq_true rfl) : V yy cc nL ret d Q pc ls (x4 :: x3 :: x2 :: x1 :: x0 :: st) σ :=
  V_callS (as := [x0, x1, x2, x3, x4]) d0 hK rfl hd hw he hfit hV (fun r σ' h => by obtain ⟨v, rfl, rfl, rfl⟩ := h; exact kk)
theorem V_callS5j {y : MethodName} {cy : ByteArray} {nY idx : Nat} {rY : Option FieldType} {x0 x1 x2 x3 x4 : AV} {ls1 : List (Option AV)} {P : Int → MM → Prop} (d0 : decode cc pc = .ok (.invokestatic idx, 3)) (hK : KS yy.cls idx y cy nY rY 5) (d1 : Nat) (hd : d1 + 1 ≤ d) (he : entL nY [x0, x1, x2, x3, x4] = ls1) (hV : V y cy nY rY d1 (QJ P) 0 ls1 [] σ) (kk : ∀ v σ', P v σ' → V yy cc nL ret d Q (pc + 3) ls (vL v :: st) σ') (hw : (st.map avc).sum ≤ 8 := by exact Nat.le_of_ble_eq_true rfl) (hfit : (entA [x0, x1, x2, x3, x4]).length ≤ nY := by exact Nat.le_of_ble_eq_true rfl) : V yy cc nL ret d Q pc ls (x4 :: x3 :: x2 :: x1 :: x0 :: st) σ :=
  V_callS (as := [x0, x1, x2, x3, x4]) d0 hK rfl hd hw he hfit hV (fun r σ' h => by obtain ⟨v, rfl, hp⟩ := h; exact kk v σ' hp)
theorem V_callS5z {y : MethodName} {cy : ByteArray} {nY idx : Nat} {rY : Option FieldType} {x0 x1 x2 x3 x4 : AV} {ls1 : List (Option AV)} {P : MM → Prop} (d0 : decode cc pc = .ok (.invokestatic idx, 3)) (hK : KS yy.cls idx y cy nY rY 5) (d1 : Nat) (hd : d1 + 1 ≤ d) (he : entL nY [x0, x1, x2, x3, x4] = ls1) (hV : V y cy nY rY d1 (QZ P) 0 ls1 [] σ) (kk : ∀ σ', P σ' → V yy cc nL ret d Q (pc + 3) ls st σ') (hw : (st.map avc).sum ≤ 8 := by exact Nat.le_of_ble_eq_true rfl) (hfit : (entA [x0, x1, x2, x3, x4]).length ≤ nY := by exact Nat.le_of_ble_eq_true rfl) : V yy cc nL ret d Q pc ls (x4 :: x3 :: x2 :: x1 :: x0 :: st) σ :=
  V_callS (as := [x0, x1, x2, x3, x4]) d0 hK rfl hd hw he hfit hV (fun r σ' h => by obtain ⟨rfl, hp⟩ := h; exact kk σ' hp)
theorem V_mmax {idx : Nat} {x y : Int} (d0 : decode cc pc = .ok (.invokestatic idx, 3)) (hl9 : Cond.methodLink yy.cls idx Lib.Math.max.name ∈ lwG ∧ Cond.static Lib.Math.max.name ∈ lwG ∧ Cond.initialized "java/lang/Math" ∈ lwG ∧ Cond.code Lib.Math.max.name Lib.Math.max.code 2 (some .int) ∈ lwG) (hd : 1 ≤ d) (hx : IR x) (hy : IR y) (k : V yy cc nL ret d Q (pc + 3) ls (vI (max x y) :: st) σ) (hw : (st.map avc).sum ≤ 8 := by exact Nat.le_of_ble_eq_true rfl) : V yy cc nL ret d Q pc ls (vI y :: vI x :: st) σ := by
  intro hn p l e R s m args below meth c D ca ad A cells slots C H locs la hP hS hl
  refine va_mmax C.x C.b (C.ml.trans hl.1.symm) C.own (C.ts _ hl9.1) (C.ts _ hl9.2.1) (C.ts _ hl9.2.2.1) (C.ts _ hl9.2.2.2) (Nat.le_trans hd C.fr) (by have h9 := C.lo; have h8 := st_room (ad := ad) hw; show _ + 13 ≤ _; omega) C.ce C.sl d0 ?_
  have k9 := (k hn p l e R s m args below meth c D ca ad A cells slots C H locs la hP hS hl)
  have e9 : (if iN x < iN y then iN y else iN x) = iN (max x y) := by
    by_cases h : x < y
    · rw [if_pos ((iN_lt hx hy).mpr h), Int.max_eq_right (by omega)]
    · rw [if_neg (fun z => h ((iN_lt hx hy).mp z)), Int.max_eq_left (by omega)]
  rw [e9]
  exact k9
theorem V_mmin {idx : Nat} {x y : Int} (d0 : decode cc pc = .ok (.invokestatic idx, 3)) (hl9 : Cond.methodLink yy.cls idx Lib.Math.min.name ∈ lwG ∧ Cond.static Lib.Math.min.name ∈ lwG ∧ Cond.initialized "java/lang/Math" ∈ lwG ∧ Cond.code Lib.Math.min.name Lib.Math.min.code 2 (some .int) ∈ lwG) (hd : 1 ≤ d) (hx : IR x) (hy : IR y) (k : V yy cc nL ret d Q (pc + 3) ls (vI (min x y) :: st) σ) (hw : (st.map avc).sum ≤ 8 := by exact Nat.le_of_ble_eq_true rfl) : V yy cc nL ret d Q pc ls (vI y :: vI x :: st) σ := by
  intro hn p l e R s m args below meth c D ca ad A cells slots C H locs la hP hS hl
  refine va_mmin C.x C.b (C.ml.trans hl.1.symm) C.own (C.ts _ hl9.1) (C.ts _ hl9.2.1) (C.ts _ hl9.2.2.1) (C.ts _ hl9.2.2.2) (Nat.le_trans hd C.fr) (by have h9 := C.lo; have h8 := st_room (ad := ad) hw; show _ + 13 ≤ _; omega) C.ce C.sl d0 ?_
  have k9 := (k hn p l e R s m args below meth c D ca ad A cells slots C H locs la hP hS hl)
  have e9 : (if iN y < iN x then iN y else iN x) = iN (min x y) := by
    by_cases h : y < x
    · rw [if_pos ((iN_lt hy hx).mpr h), Int.min_eq_right (by omega)]
    · rw [if_neg (fun z => h ((iN_lt hy hx).mp z)), Int.min_eq_left (by omega)]
  rw [e9]
  exact k9
theorem V_cpI {t t2 n n2 N N2 idx : Nat} {k k2 sp dp m : Int} (d0 : decode cc pc = .ok (.invokestatic idx, 3)) (hl9 : Cond.methodLink yy.cls idx arraycopyName ∈ lwG ∧ Cond.native arraycopyName ∈ lwG ∧ Cond.static arraycopyName ∈ lwG ∧ Cond.initialized "java/lang/System" ∈ lwG) (hd : 2 ≤ d) (hs : shp t = shI n ∧ cnt t = N ∧ n < 2147483648) (hs2 : shp t2 = shI n2 ∧ cnt t2 = N2 ∧ n2 < 2147483648) (hk : 0 ≤ k ∧ k < N) (hk2 : 0 ≤ k2 ∧ k2 < N2) (h1 : 0 ≤ sp) (h2 : 0 ≤ dp) (h3 : 0 ≤ m) (h4 : sp + m ≤ n2) (h5 : dp + m ≤ n) (k9 : V yy cc nL ret d Q (pc + 3) ls st (putI σ t k (cpy (σ t2 k2) (σ t k) sp dp m))) (hw : (st.map avc).sum ≤ 8 := by exact Nat.le_of_ble_eq_true rfl) : V yy cc nL ret d Q pc ls (vI m :: vI dp :: vR t k :: vI sp :: vR t2 k2 :: st) σ := by
  intro hn p l e R s mm args below meth c D ca ad A cells slots C H locs la hP hS hl
  obtain ⟨hs, hN, hn1⟩ := hs
  obtain ⟨hs2, hN2, hn2⟩ := hs2
  obtain ⟨kk, rfl⟩ := Int.eq_ofNat_of_zero_le hk.1
  obtain ⟨kk2, rfl⟩ := Int.eq_ofNat_of_zero_le hk2.1
  obtain ⟨spn, rfl⟩ := Int.eq_ofNat_of_zero_le h1
  obtain ⟨dpn, rfl⟩ := Int.eq_ofNat_of_zero_le h2
  obtain ⟨m, rfl⟩ := Int.eq_ofNat_of_zero_le h3
  have hkc : kk < cnt t := by rw [hN]; omega
  obtain ⟨q0, a1, a2⟩ := ws_at ca ad σ (t := t) (k := kk) hkc
  obtain ⟨q2, b1, b2⟩ := ws_at ca ad σ (t := t2) (k := kk2) (by rw [hN2]; omega)
  rw [en_p hs] at a2
  rw [en_p hs2] at b2
  have ht92 : (92 : Nat) ≠ t := by have := cnt_lt hkc; omega
  have e9 : (putI σ t kk (cpy (σ t2 kk2) (σ t kk) spn dpn m)) 92 = σ 92 := putI_tag ht92
  have k9 := k9 hn p l e R s mm args below meth c D ca ad A cells slots (by rw [e9]; exact C)
  rw [e9] at k9
  have clN : ∀ z : Nat, (z : Int) ≤ 2147483647 → (iN (z : Int)).toNatClampNeg = z := fun z hz => by
    have := iN_cl (z := (z : Int)) (n := 2147483647 + 1) (by omega) (by omega)
    show (iN (z : Int)).toInt.toNat = z
    rw [iN_toInt ⟨by omega, by omega⟩]
    omega
  have nng : ∀ z : Nat, (z : Int) ≤ 2147483647 → ¬ iN (z : Int) < 0 := fun z hz q => by
    have := (iN_lt (a := (z : Int)) (b := 0) ⟨by omega, by omega⟩ ⟨by omega, by omega⟩).mp q
    omega
  have c1 := clN spn (by omega)
  have c2 := clN dpn (by omega)
  have c3 := clN m (by omega)
  have hroom := st_room (ad := ad) hw
  have hlo := C.lo
  have e5 : nativeFrameWords "java/lang/System" "arraycopy" 5 + 11 ≤ 60 := by decide +kernel
  have e6 : ((st.map (cv ad)).map fun v => v.category).sum + (nativeFrameWords "java/lang/System" "arraycopy" 5 + 11) ≤ R.locals := by omega
  refine va_copyi C.x C.b (C.ml.trans hl.1.symm) C.own (C.ts _ hl9.1) (C.ts _ hl9.2.1) (C.ts _ hl9.2.2.1) (C.ts _ hl9.2.2.2) C.K hP (C.dw.D σ) hS q2 q0 0 0 b2 a2 rfl rfl rfl (nng spn (by omega)) (nng dpn (by omega)) (nng m (by omega)) (by rw [c1, c3]; omega) (by rw [c2, c3]; omega) (fun i _ => rfl) (Nat.le_trans (by omega) C.fr) e6 d0 (fun H1 locs1 hP1 hD1 hS1 => ?_)
  rw [c1, c2, c3] at hP1
  exact k9 H1 locs1 la (by rw [← ws_cpI a1 hs]; exact hP1) hS1 hl
theorem V_cpJ {t t2 n n2 N N2 idx : Nat} {k k2 sp dp m : Int} (d0 : decode cc pc = .ok (.invokestatic idx, 3)) (hl9 : Cond.methodLink yy.cls idx arraycopyName ∈ lwG ∧ Cond.native arraycopyName ∈ lwG ∧ Cond.static arraycopyName ∈ lwG ∧ Cond.initialized "java/lang/System" ∈ lwG) (hd : 2 ≤ d) (hs : shp t = shJ n ∧ cnt t = N ∧ n < 2147483648) (hs2 : shp t2 = shJ n2 ∧ cnt t2 = N2 ∧ n2 < 2147483648) (hk : 0 ≤ k ∧ k < N) (hk2 : 0 ≤ k2 ∧ k2 < N2) (h1 : 0 ≤ sp) (h2 : 0 ≤ dp) (h3 : 0 ≤ m) (h4 : sp + m ≤ n2) (h5 : dp + m ≤ n) (k9 : V yy cc nL ret d Q (pc + 3) ls st (putI σ t k (cpy (σ t2 k2) (σ t k) sp dp m))) (hw : (st.map avc).sum ≤ 8 := by exact Nat.le_of_ble_eq_true rfl) : V yy cc nL ret d Q pc ls (vI m :: vI dp :: vR t k :: vI sp :: vR t2 k2 :: st) σ := by
  intro hn p l e R s mm args below meth c D ca ad A cells slots C H locs la hP hS hl
  obtain ⟨hs, hN, hn1⟩ := hs
  obtain ⟨hs2, hN2, hn2⟩ := hs2
  obtain ⟨kk, rfl⟩ := Int.eq_ofNat_of_zero_le hk.1
  obtain ⟨kk2, rfl⟩ := Int.eq_ofNat_of_zero_le hk2.1
  obtain ⟨spn, rfl⟩ := Int.eq_ofNat_of_zero_le h1
  obtain ⟨dpn, rfl⟩ := Int.eq_ofNat_of_zero_le h2
  obtain ⟨m, rfl⟩ := Int.eq_ofNat_of_zero_le h3
  have hkc : kk < cnt t := by rw [hN]; omega
  obtain ⟨q0, a1, a2⟩ := ws_at ca ad σ (t := t) (k := kk) hkc
  obtain ⟨q2, b1, b2⟩ := ws_at ca ad σ (t := t2) (k := kk2) (by rw [hN2]; omega)
  rw [en_j hs] at a2
  rw [en_j hs2] at b2
  have ht92 : (92 : Nat) ≠ t := by have := cnt_lt hkc; omega
  have e9 : (putI σ t kk (cpy (σ t2 kk2) (σ t kk) spn dpn m)) 92 = σ 92 := putI_tag ht92
  have k9 := k9 hn p l e R s mm args below meth c D ca ad A cells slots (by rw [e9]; exact C)
  rw [e9] at k9
  have clN : ∀ z : Nat, (z : Int) ≤ 2147483647 → (iN (z : Int)).toNatClampNeg = z := fun z hz => by
    have := iN_cl (z := (z : Int)) (n := 2147483647 + 1) (by omega) (by omega)
    show (iN (z : Int)).toInt.toNat = z
    rw [iN_toInt ⟨by omega, by omega⟩]
    omega
  have nng : ∀ z : Nat, (z : Int) ≤ 2147483647 → ¬ iN (z : Int) < 0 := fun z hz q => by
    have := (iN_lt (a := (z : Int)) (b := 0) ⟨by omega, by omega⟩ ⟨by omega, by omega⟩).mp q
    omega
  have c1 := clN spn (by omega)
  have c2 := clN dpn (by omega)
  have c3 := clN m (by omega)
  have hroom := st_room (ad := ad) hw
  have hlo := C.lo
  have e5 : nativeFrameWords "java/lang/System" "arraycopy" 5 + 11 ≤ 60 := by decide +kernel
  have e6 : ((st.map (cv ad)).map fun v => v.category).sum + (nativeFrameWords "java/lang/System" "arraycopy" 5 + 11) ≤ R.locals := by omega
  refine va_copyl C.x C.b (C.ml.trans hl.1.symm) C.own (C.ts _ hl9.1) (C.ts _ hl9.2.1) (C.ts _ hl9.2.2.1) (C.ts _ hl9.2.2.2) C.K hP (C.dw.D σ) hS q2 q0 1 1 b2 a2 rfl rfl rfl (nng spn (by omega)) (nng dpn (by omega)) (nng m (by omega)) (by rw [c1, c3]; omega) (by rw [c2, c3]; omega) (fun i _ => rfl) (Nat.le_trans (by omega) C.fr) e6 d0 (fun H1 locs1 hP1 hD1 hS1 => ?_)
  rw [c1, c2, c3] at hP1
  exact k9 H1 locs1 la (by rw [← ws_cpJ a1 hs]; exact hP1) hS1 hl
end ROWS
