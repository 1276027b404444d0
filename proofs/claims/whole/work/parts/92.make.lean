/-! MAKING: cells at b, b + 1, .. told by a function -/
def WL (b n : Nat) (E : Nat → va_E) : va_W := (List.range n).map (fun i => (b + i, E i))
theorem WL_get {b n i : Nat} {E : Nat → va_E} (h : i < n) : (WL b n E)[i]? = some (b + i, E i) := by
  unfold WL
  rw [List.getElem?_map, List.getElem?_range h]
  rfl
theorem WL_of {b n i : Nat} {E : Nat → va_E} {q : Nat × va_E} (h : (WL b n E)[i]? = some q) : i < n ∧ q = (b + i, E i) := by
  have hl : i < (WL b n E).length := (List.getElem?_eq_some_iff.mp h).1
  have hn : (WL b n E).length = n := by unfold WL; rw [List.length_map, List.length_range]
  rw [hn] at hl
  rw [WL_get hl] at h
  exact ⟨hl, (Option.some.inj h).symm⟩
/-- one more; one otherwise; a block more -/
def eP (n : Nat) (e : va_E) (E : Nat → va_E) : Nat → va_E := fun i => if i < n then E i else e
def eS (j : Nat) (e : va_E) (E : Nat → va_E) : Nat → va_E := fun i => if i = j then e else E i
def eC (n : Nat) (F E : Nat → va_E) : Nat → va_E := fun i => if i < n then E i else F (i - n)
theorem WL_snoc {b n : Nat} {e : va_E} {E : Nat → va_E} : WL b n E ++ [(b + n, e)] = WL b (n + 1) (eP n e E) := by
  apply List.ext_getElem?
  intro i
  by_cases h : i < n
  · rw [List.getElem?_append_left (by unfold WL; rw [List.length_map, List.length_range]; exact h), WL_get h, WL_get (by omega)]
    unfold eP; rw [if_pos h]
  · have hl : (WL b n E).length = n := by unfold WL; rw [List.length_map, List.length_range]
    rw [List.getElem?_append_right (by omega), hl]
    by_cases h2 : i = n
    · subst h2
      rw [Nat.sub_self, WL_get (by omega)]
      unfold eP; rw [if_neg h]; rfl
    · rw [List.getElem?_eq_none (by simp; omega), List.getElem?_eq_none (by unfold WL; rw [List.length_map, List.length_range]; omega)]
theorem WL_set {b n j : Nat} {e : va_E} {E : Nat → va_E} (hj : j < n) : (WL b n E).set j (b + j, e) = WL b n (eS j e E) := by
  have hl : (WL b n E).length = n := by unfold WL; rw [List.length_map, List.length_range]
  apply List.ext_getElem?
  intro i
  by_cases h : i = j
  · subst h
    rw [List.getElem?_set_self (by rw [hl]; exact hj), WL_get hj]
    unfold eS; rw [if_pos rfl]
  · rw [List.getElem?_set_ne (fun z => h z.symm)]
    by_cases h2 : i < n
    · rw [WL_get h2, WL_get h2]
      unfold eS; rw [if_neg h]
    · rw [List.getElem?_eq_none (by rw [hl]; omega), List.getElem?_eq_none (by unfold WL; rw [List.length_map, List.length_range]; omega)]
abbrev AF (b : Nat) : Nat → Prop := fun q => b ≤ q
theorem WL_D {b n : Nat} {E : Nat → va_E} : va_D (AF b) (WL b n E) := by
  refine ⟨fun i j p q hp hq e => ?_, fun i q hq => ?_⟩
  · obtain ⟨h1, rfl⟩ := WL_of hp
    obtain ⟨h2, rfl⟩ := WL_of hq
    have : b + i = b + j := e
    omega
  · obtain ⟨h1, rfl⟩ := WL_of hq
    exact Nat.le_add_right b i
theorem WL_P {D : va_G} {b n : Nat} {E : Nat → va_E} {H : Heap} (h : ∀ i, i < n → va_at D vwCl (b + i, E i) H) : va_P D vwCl (WL b n E) H := fun i q hq => by
  obtain ⟨h1, rfl⟩ := WL_of hq
  exact h i h1
theorem WL_at {D : va_G} {b n : Nat} {E : Nat → va_E} {H : Heap} (h : va_P D vwCl (WL b n E) H) {i : Nat} (hi : i < n) : va_at D vwCl (b + i, E i) H := h i _ (WL_get hi)
/-- where a heap's new cell lies -/
theorem WL_new {D : va_G} {b n q : Nat} {E : Nat → va_E} {e : va_E} {H1 : Heap} (hP1 : va_P D vwCl (WL b n E ++ [(q, e)]) H1) (hD1 : va_D (AF b) (WL b n E ++ [(q, e)])) (hz : H1.size ≤ b + (n + 1)) : q = b + n ∧ H1.size = b + (n + 1) := by
  have hl : (WL b n E).length = n := by unfold WL; rw [List.length_map, List.length_range]
  have hq : (WL b n E ++ [(q, e)])[n]? = some (q, e) := by
    rw [List.getElem?_append_right (by omega), hl, Nat.sub_self]; rfl
  have h1 : q < H1.size := (hP1 n _ hq).lt
  have h2 : b ≤ q := hD1.2 n _ hq
  have h3 : ¬ q < b + n := fun z => by
    have hi : q - b < n := by omega
    have hg : (WL b n E ++ [(q, e)])[q - b]? = some (b + (q - b), E (q - b)) := by
      rw [List.getElem?_append_left (by rw [hl]; exact hi)]; exact WL_get hi
    have := hD1.1 (q - b) n _ _ hg hq (show b + (q - b) = q by omega)
    omega
  omega
theorem va_RA.nm {U : State} {cA : ClassId} {ty : FieldType} (h : va_RA U cA ty) : U.vm.findClass ("[" ++ ty.toString) = some cA := by
  cases ty with
  | object C => obtain ⟨kA, comp, -, -, -, h4⟩ := h; exact h4
  | _ => exact h
/-- what the array classes of arrays are -/
def XA (ca : FieldType → ClassId) (U : State) : Prop := va_AO "GallRegister$Book" U ∧ va_AO "GallRegister$Row" U ∧ ∃ (kA kC : Class) (c0 : ClassId), U.vm.classes[ca (.array .int)]? = some kA ∧ kA.kind = .array (ca .int) (.array .int) ∧ U.vm.classes[ca .int]? = some kC ∧ kC.kind = .array c0 .int
theorem XA.moved {ca : FieldType → ClassId} {u U : State} (hvm : u.vm.Alike U.vm) (h : XA ca u) : XA ca U := by
  obtain ⟨h1, h2, kA, kC, c0, a1, a2, a3, a4⟩ := h
  obtain ⟨kA', b1, e1⟩ := hvm.2.2 _ _ a1
  obtain ⟨kC', b2, e2⟩ := hvm.2.2 _ _ a3
  exact ⟨h1.moved hvm, h2.moved hvm, kA', kC', c0, b1, by rw [e1]; exact a2, b2, by rw [e2]; exact a4⟩
/-- the links to constructors within the nest -/
def NW (U : State) : Prop := va_Nw (.methodLinkNest RX5 9 yX3_init "GallRegister") U ∧ va_Nw (.methodLinkNest RX5 18 yX1_init "GallRegister") U ∧ va_Nw (.methodLinkNest RX1 66 yX0_init "GallRegister") U ∧ va_Nw (.methodLinkNest RX5 31 yX2_init "GallRegister") U ∧ va_Nw (.methodLinkNest RX5 75 yX4_init "GallRegister") U
theorem NW.warm {s U : State} (hW : s.WarmedH U.vm) (h : NW s) : NW U := ⟨va_Nw.warmM hW h.1, va_Nw.warmM hW h.2.1, va_Nw.warmM hW h.2.2.1, va_Nw.warmM hW h.2.2.2.1, va_Nw.warmM hW h.2.2.2.2⟩
theorem NW.same {u U : State} (e : u.vm = U.vm) (h : NW u) : NW U := ⟨va_Nw.same rfl e h.1, va_Nw.same rfl e h.2.1, va_Nw.same rfl e h.2.2.1, va_Nw.same rfl e h.2.2.2.1, va_Nw.same rfl e h.2.2.2.2⟩
def GX (own : String) (cc : ByteArray) (nL : Nat) (p : Program) (R : Room) (s : State) (m : MethodId) (args : Array Value) (c : Code) (D : va_G) (ca : FieldType → ClassId) : Prop :=
  p.tables.exec = Jvm.exec ∧ c.code = cc ∧ c.maxLocals = nL ∧ s.vm.findClass own = some m.cls ∧ (∀ w ∈ lwG, w.before args s = true) ∧ va_K D vwCl (tysL ca) s ∧ XA ca s ∧ NW s
def GH (D : va_G) (b n : Nat) (E : Nat → va_E) (s : State) (H : Heap) (locs : List Loc) : Prop := va_P D vwCl (WL b n E) H ∧ va_S (AF b) s.heap H locs ∧ H.size = b + n
section GROW
variable {p : Program} {l : Launch} {e : Env} {R : Room} {s : State} {m : MethodId} {args : Array Value} {below : List Frame} {meth : Method} {c : Code} {H : Heap} {locs : List Loc} {cells slots : Nat} {Q : State → Prop}
variable {cc : ByteArray} {pc nL : Nat} {ls : Array Slot} {rest : List Value} {D : va_G} {ca : FieldType → ClassId} {own : String} {b n : Nat} {E : Nat → va_E}
theorem W.sized {g : JFrame} {N : Nat} (hup : s.heap.size + cells = N) (k : H.size ≤ N → W p l e R s m args below meth c H locs cells slots Q g) : W p l e R s m args below meth c H locs cells slots Q g :=
  fun T hT X => k (by rw [← hT, ← hup]; exact X.heapSize) T hT X
theorem GX.x (C : GX own cc nL p R s m args c D ca) : p.tables.exec = Jvm.exec := C.1
theorem GX.cd (C : GX own cc nL p R s m args c D ca) : c.code = cc := C.2.1
theorem GX.ml (C : GX own cc nL p R s m args c D ca) : c.maxLocals = nL := C.2.2.1
theorem GX.ow (C : GX own cc nL p R s m args c D ca) : s.vm.findClass own = some m.cls := C.2.2.2.1
theorem GX.ts (C : GX own cc nL p R s m args c D ca) : ∀ w ∈ lwG, w.before args s = true := C.2.2.2.2.1
theorem GX.K (C : GX own cc nL p R s m args c D ca) : va_K D vwCl (tysL ca) s := C.2.2.2.2.2.1
theorem GX.a (C : GX own cc nL p R s m args c D ca) : XA ca s := C.2.2.2.2.2.2.1
theorem GX.nw (C : GX own cc nL p R s m args c D ca) : NW s := C.2.2.2.2.2.2.2
/-- a row of numbers -/
theorem G_newa {atype : ArrayType} {ty : FieldType} {t0 : Nat} (C : GX own cc nL p R s m args c D ca) (G : GH D b n E s H locs) (hb0 : b ≤ s.heap.size) (hup : s.heap.size + cells = b + n) (hty : newarray.typeOf atype = ty) (ht : (tysL ca)[t0]? = some (ca ty, ty)) (harr : Cond.arrayClass (newarray.typeOf atype) ∈ lwG)
    {v : Int32} {N : Nat} {a0 : vp_A} (ha : ∀ cA : ClassId, vp_cell cA a0 = arrV cA N (fun _ => defaultValue ty)) (hn : ¬ v < 0) (hN : v.toNatClampNeg = N) (hbytes : N * componentBytes ty ≤ 536870912) (hcells : cells + 1 ≤ R.cells) (hslots : slots + N ≤ R.slots) (hdg : decode cc pc = .ok (.newarray atype, 2))
    (kk : ∀ H1 : Heap, GH D b (n + 1) (eP n (.inl (ca ty, a0)) E) s H1 locs → W p l e R s m args below meth c H1 locs (cells + 1) (slots + N) Q (F0 m (pc + 2) ls (.ref (b + n) :: rest))) : W p l e R s m args below meth c H locs cells slots Q (F0 m pc ls (.int v :: rest)) := by
  refine va_newa C.x C.cd (C.ts _ harr) hty C.K G.1 WL_D G.2.1 (fun q h => Nat.le_trans hb0 h) ha hn hN hbytes hcells hslots hdg (fun q cA H1 hK1 hP1 hD1 hS1 => ?_)
  have e1 : s.vm.findClass ("[" ++ ty.toString) = some cA := (hK1.2 7 _ rfl).2.nm
  have e2 : s.vm.findClass ("[" ++ ty.toString) = some (ca ty) := (C.K.2 t0 _ ht).2.nm
  have e3 : cA = ca ty := Option.some.inj (e1.symm.trans e2)
  subst e3
  refine W.sized (N := b + (n + 1)) (by omega) (fun hz => ?_)
  obtain ⟨rfl, hz1⟩ := WL_new hP1 hD1 hz
  rw [WL_snoc] at hP1
  exact kk H1 ⟨hP1, hS1, hz1⟩
theorem G_newq {CC : String} {t0 idx : Nat} (C : GX own cc nL p R s m args c D ca) (G : GH D b n E s H locs) (hb0 : b ≤ s.heap.size) (hup : s.heap.size + cells = b + n) (ht : (tysL ca)[t0]? = some (ca (.object CC), .object CC)) (hcl : Cond.classLink own idx CC ∈ lwG) (hov : va_AO CC s)
    {v : Int32} {N : Nat} (hn : ¬ v < 0) (hN : v.toNatClampNeg = N) (hbytes : N * 4 ≤ 536870912) (hcells : cells + 1 ≤ R.cells) (hslots : slots + N ≤ R.slots) (hdg : decode cc pc = .ok (.anewarray idx, 3))
    (kk : ∀ H1 : Heap, GH D b (n + 1) (eP n (.inl (ca (.object CC), N, .inr (.inr (.inr (.inr (fun _ => none)))))) E) s H1 locs → W p l e R s m args below meth c H1 locs (cells + 1) (slots + N) Q (F0 m (pc + 3) ls (.ref (b + n) :: rest))) : W p l e R s m args below meth c H locs cells slots Q (F0 m pc ls (.int v :: rest)) := by
  refine va_newq C.x C.cd C.ow (C.ts _ hcl) hov C.K G.1 WL_D G.2.1 (fun q h => Nat.le_trans hb0 h) hn hN hbytes hcells hslots hdg (fun q cA H1 hK1 hP1 hD1 hS1 => ?_)
  have e1 : s.vm.findClass ("[" ++ (FieldType.object CC).toString) = some cA := (hK1.2 7 _ rfl).2.nm
  have e2 : s.vm.findClass ("[" ++ (FieldType.object CC).toString) = some (ca (.object CC)) := (C.K.2 t0 _ ht).2.nm
  have e3 : cA = ca (.object CC) := Option.some.inj (e1.symm.trans e2)
  subst e3
  refine W.sized (N := b + (n + 1)) (by omega) (fun hz => ?_)
  obtain ⟨rfl, hz1⟩ := WL_new hP1 hD1 hz
  rw [WL_snoc] at hP1
  exact kk H1 ⟨hP1, hS1, hz1⟩
/-- an object -/
theorem G_new {CC : String} {T : u_T} {N ci idx : Nat} {ty : Nat → FieldType} {fs : List Value} (C : GX own cc nL p R s m args c D ca) (G : GH D b n E s H locs) (hb0 : b ≤ s.heap.size) (hup : s.heap.size + cells = b + n) (hc : vwCl[ci]? = some (CC, T, N)) (hin : ∀ w ∈ u_ws CC T N, w ∈ lwG) (hty : ∀ k, k < N → parseFieldDescriptor (T k).2.2.1 = some (ty k)) (hcl : Cond.classLink own idx CC ∈ lwG) (hins : Cond.instantiable CC N ∈ lwG) (hini : Cond.initialized CC ∈ lwG)
    (hfs : ∀ j, j < N → defaultValue (ty j) = vp_V fs j) (hcells : cells + 1 ≤ R.cells) (hslots : slots + N ≤ R.slots) (hdg : decode cc pc = .ok (.new idx, 3))
    (kk : ∀ H1 : Heap, GH D b (n + 1) (eP n (.inr (ci, fs)) E) s H1 locs → W p l e R s m args below meth c H1 locs (cells + 1) (slots + N) Q (F0 m (pc + 3) ls (.ref (b + n) :: rest))) : W p l e R s m args below meth c H locs cells slots Q (F0 m pc ls rest) := by
  refine va_new C.x C.cd C.ts hin ty hty C.ow (C.ts _ hcl) (C.ts _ hins) (C.ts _ hini) C.K G.1 WL_D G.2.1 (fun q h => Nat.le_trans hb0 h) hc hfs hcells hslots hdg (fun q H1 hP1 hD1 hS1 => ?_)
  refine W.sized (N := b + (n + 1)) (by omega) (fun hz => ?_)
  obtain ⟨rfl, hz1⟩ := WL_new hP1 hD1 hz
  rw [WL_snoc] at hP1
  exact kk H1 ⟨hP1, hS1, hz1⟩
theorem WL_low {H1 : Heap} (hn : 0 < n) (hP1 : va_P D vwCl (WL b n E) H1) : b + n ≤ H1.size := by
  have h : b + (n - 1) < H1.size := (WL_at hP1 (i := n - 1) (by omega)).lt
  omega
/-- a field of the object that is made -/
theorem G_put {CC : String} {T : u_T} {N ci j idx : Nat} {ty0 : Nat → FieldType} {fs : List Value} {v : Value} {ty : FieldType} (C : GX own cc nL p R s m args c D ca) (G : GH D b n E s H locs) (hn : 0 < n) (hup : s.heap.size + cells = b + n) (hc : vwCl[ci]? = some (CC, T, N)) (hin : ∀ w ∈ u_ws CC T N, w ∈ lwG) (hty : ∀ k, k < N → parseFieldDescriptor (T k).2.2.1 = some (ty0 k)) (hnm : ∀ a, a < N → ∀ b, b < N → a ≠ b → (T a).2.1 ≠ (T b).2.1)
    (he : E 0 = .inr (ci, fs)) (hj : j < N) (hl : Cond.fieldLink own idx (T j).1 (T j).2.1 (T j).2.2.1 ∈ lwG) (hfin : (T j).2.2.2 = false) (hd : parseFieldDescriptor (T j).2.2.1 = some ty) (hnr : narrow ty v = v) (hfit : fits ty v = true) (hlen : j < fs.length) (hdg : decode cc pc = .ok (.putfield idx, 3))
    (kk : ∀ (H1 : Heap) (locs1 : List Loc), GH D b n (eS 0 (.inr (ci, fs.set j v)) E) s H1 locs1 → W p l e R s m args below meth c H1 locs1 cells slots Q (F0 m (pc + 3) ls rest)) : W p l e R s m args below meth c H locs cells slots Q (F0 m pc ls (v :: .ref b :: rest)) := by
  have hg : (WL b n E)[0]? = some (b, .inr (ci, fs)) := by rw [WL_get hn, he]; rfl
  refine va_put C.x C.cd C.ts hin ty0 hty hnm C.ow C.K G.1 WL_D G.2.1 0 hg hc j hj (C.ts _ hl) (fun x hx => hx) hfin hd hnr hfit hlen hdg (fun H1 locs1 hP1 hD1 hS1 => ?_)
  refine W.sized hup (fun hz => ?_)
  have e := WL_set (b := b) (e := .inr (ci, fs.set j v)) (E := E) hn
  rw [Nat.add_zero] at e
  rw [e] at hP1
  exact kk H1 locs1 ⟨hP1, hS1, Nat.le_antisymm hz (WL_low hn hP1)⟩
theorem G_putF {CC : String} {T : u_T} {N ci j idx : Nat} {ty0 : Nat → FieldType} {fs : List Value} {v : Value} {ty : FieldType} (C : GX own cc nL p R s m args c D ca) (hinit : meth.name = "<init>") (G : GH D b n E s H locs) (hn : 0 < n) (hup : s.heap.size + cells = b + n) (hc : vwCl[ci]? = some (CC, T, N)) (hin : ∀ w ∈ u_ws CC T N, w ∈ lwG) (hty : ∀ k, k < N → parseFieldDescriptor (T k).2.2.1 = some (ty0 k)) (hnm : ∀ a, a < N → ∀ b, b < N → a ≠ b → (T a).2.1 ≠ (T b).2.1)
    (he : E 0 = .inr (ci, fs)) (hj : j < N) (hl : Cond.fieldLink own idx (T j).1 (T j).2.1 (T j).2.2.1 ∈ lwG) (hfin : (T j).2.2.2 = true) (hdecl : (T j).1 = own) (hd : parseFieldDescriptor (T j).2.2.1 = some ty) (hnr : narrow ty v = v) (hfit : fits ty v = true) (hlen : j < fs.length) (hdg : decode cc pc = .ok (.putfield idx, 3))
    (kk : ∀ (H1 : Heap) (locs1 : List Loc), GH D b n (eS 0 (.inr (ci, fs.set j v)) E) s H1 locs1 → W p l e R s m args below meth c H1 locs1 cells slots Q (F0 m (pc + 3) ls rest)) : W p l e R s m args below meth c H locs cells slots Q (F0 m pc ls (v :: .ref b :: rest)) := by
  have hg : (WL b n E)[0]? = some (b, .inr (ci, fs)) := by rw [WL_get hn, he]; rfl
  refine va_putF C.x C.cd C.ts hin ty0 hty hnm C.ow C.K G.1 WL_D G.2.1 0 hg hc j hj (C.ts _ hl) (fun x hx => hx) hfin hinit hdecl hd hnr hfit hlen hdg (fun H1 locs1 hP1 hD1 hS1 => ?_)
  refine W.sized hup (fun hz => ?_)
  have e := WL_set (b := b) (e := .inr (ci, fs.set j v)) (E := E) hn
  rw [Nat.add_zero] at e
  rw [e] at hP1
  exact kk H1 locs1 ⟨hP1, hS1, Nat.le_antisymm hz (WL_low hn hP1)⟩
theorem G_get {CC : String} {T : u_T} {N ci j idx : Nat} {fs : List Value} {v : Value} (C : GX own cc nL p R s m args c D ca) (G : GH D b n E s H locs) (hn : 0 < n) (hc : vwCl[ci]? = some (CC, T, N)) (hin : ∀ w ∈ u_ws CC T N, w ∈ lwG)
    (he : E 0 = .inr (ci, fs)) (hj : j < N) (hl : Cond.fieldLink own idx (T j).1 (T j).2.1 (T j).2.2.1 ∈ lwG) (hv : fs[j]? = some v) (hdg : decode cc pc = .ok (.getfield idx, 3))
    (kk : W p l e R s m args below meth c H locs cells slots Q (F0 m (pc + 3) ls (v :: rest))) : W p l e R s m args below meth c H locs cells slots Q (F0 m pc ls (.ref b :: rest)) := by
  have hg : (WL b n E)[0]? = some (b, .inr (ci, fs)) := by rw [WL_get hn, he]; rfl
  exact va_get C.x C.cd C.ts hin C.ow C.K G.1 0 hg hc j hj (C.ts _ hl) (fun x hx => hx) hv hdg kk
/-- an object into a row of objects -/
theorem G_ast {t0 q0 qk ci a v : Nat} {r : vw_C} {N : Nat} {vs : List Value} {f : Nat → Option Nat} (C : GX own cc nL p R s m args c D ca) (G : GH D b n E s H locs) (hup : s.heap.size + cells = b + n) (hq : q0 < n) (hk : qk < n) (hea : b + q0 = a) (hev : b + qk = v) (ha : E q0 = .inl (ca (.object r.1), N, .inr (.inr (.inr (.inr f))))) (ht : (tysL ca)[t0]? = some (ca (.object r.1), .object r.1)) (hv : E qk = .inr (ci, vs)) (hc : vwCl[ci]? = some r) {i : Int32} (hin : vp_in i N) (hdg : decode cc pc = .ok (.aastore, 1))
    (kk : ∀ (H1 : Heap) (locs1 : List Loc), GH D b n (eS q0 (.inl (ca (.object r.1), N, .inr (.inr (.inr (.inr (va_up f i.toNatClampNeg (some v))))))) E) s H1 locs1 → W p l e R s m args below meth c H1 locs1 cells slots Q (F0 m (pc + 1) ls rest)) : W p l e R s m args below meth c H locs cells slots Q (F0 m pc ls (.ref v :: .int i :: .ref a :: rest)) := by
  subst hea
  subst hev
  refine va_astq C.x C.cd C.K G.1 WL_D G.2.1 q0 t0 qk ci (by rw [WL_get hq, ha]) ht (by rw [WL_get hk, hv]) hc hin hdg (fun H1 locs1 hP1 hD1 hS1 => ?_)
  refine W.sized hup (fun hz => ?_)
  rw [WL_set hq] at hP1
  exact kk H1 locs1 ⟨hP1, hS1, Nat.le_antisymm hz (WL_low (by omega) hP1)⟩
/-- a number into a row -/
theorem G_iast {t0 q0 a : Nat} {N : Nat} {f : Nat → Int32} (C : GX own cc nL p R s m args c D ca) (G : GH D b n E s H locs) (hup : s.heap.size + cells = b + n) (hq : q0 < n) (hea : b + q0 = a) (ha : E q0 = .inl (ca .int, N, .inl f)) (ht : (tysL ca)[t0]? = some (ca .int, .int)) {i x : Int32} (hin : vp_in i N) (hdg : decode cc pc = .ok (.iastore, 1))
    (kk : ∀ (H1 : Heap) (locs1 : List Loc), GH D b n (eS q0 (.inl (ca .int, N, .inl (upd f i.toNatClampNeg x))) E) s H1 locs1 → W p l e R s m args below meth c H1 locs1 cells slots Q (F0 m (pc + 1) ls rest)) : W p l e R s m args below meth c H locs cells slots Q (F0 m pc ls (.int x :: .int i :: .ref a :: rest)) := by
  subst hea
  refine va_iast C.x C.cd C.K G.1 WL_D G.2.1 q0 t0 (by rw [WL_get hq, ha]) ht hin hdg (fun H1 locs1 hP1 hD1 hS1 => ?_)
  refine W.sized hup (fun hz => ?_)
  rw [WL_set hq] at hP1
  exact kk H1 locs1 ⟨hP1, hS1, Nat.le_antisymm hz (WL_low (by omega) hP1)⟩
end GROW
/-- the start of a constructor, and its end -/
def GPre (D : va_G) (ca : FieldType → ClassId) (h ci : Nat) (fs : List Value) (U : State) : Prop := U.heap.size = h + 1 ∧ va_at D vwCl (h, .inr (ci, fs)) U.heap ∧ va_K D vwCl (tysL ca) U ∧ XA ca U ∧ NW U
def GPost (D : va_G) (h n : Nat) (F : Nat → va_E) (_ : Unit) (t : State) : Prop := t.heap.size = h + n ∧ ∀ i, i < n → va_at D vwCl (h + i, F i) t.heap
/-- a constructor: n cells, of ms slots, come to stand at h -/
def MK (l : Launch) (y : MethodName) (cy : ByteArray) (nY d ci n ms : Nat) (fs : List Value) (F : (FieldType → ClassId) → Nat → Nat → va_E) : Prop :=
  ∀ (D : va_G) (ca : FieldType → ClassId) (h : Nat), Met l y (wsG y cy nY none) { frames := d, cells := n - 1, slots := ms, locals := 41 * d } (va_Pc [.ref h] (GPre D ca h ci fs)) (va_Qv (fun _ => True) (GPost D h n (F ca h)) (AF h)) (n - 1) ms (AF h)
section GINIT
variable {p : Program} {l : Launch} {e : Env} {R : Room} {s : State} {m : MethodId} {args : Array Value} {below : List Frame} {meth : Method} {c : Code} {H : Heap} {locs : List Loc} {cells slots : Nat} {Q : State → Prop}
variable {cc : ByteArray} {pc nL : Nat} {ls : Array Slot} {rest : List Value} {D : va_G} {ca : FieldType → ClassId} {own : String} {b n : Nat} {E : Nat → va_E}
/-- what a constructor's start gives -/
theorem MK.of {y : MethodName} {cy : ByteArray} {nY d ci k ms : Nat} {fs : List Value} {F : (FieldType → ClassId) → Nat → Nat → va_E} (hy : plainName y.cls = true) (hnm : y.name = "<init>") (hnY : 1 ≤ nY) (h : ∀ (p : Program) (e : Env) (R : Room) (s : State) (m : MethodId) (args : Array Value) (below : List Frame) (meth : Method) (c : Code) (D : va_G) (ca : FieldType → ClassId) (b : Nat) (ls : Array Slot), R.frames = d → R.locals = 41 * d → R.cells = k - 1 → R.slots = ms → meth.sig.returnType = none → meth.locks = false → meth.name = "<init>" → s.heap.size = b + 1 → GX y.cls cy nY p R s m args c D ca → GH D b 1 (fun _ => .inr (ci, fs)) s s.heap [] → lv_has ls nY [(0, .ref b)] →
      W p l e R s m args below meth c s.heap [] 0 0 (MQ below (va_Qv (fun _ => True) (GPost D b k (F ca b)) (AF b)) args s (k - 1) ms (AF b)) (F0 m 0 ls [])) : MK l y cy nY d ci k ms fs F := by
  intro D ca b
  refine Met.ofW (cc := cy) (maxL := nY) (ret := none) hy rfl ?_
  intro p e s m args below meth c s₁ B hml hv
  obtain ⟨rfl, hsz, hP, hK, hA, hNW⟩ := hv
  have hts := atoms_spec (ws := wsG y cy nY none) B.pre
  have hown : s.vm.findClass y.cls = some m.cls := findClass_of_methodNamed B.named
  have hin : meth.name = y.name := (name_of_methodNamed B.named B.method).1
  have hl := lv_entry ([.ref b]) (n := nY) (by show 1 ≤ nY; exact hnY)
  rw [lg_entry_eq]
  refine h p e _ s m _ below meth c D ca b _ rfl rfl rfl rfl B.returns B.notSynchronized (hin.trans hnm) hsz ⟨B.exec, B.bytes, hml, hown, fun w hw => hts w (List.mem_cons_of_mem _ hw), hK, hA, hNW⟩ ⟨WL_P (fun i hi => ?_), va_S.rf, hsz⟩ hl
  have : i = 0 := by omega
  subst this
  exact hP
theorem G_initC {y : MethodName} {cy : ByteArray} {nY d ci k ms v : Nat} {fs : List Value} {F : (FieldType → ClassId) → Nat → Nat → va_E} (G : GH D b (n + 1) E s H locs) (hv : b + n = v) (hk : 1 ≤ k) (hr : va_Run p l e R s m args below meth c H locs cells slots (k - 1) ms (F0 m pc ls (.ref v :: rest)) rest (va_Qv (fun _ => True) (GPost D v k (F ca v)) (AF v) (#[Value.ref v])) (AF v))
    (kk : ∀ (H1 : Heap) (locs1 : List Loc), GH D b (n + k) (eC n (F ca v) E) s H1 locs1 → W p l e R s m args below meth c H1 locs1 (cells + (k - 1)) (slots + ms) Q (F0 m (pc + 3) ls rest)) : W p l e R s m args below meth c H locs cells slots Q (F0 m pc ls (.ref v :: rest)) := by
  subst hv
  refine va_callv (S := Unit) hr G.2.1 (fun q _ h => by show b ≤ q; have : b + n ≤ q := h; omega) (fun q h => by show b ≤ q; have : b + n ≤ q := h; omega) (fun u t H1 locs1 ht hvm _ hB hz1 hk1 hS1 => ?_)
  obtain ⟨hsz, hat⟩ := hB
  rw [ht] at hsz hat
  refine kk H1 locs1 ⟨WL_P (fun i hi => ?_), hS1, by omega⟩
  by_cases q : i < n
  · unfold eC; rw [if_pos q]
    refine (WL_at G.1 (i := i) (by omega)).kept (hk1 (b + i) ?_ ?_)
    · rw [G.2.2]; omega
    · show ¬ (b + n ≤ b + i); omega
  · unfold eC; rw [if_neg q]
    have := hat (i - n) (by omega)
    rw [show b + n + (i - n) = b + i by omega] at this
    exact this
theorem G_pre {ci : Nat} {fs : List Value} (C : GX own cc nL p R s m args c D ca) (G : GH D b (n + 1) E s H locs) (he : E n = .inr (ci, fs)) : PreS s H (va_Pc [.ref (b + n)] (GPre D ca (b + n) ci fs)) [.ref (b + n)] :=
  ⟨fun a U g mk q => by obtain ⟨q0, q1, q2, qK, qA, qN⟩ := q; exact ⟨q0, q1, q2, va_K.moved (u := U) (U := U.calling g mk a) (Vm.Alike.refl U.vm) qK, XA.moved (u := U) (U := U.calling g mk a) (Vm.Alike.refl U.vm) qA, NW.same (u := U) rfl qN⟩, fun U hU hW => ⟨rfl, by rw [hU, G.2.2]; omega, by rw [hU, ← he]; exact WL_at G.1 (by omega), va_K.moved hW.alike C.K, C.a.moved hW.alike, C.nw.warm hW⟩⟩
theorem G_init {y : MethodName} {cy : ByteArray} {nY d ci k ms idx v : Nat} {fs : List Value} {F : (FieldType → ClassId) → Nat → Nat → va_E} (C : GX own cc nL p R s m args c D ca) (G : GH D b (n + 1) E s H locs) (hM : MK l y cy nY d ci k ms fs F) (hv : b + n = v) (he : E n = .inr (ci, fs)) (hK : KC y cy nY none 0) (hlk : Cond.methodLink own idx y ∈ lwG) (him : Cond.instanceMethod y ∈ lwG) (hnm : y.name = "<init>") (hk : 1 ≤ k) (hd : d + 1 ≤ R.frames ∧ 41 * (d + 1) ≤ R.locals) (hl : ls.size = nL) (hw : (rest.map fun v => v.category).sum ≤ 8) (hc : cells + (k - 1) ≤ R.cells ∧ slots + ms ≤ R.slots) (hdg : decode cc pc = .ok (.invokespecial idx, 3))
    (kk : ∀ (H1 : Heap) (locs1 : List Loc), GH D b (n + k) (eC n (F ca v) E) s H1 locs1 → W p l e R s m args below meth c H1 locs1 (cells + (k - 1)) (slots + ms) Q (F0 m (pc + 3) ls rest)) : W p l e R s m args below meth c H locs cells slots Q (F0 m pc ls (.ref v :: rest)) := by
  subst hv
  exact G_initC (y := y) (cy := cy) (nY := nY) (d := d) (ci := ci) (fs := fs) G rfl hk (va_runI (As := []) (rest := rest) (n := 0) ⟨C.x, C.cd, C.ml, C.ow, C.ts⟩ (hM D ca (b + n)) (cwI 0 C.ts (wsG_good hK.1) rfl rfl rfl (C.ts _ hK.2.1) (C.ts _ hlk) (C.ts _ him) hnm ⟨hK.2.2.2.1, hK.2.2.2.2.1, hK.2.2.2.2.2.1⟩ ⟨hd.1, by show 8 + (nY + 11) + 41 * d ≤ _; have := hK.2.2.2.2.2.2; omega⟩) (G_pre C G he) rfl rfl hl rfl (lv_room hw) hdg hc) kk
theorem G_initN {y : MethodName} {cy : ByteArray} {nY d ci k ms idx v : Nat} {fs : List Value} {F : (FieldType → ClassId) → Nat → Nat → va_E} (C : GX own cc nL p R s m args c D ca) (G : GH D b (n + 1) E s H locs) (hM : MK l y cy nY d ci k ms fs F) (hv : b + n = v) (he : E n = .inr (ci, fs)) (hK : KC y cy nY none 0) (hlk : va_Nw (.methodLinkNest own idx y "GallRegister") s) (him : Cond.instanceMethod y ∈ lwG) (hnm : y.name = "<init>") (hk : 1 ≤ k) (hd : d + 1 ≤ R.frames ∧ 41 * (d + 1) ≤ R.locals) (hl : ls.size = nL) (hw : (rest.map fun v => v.category).sum ≤ 8) (hc : cells + (k - 1) ≤ R.cells ∧ slots + ms ≤ R.slots) (hdg : decode cc pc = .ok (.invokespecial idx, 3))
    (kk : ∀ (H1 : Heap) (locs1 : List Loc), GH D b (n + k) (eC n (F ca v) E) s H1 locs1 → W p l e R s m args below meth c H1 locs1 (cells + (k - 1)) (slots + ms) Q (F0 m (pc + 3) ls rest)) : W p l e R s m args below meth c H locs cells slots Q (F0 m pc ls (.ref v :: rest)) := by
  subst hv
  exact G_initC (y := y) (cy := cy) (nY := nY) (d := d) (ci := ci) (fs := fs) G rfl hk (va_runIN (As := []) (rest := rest) (n := 0) ⟨C.x, C.cd, C.ml, C.ow, C.ts⟩ (hM D ca (b + n)) ⟨va_cnB 0 C.ts (wsG_good hK.1) rfl rfl rfl hlk (C.ts _ hK.2.1) ⟨hK.2.2.2.1, hK.2.2.2.2.1, hK.2.2.2.2.2.1⟩ ⟨hd.1, by show 8 + (nY + 11) + 41 * d ≤ _; have := hK.2.2.2.2.2.2; omega⟩, hnm, C.ts _ him⟩ (G_pre C G he) rfl rfl hl rfl (lv_room hw) hdg hc) kk
end GINIT
