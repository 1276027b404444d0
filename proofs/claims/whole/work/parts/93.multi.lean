/-! MAKING a row of rows: what stands after i of its rows -/
def oF (h i : Nat) : Nat → Value := fun j => if j < i then .ref (h + 1 + j) else .null
theorem oF_0 (h : Nat) : oF h 0 = fun _ => Value.null := funext fun j => if_neg (Nat.not_lt_zero j)
theorem oF_S (h i : Nat) : updV (oF h i) i (.ref (h + 1 + i)) = oF h (i + 1) := by
  funext j
  unfold updV oF
  by_cases q : j = i
  · subst q; rw [if_pos rfl, if_pos (Nat.lt_succ_self j)]
  · rw [if_neg q]
    by_cases q2 : j < i
    · rw [if_pos q2, if_pos (by omega)]
    · rw [if_neg q2, if_neg (by omega)]
/-- the heap so far -/
def GR (T0 T1 : State) (cA cI : ClassId) (N M i : Nat) : Prop :=
  T1.heap.size = T0.heap.size + 1 + i ∧ T1.heap[T0.heap.size]? = some (arrV cA N (oF T0.heap.size i)) ∧ (∀ j, j < i → T1.heap[T0.heap.size + 1 + j]? = some (arrV cI M (fun _ => .int 0))) ∧ (∀ q, q < T0.heap.size → T1.heap[q]? = T0.heap[q]?) ∧ T1.vm = T0.vm
theorem GR.next {T0 T1 : State} {cA cI : ClassId} {N M i : Nat} (h : GR T0 T1 cA cI N M i) : GR T0 ((T1.pushCell (arrV cI M (fun _ => .int 0))).setCell T0.heap.size ((arrV cA N (oF T0.heap.size i)).setSlot i (.ref (T0.heap.size + 1 + i)))) cA cI N M (i + 1) := by
  obtain ⟨h1, h2, h3, h4, h5⟩ := h
  have hp : ∀ q, q < T1.heap.size → (T1.pushCell (arrV cI M (fun _ => .int 0))).heap[q]? = T1.heap[q]? := fun q hq => by
    show (T1.heap.push _)[q]? = _
    rw [Array.getElem?_push, if_neg (Nat.ne_of_lt hq)]
  have hn : (T1.pushCell (arrV cI M (fun _ => .int 0))).heap[T1.heap.size]? = some (arrV cI M (fun _ => .int 0)) := by
    show (T1.heap.push _)[T1.heap.size]? = _
    rw [Array.getElem?_push_size]
  refine ⟨?_, ?_, fun j hj => ?_, fun q hq => ?_, h5⟩
  · show (Array.setIfInBounds (T1.heap.push _) _ _).size = _
    rw [Array.size_setIfInBounds, Array.size_push, h1]
    omega
  · rw [State.heap_setCell_self (c := arrV cA N (oF T0.heap.size i)) (by rw [hp _ (by omega)]; exact h2), arrV_store, oF_S]
  · rw [State.heap_setCell_other (show T0.heap.size ≠ T0.heap.size + 1 + j by omega)]
    by_cases q : j < i
    · rw [hp _ (by omega)]; exact h3 j q
    · have : T0.heap.size + 1 + j = T1.heap.size := by omega
      rw [this]; exact hn
  · rw [State.heap_setCell_other (show T0.heap.size ≠ q by omega), hp _ (by omega)]
    exact h4 q hq
/-- the state when i of its rows are made -/
def mS (T : State) (cA cI : ClassId) (N M : Nat) : Nat → State
  | 0 => T.pushCell (arrV cA N (oF T.heap.size 0))
  | i + 1 => ((mS T cA cI N M i).pushCell (arrV cI M (fun _ => .int 0))).setCell T.heap.size ((arrV cA N (oF T.heap.size i)).setSlot i (.ref (T.heap.size + 1 + i)))
theorem mS_GR (T : State) (cA cI : ClassId) (N M : Nat) : ∀ i, GR T (mS T cA cI N M i) cA cI N M i
  | 0 => by
    refine ⟨?_, ?_, fun j hj => absurd hj (Nat.not_lt_zero j), fun q hq => ?_, rfl⟩
    · show (T.heap.push _).size = _
      rw [Array.size_push]
    · show (T.heap.push _)[T.heap.size]? = _
      rw [Array.getElem?_push_size]
    · show (T.heap.push _)[q]? = _
      rw [Array.getElem?_push, if_neg (Nat.ne_of_lt hq)]
  | i + 1 => (mS_GR T cA cI N M i).next
theorem mS_used (T : State) (cA cI : ClassId) (N M : Nat) : ∀ i, (mS T cA cI N M i).slotsUsed = T.slotsUsed + (N + i * M)
  | 0 => by
    show T.slotsUsed + (arrV cA N (oF T.heap.size 0)).slots.size = _
    rw [arrV_size, Nat.zero_mul, Nat.add_zero]
  | i + 1 => by
    show (mS T cA cI N M i).slotsUsed + (arrV cI M (fun _ => Value.int 0)).slots.size = _
    rw [arrV_size, mS_used T cA cI N M i, Nat.succ_mul]
    omega
theorem mS_old {T : State} {cA cI : ClassId} {N M i : Nat} : ((mS T cA cI N M i).pushCell (arrV cI M (fun _ => .int 0))).heap[T.heap.size]? = some (arrV cA N (oF T.heap.size i)) := by
  have h := mS_GR T cA cI N M i
  show ((mS T cA cI N M i).heap.push _)[T.heap.size]? = _
  rw [Array.getElem?_push, if_neg (by have := h.1; omega)]
  exact h.2.1
section MULTI
variable {p : Program} {l : Launch} {e : Env} {R : Room} {s : State} {m : MethodId} {args : Array Value} {below : List Frame} {meth : Method} {c : Code} {T : State} {locs : List Loc} {cells slots : Nat}
theorem mS_stand (X : Stand p l e R s m args below meth c T locs cells slots) (cA cI : ClassId) (N M : Nat) : ∀ i, ∃ L : List Loc, (∀ q ∈ L, q.base = T.heap.size) ∧ Stand p l e R s m args below meth c (mS T cA cI N M i) (locs ++ L) (cells + 1 + i) (slots + N + i * M)
  | 0 => ⟨[], fun q h => absurd h List.not_mem_nil, by
    have X0 := X.pushed (arrV cA N (oF T.heap.size 0))
    rw [arrV_size] at X0
    rw [List.append_nil, Nat.zero_mul, Nat.add_zero, Nat.add_zero]
    exact X0⟩
  | i + 1 => by
    obtain ⟨L, hL, X1⟩ := mS_stand X cA cI N M i
    refine ⟨L ++ [⟨T.heap.size, i⟩], fun q hq => ?_, ?_⟩
    · rcases List.mem_append.mp hq with z | z
      · exact hL q z
      · rw [List.mem_singleton.mp z]
    · have X2 := (X1.pushed (arrV cI M (fun _ => .int 0))).stored mS_old i (.ref (T.heap.size + 1 + i))
      rw [arrV_size, List.append_assoc] at X2
      rw [show slots + N + (i + 1) * M = slots + N + i * M + M by rw [Nat.succ_mul]; omega]
      exact X2
end MULTI
theorem mk_rows {K : CtlPost} {e : Env} {T : State} {d : Bool} {acts : List Action} {g : JFrame} {cA cI c0 : ClassId} {kA kC : Class} {n k : Int32} {N M : Nat} (hk : T.vm.classes[cA]? = some kA) (hkA : kA.kind = .array cI (.array .int)) (hkc : T.vm.classes[cI]? = some kC) (hkC : kC.kind = .array c0 .int) (hn : ¬ n < 0) (hm : ¬ k < 0) (hN : n.toNatClampNeg = N) (hM : k.toNatClampNeg = M)
    (l1 : ¬ N > e.platform.arrayLengthLimit) (l2 : ¬ M > e.platform.arrayLengthLimit) (b1 : ¬ N * 4 > e.platform.maxHeapBytes) (b2 : ¬ M * 4 > e.platform.maxHeapBytes) (hc : T.heap.size + (1 + N) ≤ e.platform.maxCells) (hs : T.slotsUsed + (N + N * M) ≤ e.platform.maxSlots) {Q : Addr → Pre}
    (hq : ∀ (d' : Bool) (acts' : List Action), Q T.heap.size d' acts' ((mS T cA cI N M N).setTop g)) :
    wp (multianewarray.make cA [n, k]) Q K e d acts (T.setTop g) := by
  subst hN
  subst hM
  have hnone : ([k].find? (· < 0)) = none := by simp [hm]
  rw [multianewarray.make]
  simp only [wp_bind', W.ite, hn, if_false, wp_pure', W.theClass, State.vm_setTop, hk, hkA, Option.some.injEq, exists_eq_left']
  refine W.newArray_of (k := kA) (comp := cI) (type := .array .int) hk hkA l1 b1 (by show T.heap.size < _; omega) (by show T.slotsUsed + _ ≤ _; have := Nat.zero_le (n.toNatClampNeg * k.toNatClampNeg); omega) rfl (fun a1 => ?_)
  simp only [hnone]
  rw [ite_self, wp_bind', Std.Legacy.Range.forIn_eq_forIn_range']
  have hsz : ([:n.toNatClampNeg] : Std.Legacy.Range).size = n.toNatClampNeg := by simp [Std.Legacy.Range.size]
  rw [hsz]
  have e0 : ({ cls := cA, slots := Array.replicate n.toNatClampNeg .null } : Cell) = arrV cA n.toNatClampNeg (oF T.heap.size 0) := by rw [oF_0, ← arrV_new]
  rw [e0]
  show wp (forIn (List.range' 0 n.toNatClampNeg 1) PUnit.unit _) _ K e d a1 ((mS T cA cI n.toNatClampNeg k.toNatClampNeg 0).setTop g)
  refine wp_forIn_inv (fun rest s' => ∃ i : Nat, i ≤ n.toNatClampNeg ∧ rest = List.range' i (n.toNatClampNeg - i) ∧ s' = (mS T cA cI n.toNatClampNeg k.toNatClampNeg i).setTop g) _ _ ⟨0, Nat.zero_le _, rfl, rfl⟩ ?_ ?_
  · rintro x rest s' d' acts' Q' ⟨i, hi, hl, rfl⟩ hnext
    have hlt : i < n.toNatClampNeg := by
      rcases Nat.lt_or_ge i n.toNatClampNeg with q | q
      · exact q
      · rw [show n.toNatClampNeg - i = 0 by omega] at hl
        cases hl
    rw [show n.toNatClampNeg - i = (n.toNatClampNeg - (i + 1)) + 1 by omega, List.range'_succ] at hl
    obtain ⟨rfl, rfl⟩ := List.cons.inj hl
    have hmul : x * k.toNatClampNeg + k.toNatClampNeg ≤ n.toNatClampNeg * k.toNatClampNeg := by
      have h9 := Nat.mul_le_mul_right k.toNatClampNeg (show x + 1 ≤ n.toNatClampNeg from hlt)
      rw [Nat.succ_mul] at h9
      exact h9
    have hU := mS_used T cA cI n.toNatClampNeg k.toNatClampNeg x
    have hold := mS_old (T := T) (cA := cA) (cI := cI) (N := n.toNatClampNeg) (M := k.toNatClampNeg) (i := x)
    have g1 := (mS_GR T cA cI n.toNatClampNeg k.toNatClampNeg x).1
    have g5 := (mS_GR T cA cI n.toNatClampNeg k.toNatClampNeg x).2.2.2.2
    have hn2 := hnext ((mS T cA cI n.toNatClampNeg k.toNatClampNeg (x + 1)).setTop g)
    rw [mS, ← g1] at hn2
    generalize hT1 : mS T cA cI n.toNatClampNeg k.toNatClampNeg x = T1 at hU hold g1 g5 hn2
    simp only [wp_bind']
    rw [multianewarray.make]
    simp only [wp_bind', W.ite, hm, if_false, wp_pure', W.theClass, State.vm_setTop, g5, hkc, hkC, Option.some.injEq, exists_eq_left']
    refine W.newArray_of (k := kC) (comp := c0) (type := .int) (by rw [State.vm_setTop, g5]; exact hkc) hkC l2 b2 (by show T1.heap.size < _; omega) (by show T1.slotsUsed + _ ≤ _; omega) rfl (fun a2 => ?_)
    have e2 : ({ cls := cI, slots := Array.replicate k.toNatClampNeg (defaultValue .int) } : Cell) = arrV cI k.toNatClampNeg (fun _ => .int 0) := by rw [← arrV_new]; rfl
    rw [e2]
    simp only [wp_bind', W.writeLoc, wp_pure', State.heap_setTop, State.pushCell_setTop]
    refine ⟨arrV cA n.toNatClampNeg (oF T.heap.size x), hold, fun z => (by cases z), by rw [arrV_size]; exact hlt, ?_, ?_⟩
    · show State.fitsSlot _ cA .none x _ = true
      simp [State.fitsSlot, State.slotType?, g5, hk, hkA, fits]
    · rw [State.setCell_setTop]
      exact hn2 _ _ ⟨x + 1, hlt, rfl, by rw [mS, hT1, g1]⟩
  · rintro s' d' acts' ⟨i, hi, hl, rfl⟩
    have hiN : i = n.toNatClampNeg := by
      rcases Nat.lt_or_ge i n.toNatClampNeg with q | q
      · rw [show n.toNatClampNeg - i = (n.toNatClampNeg - (i + 1)) + 1 by omega, List.range'_succ] at hl
        cases hl
      · omega
    subst hiN
    simp only [wp_pure']
    exact hq d' acts'

section MNEW
variable {p : Program} {l : Launch} {e : Env} {R : Room} {s : State} {m : MethodId} {args : Array Value} {below : List Frame} {meth : Method} {c : Code} {H : Heap} {locs : List Loc} {cells slots : Nat} {Q : State → Prop}
variable {cc : ByteArray} {pc nL : Nat} {ls : Array Slot} {rest : List Value} {D : va_G} {ca : FieldType → ClassId} {own : String} {b n : Nat} {E : Nat → va_E}
def eM (n N : Nat) (o i0 : va_E) (E : Nat → va_E) : Nat → va_E := fun i => if i < n then E i else if i = n then o else i0
theorem G_mnew {idx : Nat} (C : GX own cc nL p R s m args c D ca) (G : GH D b n E s H locs) (hlk : Cond.classLink own idx "[[I" ∈ lwG) {v w : Int32} {N M : Nat} (hn : ¬ v < 0) (hm : ¬ w < 0) (hN : v.toNatClampNeg = N) (hM : w.toNatClampNeg = M) (l1 : N ≤ 1000) (l2 : M ≤ 1000) (hc : cells + (1 + N) ≤ R.cells) (hs : slots + (N + N * M) ≤ R.slots) (hdg : decode cc pc = .ok (.multianewarray idx 2, 4))
    (kk : ∀ (H1 : Heap) (locs1 : List Loc), GH D b (n + (1 + N)) (eM n N (.inl (ca (.array .int), N, .inr (.inr (.inr (.inr (fun j => some (b + n + 1 + j))))))) (.inl (ca .int, M, .inl (fun _ => 0))) E) s H1 locs1 → W p l e R s m args below meth c H1 locs1 (cells + (1 + N)) (slots + (N + N * M)) Q (F0 m (pc + 4) ls (.ref (b + n) :: rest))) : W p l e R s m args below meth c H locs cells slots Q (F0 m pc ls (.int w :: .int v :: rest)) := by
  intro T hT X
  subst hT
  have hb := C.cd
  subst hb
  obtain ⟨-, -, kA, kC, c0, a1, a2, a3, a4⟩ := C.a
  have hfA : s.vm.findClass "[[I" = some (ca (.array .int)) := (C.K.2 6 _ rfl).2
  have hpl : e.platform.magicAccessors = ({} : Platform).magicAccessors := by rw [X.admits.platform]
  obtain ⟨cx, hfx, hcl⟩ := Cond.classLink_spec C.ow (C.ts _ hlk) e.platform hpl
  cases hfA.symm.trans hfx
  obtain ⟨hg1, hw1, hr1⟩ := State.classEntry (e := e) X.warmed hcl
  generalize T.vm.noted m.cls idx (.cls (ca (.array .int))) = vm1 at hg1 hw1 hr1
  have hal : s.vm.Alike vm1 := hw1.alike
  obtain ⟨kA1, hkA, eA⟩ := hal.2.2 _ _ a1
  obtain ⟨kC1, hkC, eC0⟩ := hal.2.2 _ _ a3
  have X1 := X.noted hw1
  obtain ⟨r1, r2⟩ := X.roomAbove hc hs
  have l1' : ¬ N > e.platform.arrayLengthLimit := by rw [Launch.admits_arrayLengthLimit X.admits]; omega
  have l2' : ¬ M > e.platform.arrayLengthLimit := by rw [Launch.admits_arrayLengthLimit X.admits]; omega
  have b1' : ¬ N * 4 > e.platform.maxHeapBytes := by rw [Launch.admits_maxHeapBytes X.admits]; omega
  have b2' : ¬ M * 4 > e.platform.maxHeapBytes := by rw [Launch.admits_maxHeapBytes X.admits]; omega
  have X1s := X1
  obtain ⟨L, hL, X9⟩ := mS_stand X1s (ca (.array .int)) (ca .int) N M N
  have hG := mS_GR (T.setVm vm1) (ca (.array .int)) (ca .int) N M N
  have key : ∀ (T1 : State), Stand p l e R s m args below meth c T1 (locs ++ L) (cells + 1 + N) (slots + N + N * M) → (∀ q ∈ L, q.base = T.heap.size) → GR (T.setVm vm1) T1 (ca (.array .int)) (ca .int) N M N → ∃ t, Steps p.tables e below (T1.setTop (F0 m (pc + 4) ls (.ref T.heap.size :: rest))) t ∧ Q t := by
    intro T1 X9 hL hG
    have hsz : T.heap.size = b + n := G.2.2
    obtain ⟨g1, g2, g3, g4, g5⟩ := hG
    have g1 : T1.heap.size = T.heap.size + 1 + N := g1
    have g2 : T1.heap[T.heap.size]? = some (arrV (ca (.array .int)) N (oF T.heap.size N)) := g2
    have g3 : ∀ j, j < N → T1.heap[T.heap.size + 1 + j]? = some (arrV (ca .int) M (fun _ => .int 0)) := g3
    have g4 : ∀ q, q < T.heap.size → T1.heap[q]? = T.heap[q]? := g4
    have hgh : GH D b (n + (1 + N)) (eM n N (.inl (ca (.array .int), N, .inr (.inr (.inr (.inr (fun j => some (b + n + 1 + j))))))) (.inl (ca .int, M, .inl (fun _ => 0))) E) s T1.heap (locs ++ L) := by
      refine ⟨WL_P (fun i hi => ?_), ⟨?_, fun q hq1 hq2 => ?_, fun q hq => ?_⟩, by omega⟩
      · unfold eM
        by_cases q : i < n
        · rw [if_pos q]
          exact (WL_at G.1 q).kept (g4 (b + i) (by omega))
        · rw [if_neg q]
          by_cases q2 : i = n
          · rw [if_pos q2]
            subst q2
            show T1.heap[b + i]? = some (vp_cell _ _)
            rw [vp_cell_q, ← hsz, g2]
            congr 1
            unfold arrV
            congr 1
            apply Array.ext
            · simp
            · intro j h1 h2
              have hj : j < N := by simpa using h1
              simp [oF, hj, va_rf]
          · rw [if_neg q2]
            have := g3 (i - n - 1) (by omega)
            rw [hsz, show b + n + 1 + (i - n - 1) = b + i by omega] at this
            exact this
      · have := G.2.1.1; omega
      · have h0 := G.2.1.1
        exact (g4 q (by omega)).trans (G.2.1.2.1 q hq1 hq2)
      · rcases List.mem_append.mp hq with z | z
        · exact G.2.1.2.2 q z
        · show b ≤ q.base
          rw [hL q z]; omega
    have k9 := kk T1.heap (locs ++ L) hgh T1 rfl
    rw [← hsz] at k9
    exact k9 (by rw [show cells + (1 + N) = cells + 1 + N by omega, show slots + (N + N * M) = slots + N + N * M by omega]; exact X9)
  obtain ⟨t, h1, h2⟩ := key _ X9 hL hG
  refine ⟨t, ?_, h2⟩
  jvm_step X.here [C.x, hdg]
  simp only [multianewarray.sem, wp_bind', W.resolveClassAt_links (State.method?_setTop (F0 m pc ls (.int w :: .int v :: rest)) X.here.top) hg1]
  rw [W.popN, if_neg (by decide)]
  refine ⟨F0 m pc ls (.int w :: .int v :: rest), State.topJava?_setTop' (s := T.setVm vm1) _ X.here.top, [.int v, .int w], rest, rfl, rfl, ?_⟩
  simp only [List.mapM_cons, List.mapM_nil, wp_bind', wp_pure']
  have eS : ((T.setTop (F0 m pc ls (.int w :: .int v :: rest))).setVm vm1).setTop { F0 m pc ls (.int w :: .int v :: rest) with stack := rest } = (T.setVm vm1).setTop (F0 m pc ls rest) := by
    show ((T.setVm vm1).setTop _).setTop _ = _
    rw [State.setTop_setTop]
  rw [eS]
  refine mk_rows (T := T.setVm vm1) (kA := kA1) (kC := kC1) (c0 := c0) (N := N) (M := M) hkA (by rw [eA]; exact a2) hkC (by rw [eC0]; exact a4) hn hm hN hM l1' l2' b1' b2' r1 r2 (fun d' acts' => ?_)
  simp only [wp_bind', W.mark, W.pushRef, State.topJava?_setTop' _ X9.here.top, Option.some.injEq, exists_eq_left', State.setTop_setTop, State.heap_setTop]
  intro acts
  simp [jvm, X9.here.top]
  exact h1
end MNEW
