/-! FRESH: what stands at the start -/
def X00 : CST := (zB, fun _ _ _ => 0, fun _ => 0, (0, 0, -1), fun _ => zB, fun _ => 0)
theorem GB_z : GB zB := ⟨DB_z.1, DB_z.2.1, (by decide : (0 : Int) ≤ 30), fun _ => ⟨rfl, rfl, rfl, rfl, rfl⟩⟩
theorem no_i {i : Int} (h : 0 ≤ i ∧ i < 0) : False := by omega
theorem fresh_C {L : Nat} {xs : Nat → Int32} : CRl (σI L xs) X00 := by
  have z : ∀ {t : Nat} {k j : Int}, 3 ≤ t → t < 34 → σI L xs t k j = 0 := fun h1 h2 => σI_0 (by omega) (by omega) (by omega) (by omega) (by omega)
  refine ⟨⟨⟨⟨z (by decide) (by decide), z (by decide) (by decide), z (by decide) (by decide), z (by decide) (by decide), z (by decide) (by decide), z (by decide) (by decide), z (by decide) (by decide), z (by decide) (by decide)⟩, fun i hi => (no_i hi).elim, fun i hi => (no_i hi).elim, fun i hi => (no_i hi).elim, fun i hi => (no_i hi).elim⟩, GB_z, fun y hy => ?_⟩, fun k hk => ?_, ⟨rfl, ⟨Int.le_refl 0, (by decide : (0 : Int) ≤ 700)⟩, fun x hx => (no_i hx).elim⟩, ⟨rfl, rfl, ⟨Int.le_refl 0, (by decide : (0 : Int) ≤ 3)⟩, ⟨Int.le_refl (-1), (by decide : (-1 : Int) ≤ 700)⟩⟩, fun k hk => ⟨z (by decide) (by decide), Or.inl rfl⟩⟩
  · have e0 : σI L xs 21 0 (y : Int) = 0 := z (by decide) (by decide)
    have p7 : (0 : Int) < p2 7 := by decide
    refine ⟨by rw [e0]; exact ⟨Int.le_refl 0, p7⟩, fun e he => (no_i he).elim, fun e h1 h2 => ?_⟩
    unfold RS
    rw [if_neg (by decide), if_neg (by decide), e0]
    unfold bt
    rw [Int.zero_ediv]; rfl
  · exact ⟨z (by decide) (by decide), Or.inl rfl, fun q => absurd (show (0 : Int) = 1 from q) (by decide)⟩
theorem fresh_M {L : Nat} {xs : Nat → Int32} : MRl (σI L xs) X00 := by
  have z : ∀ {t : Nat} {k j : Int}, 36 ≤ t → t < 54 → σI L xs t k j = 0 := fun h1 h2 => σI_0 (by omega) (by omega) (by omega) (by omega) (by omega)
  refine ⟨⟨⟨z (by decide) (by decide), z (by decide) (by decide), z (by decide) (by decide), z (by decide) (by decide), z (by decide) (by decide), z (by decide) (by decide), z (by decide) (by decide), z (by decide) (by decide)⟩, fun i hi => (no_i hi).elim, fun i hi => (no_i hi).elim, fun i hi => (no_i hi).elim, fun i hi => (no_i hi).elim⟩, fun k hk => Or.inl ⟨rfl, rfl⟩, ⟨rfl, fun x hx => (no_i hx).elim⟩, ⟨rfl, rfl⟩, fun k hk => ⟨z (by decide) (by decide), fun q => absurd (show (0 : Int) = 1 from q) (by decide)⟩⟩
theorem W.post {p : Program} {l : Launch} {e : Env} {R : Room} {s : State} {m : MethodId} {args : Array Value} {below : List Frame} {meth : Method} {c : Code} {H : Heap} {locs : List Loc} {cells slots : Nat} {Z Z' : State → Prop} {g : JFrame} (hz : ∀ t, Z t → Z' t) (h : W p l e R s m args below meth c H locs cells slots Z g) : W p l e R s m args below meth c H locs cells slots Z' g := fun T hT X => by
  obtain ⟨t, a, b⟩ := h T hT X
  exact ⟨t, a, hz t b⟩
theorem EE_of {D : va_G} {ca : FieldType → ClassId} {b n : Nat} {E : Nat → va_E} {s : State} {H : Heap} {locs : List Loc} (G : GH D b 241 E s H locs) (hE : ∀ i, i < 241 → E i = EE ca b i) : HAll D ca b H := fun i hi => by
  rw [← hE i hi]
  exact WL_at G.1 hi
