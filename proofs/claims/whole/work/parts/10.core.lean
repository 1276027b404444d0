/-! CORE: a world of objects by kind and number (a tag, an instance), its contents as two functions, and a judgement V over it -/
abbrev AV : Type := Int ⊕ Int ⊕ (Nat × Int) ⊕ Value
abbrev ADD : Type := Nat → Nat → Nat
abbrev MM : Type := Nat → Int → Int → Int
abbrev vI (x : Int) : AV := .inl x
abbrev vL (x : Int) : AV := .inr (.inl x)
abbrev vR (t : Nat) (k : Int) : AV := .inr (.inr (.inl (t, k)))
abbrev vV (v : Value) : AV := .inr (.inr (.inr v))
def iN (z : Int) : Int32 := Int32.ofInt z
def lI (z : Int) : Int64 := Int64.ofInt z
def cv (ad : ADD) : AV → Value
  | .inl z => .int (iN z)
  | .inr (.inl z) => .long (lI z)
  | .inr (.inr (.inl x)) => .ref (ad x.1 x.2.toNat)
  | .inr (.inr (.inr v)) => v
def avc : AV → Nat
  | .inl _ => 1
  | .inr (.inl _) => 2
  | .inr (.inr (.inl _)) => 1
  | .inr (.inr (.inr v)) => v.category
theorem avc_cv (ad : ADD) (a : AV) : (cv ad a).category = avc a := by
  rcases a with _ | _ | _ | _ <;> rfl
abbrev SH : Type := Nat × Nat × FieldType × (Int → Int → Nat × Int) × List (Nat ⊕ (Int → Nat × Int))
def shI (n : Nat) : SH := (0, n, .int, fun _ _ => (0, 0), [])
def shB (n : Nat) : SH := (0, n, .byte, fun _ _ => (0, 0), [])
def shZ (n : Nat) : SH := (0, n, .boolean, fun _ _ => (0, 0), [])
def shJ (n : Nat) : SH := (1, n, .long, fun _ _ => (0, 0), [])
def shA (n : Nat) (ty : FieldType) (g : Int → Int → Nat × Int) : SH := (2, n, ty, g, [])
def shO (ci : Nat) (fs : List (Nat ⊕ (Int → Nat × Int))) : SH := (3, ci, .int, fun _ _ => (0, 0), fs)
abbrev fI : Nat ⊕ (Int → Nat × Int) := .inl 0
abbrev fL : Nat ⊕ (Int → Nat × Int) := .inl 1
abbrev fS (t : Nat) : Nat ⊕ (Int → Nat × Int) := .inr (fun k => (t, k))
abbrev fC (t : Nat) (k : Int) : Nat ⊕ (Int → Nat × Int) := .inr (fun _ => (t, k))
def shpL : List (Nat × SH) := [
  (1, shO 5 [fC 1 0, fC 3 0, fC 3 1, fC 3 2, fC 18 0, fC 18 1, fC 24 0, fC 25 0, fC 26 0, fC 29 0, fC 31 0, fC 32 0, fC 33 0, fI, fI]),
  (1, shO 3 [fC 2 0, fI, fI, fI, fI, fI, fI, fI]),
  (1, shB 700),
  (6, shO 1 [fI, fI, fI, fI, fI, fI, fI, fS 4, fS 5, fS 6, fS 7, fS 8, fS 9, fS 10, fS 11, fS 12, fS 13, fS 14]),
  (6, shI 4), (6, shI 4), (6, shI 4), (6, shI 4),
  (6, shI 7), (6, shI 7), (6, shI 7), (6, shI 7), (6, shI 7), (6, shI 7),
  (6, shO 0 [fS 15, fS 16, fS 17, fI]),
  (6, shI 40), (6, shI 40), (6, shI 40),
  (2, shO 2 [fS 19, fS 20, fS 21]),
  (2, shA 21 (.array .int) (fun k i => (22, 21 * k + i))),
  (2, shA 21 (.array .int) (fun k i => (23, 21 * k + i))),
  (2, shI 21),
  (42, shI 7), (42, shI 7),
  (1, shA 3 (.object "GallRegister$Book") (fun _ i => (3, 3 + i))),
  (1, shZ 3),
  (1, shA 4 (.object "GallRegister$Row") (fun _ i => (27, i))),
  (4, shO 4 [fS 28, fI, fI, fI]),
  (4, shJ 60),
  (1, shA 21 (.array .int) (fun _ i => (30, i))),
  (21, shI 21),
  (1, shI 61), (1, shI 4), (1, shI 4),
  (1, shO 6 [fI, fC 35 0, fC 36 0, fC 37 0, fC 38 0, fC 39 0, fI, fI, fI, fI, fI, fL, fI, fI, fI, fI, fC 40 0, fC 41 0, fC 42 0, fC 43 0, fC 44 0, fC 45 0, fC 46 0, fI, fI, fI, fI, fI, fI, fI, fI, fC 47 0, fC 48 0, fC 49 0, fC 50 0, fC 51 0, fC 52 0, fI, fI, fI, fC 53 0]),
  (1, shI 4), (1, shI 4), (1, shJ 240), (1, shJ 60), (1, shB 700),
  (1, shI 5), (1, shI 35), (1, shI 60), (1, shI 20), (1, shI 140), (1, shI 600), (1, shZ 3),
  (1, shI 7), (1, shI 7), (1, shI 4), (1, shI 147), (1, shZ 147), (1, shI 7), (1, shI 1281)]
def cnt (t : Nat) : Nat := (shpL.getD t (0, shI 0)).1
def shp (t : Nat) : SH := (shpL.getD t (0, shI 0)).2
theorem cnt_lt {t k : Nat} (h : k < cnt t) : t < 54 := by
  rcases Nat.lt_or_ge t 54 with q | q
  · exact q
  · have e : cnt t = 0 := by
      unfold cnt
      rw [List.getD_eq_getElem?_getD, List.getElem?_eq_none (show shpL.length ≤ t from q)]
      rfl
    omega
def fv (ad : ADD) (σ : MM) (t k j : Nat) : Nat ⊕ (Int → Nat × Int) → Value
  | .inl 0 => .int (iN (σ t k j))
  | .inl (_ + 1) => .long (lI (σ t k j))
  | .inr g => .ref (ad (g k).1 (g k).2.toNat)
def fvs (ad : ADD) (σ : MM) (t k : Nat) : Nat → List (Nat ⊕ (Int → Nat × Int)) → List Value
  | _, [] => []
  | j, f :: r => fv ad σ t k j f :: fvs ad σ t k (j + 1) r
theorem fvs_get (ad : ADD) (σ : MM) (t k : Nat) : ∀ (fs : List (Nat ⊕ (Int → Nat × Int))) (o j : Nat), (fvs ad σ t k o fs)[j]? = (fs[j]?).map (fun f => fv ad σ t k (o + j) f)
  | [], o, j => by simp [fvs]
  | f :: r, o, 0 => by simp [fvs]
  | f :: r, o, j + 1 => by
    show (fvs ad σ t k (o + 1) r)[j]? = (r[j]?).map _
    rw [fvs_get ad σ t k r (o + 1) j, show o + 1 + j = o + (j + 1) by omega]
theorem fvs_len (ad : ADD) (σ : MM) (t k : Nat) : ∀ (fs : List (Nat ⊕ (Int → Nat × Int))) (o : Nat), (fvs ad σ t k o fs).length = fs.length
  | [], o => rfl
  | f :: r, o => by
    show (fvs ad σ t k (o + 1) r).length + 1 = r.length + 1
    rw [fvs_len ad σ t k r (o + 1)]
def en (ca : FieldType → ClassId) (ad : ADD) (σ : MM) (t k : Nat) : va_E :=
  match shp t with
  | (0, n, ty, _, _) => .inl (ca ty, n, .inl (fun j => iN (σ t k j)))
  | (1, n, ty, _, _) => .inl (ca ty, n, .inr (.inl (fun j => lI (σ t k j))))
  | (2, n, ty, g, _) => .inl (ca ty, n, .inr (.inr (.inr (.inr (fun i => some (ad (g k i).1 (g k i).2.toNat))))))
  | (_, ci, _, _, fs) => .inr (ci, fvs ad σ t k 0 fs)
theorem en_p {ca : FieldType → ClassId} {ad : ADD} {σ : MM} {t k n : Nat} {ty : FieldType} {g : Int → Int → Nat × Int} {r : List (Nat ⊕ (Int → Nat × Int))} (h : shp t = (0, n, ty, g, r)) : en ca ad σ t k = .inl (ca ty, n, .inl (fun j => iN (σ t k j))) := by unfold en; rw [h]; rfl
theorem en_j {ca : FieldType → ClassId} {ad : ADD} {σ : MM} {t k n : Nat} {ty : FieldType} {g : Int → Int → Nat × Int} {r : List (Nat ⊕ (Int → Nat × Int))} (h : shp t = (1, n, ty, g, r)) : en ca ad σ t k = .inl (ca ty, n, .inr (.inl (fun j => lI (σ t k j)))) := by unfold en; rw [h]; rfl
theorem en_a {ca : FieldType → ClassId} {ad : ADD} {σ : MM} {t k n : Nat} {ty : FieldType} {g : Int → Int → Nat × Int} (h : shp t = shA n ty g) : en ca ad σ t k = .inl (ca ty, n, .inr (.inr (.inr (.inr (fun i => some (ad (g k i).1 (g k i).2.toNat)))))) := by unfold en; rw [h]; rfl
theorem en_o {ca : FieldType → ClassId} {ad : ADD} {σ : MM} {t k ci : Nat} {fs : List (Nat ⊕ (Int → Nat × Int))} (h : shp t = shO ci fs) : en ca ad σ t k = .inr (ci, fvs ad σ t k 0 fs) := by unfold en; rw [h]; rfl
/-- a world's cell depends on its own contents alone -/
theorem fv_cong {ad : ADD} {σ σ' : MM} {t k j : Nat} (f : Nat ⊕ (Int → Nat × Int)) (h : σ' t k j = σ t k j) : fv ad σ' t k j f = fv ad σ t k j f := by
  cases f with
  | inl n => cases n <;> simp [fv, h]
  | inr g => rfl
theorem fvs_cong {ad : ADD} {σ σ' : MM} {t k : Nat} (h : σ' t k = σ t k) (o : Nat) (fs : List (Nat ⊕ (Int → Nat × Int))) : fvs ad σ' t k o fs = fvs ad σ t k o fs := by
  apply List.ext_getElem?
  intro j
  rw [fvs_get, fvs_get]
  congr 1
  funext f
  exact fv_cong f (by rw [h])
theorem en_cong {ca : FieldType → ClassId} {ad : ADD} {σ σ' : MM} {t k : Nat} (h : σ' t k = σ t k) : en ca ad σ' t k = en ca ad σ t k := by
  unfold en
  rw [h]
  split
  · rfl
  · rfl
  · rfl
  · rw [fvs_cong h]
def oids : List (Nat × Nat) := (List.range 54).flatMap (fun t => (List.range (cnt t)).map (fun k => (t, k)))
theorem oids_mem {t k : Nat} (hk : k < cnt t) : (t, k) ∈ oids := List.mem_flatMap.mpr ⟨t, List.mem_range.mpr (cnt_lt hk), List.mem_map.mpr ⟨k, List.mem_range.mpr hk, rfl⟩⟩
theorem mem_oids {t k : Nat} (h : (t, k) ∈ oids) : k < cnt t := by
  obtain ⟨t', -, h2⟩ := List.mem_flatMap.mp h
  obtain ⟨k', h3, h4⟩ := List.mem_map.mp h2
  cases h4
  exact List.mem_range.mp h3
theorem oids_nd : oids.Nodup := by decide +kernel
theorem oids_inj {i j : Nat} {x : Nat × Nat} (hi : oids[i]? = some x) (hj : oids[j]? = some x) : i = j := by
  have h1 := (List.getElem?_eq_some_iff.mp hi).1
  exact (List.getElem?_inj h1 oids_nd).mp (hi.trans hj.symm)
def wsW (ca : FieldType → ClassId) (ad : ADD) (σ : MM) : va_W := oids.map (fun x => (ad x.1 x.2, en ca ad σ x.1 x.2))
theorem ws_at (ca : FieldType → ClassId) (ad : ADD) (σ : MM) {t k : Nat} (hk : k < cnt t) : ∃ q0 : Nat, oids[q0]? = some (t, k) ∧ (wsW ca ad σ)[q0]? = some (ad t k, en ca ad σ t k) := by
  obtain ⟨q0, h⟩ := List.getElem?_of_mem (oids_mem hk)
  refine ⟨q0, h, ?_⟩
  unfold wsW
  rw [List.getElem?_map, h]
  rfl
theorem ws_set {ca : FieldType → ClassId} {ad : ADD} {σ σ' : MM} {t k q0 : Nat} {e : va_E} (h : oids[q0]? = some (t, k)) (he : en ca ad σ' t k = e) (ho : ∀ t' k', ¬ (t' = t ∧ k' = k) → en ca ad σ' t' k' = en ca ad σ t' k') : (wsW ca ad σ).set q0 (ad t k, e) = wsW ca ad σ' := by
  apply List.ext_getElem?
  intro i
  unfold wsW
  by_cases hi : i = q0
  · subst hi
    have hl : i < (oids.map (fun x => (ad x.1 x.2, en ca ad σ x.1 x.2))).length := by
      rw [List.length_map]; exact (List.getElem?_eq_some_iff.mp h).1
    rw [List.getElem?_set_self hl, List.getElem?_map, h, ← he]
    rfl
  · rw [List.getElem?_set_ne (fun z => hi z.symm), List.getElem?_map, List.getElem?_map]
    cases hx : oids[i]? with
    | none => rfl
    | some x =>
      obtain ⟨t', k'⟩ := x
      show some (ad t' k', en ca ad σ t' k') = some (ad t' k', en ca ad σ' t' k')
      rw [ho t' k' (fun z => hi (oids_inj (by rw [hx, z.1, z.2]) h))]
def setI (σ : MM) (t : Nat) (k j : Int) (v : Int) : MM := fun t' k' j' => if t' = t ∧ k' = k ∧ j' = j then v else σ t' k' j'
def putI (σ : MM) (t : Nat) (k : Int) (f : Int → Int) : MM := fun t' k' j' => if t' = t ∧ k' = k then f j' else σ t' k' j'
theorem setI_at (σ : MM) (t : Nat) (k j v : Int) (t' : Nat) (k' j' : Int) : setI σ t k j v t' k' j' = if t' = t ∧ k' = k ∧ j' = j then v else σ t' k' j' := rfl
theorem putI_at (σ : MM) (t : Nat) (k : Int) (f : Int → Int) (t' : Nat) (k' j' : Int) : putI σ t k f t' k' j' = if t' = t ∧ k' = k then f j' else σ t' k' j' := rfl
theorem putI_same (σ : MM) (t : Nat) (k : Int) (f : Int → Int) : putI σ t k f t k = f := by funext j; simp [putI]
theorem putI_off {σ : MM} {t : Nat} {k : Int} {f : Int → Int} {t' : Nat} {k' : Int} (h : ¬ (t' = t ∧ k' = k)) : putI σ t k f t' k' = σ t' k' := by funext j; simp [putI, h]
theorem setI_off {σ : MM} {t : Nat} {k j v : Int} {t' : Nat} {k' : Int} (h : ¬ (t' = t ∧ k' = k)) : setI σ t k j v t' k' = σ t' k' := by
  funext j'
  have : ¬ (t' = t ∧ k' = k ∧ j' = j) := fun z => h ⟨z.1, z.2.1⟩
  simp [setI, this]
theorem setI_tag {σ : MM} {t : Nat} {k j v : Int} {t' : Nat} (h : t' ≠ t) : setI σ t k j v t' = σ t' := by funext k'; exact setI_off (fun z => h z.1)
theorem putI_tag {σ : MM} {t : Nat} {k : Int} {f : Int → Int} {t' : Nat} (h : t' ≠ t) : putI σ t k f t' = σ t' := by funext k'; exact putI_off (fun z => h z.1)
theorem nat_off {t k t' k' : Nat} (h : ¬ (t' = t ∧ k' = k)) : ¬ (t' = t ∧ (k' : Int) = (k : Int)) := fun z => h ⟨z.1, Int.ofNat.inj z.2⟩
/-- an element of a row of ints is written -/
theorem ws_elI {ca : FieldType → ClassId} {ad : ADD} {σ : MM} {t k q0 n i : Nat} {ty : FieldType} {g : Int → Int → Nat × Int} {r : List (Nat ⊕ (Int → Nat × Int))} (v : Int) (h : oids[q0]? = some (t, k)) (hs : shp t = (0, n, ty, g, r)) : (wsW ca ad σ).set q0 (ad t k, .inl (ca ty, n, .inl (upd (fun j => iN (σ t k j)) i (iN v)))) = wsW ca ad (setI σ t k i v) := by
  refine ws_set h ?_ (fun t' k' z => en_cong (setI_off (nat_off z)))
  rw [en_p hs]
  congr 4
  funext j
  by_cases hj : j = i
  · subst hj; simp [upd, setI]
  · have hz : ¬ ((j : Int) = (i : Int)) := fun z => hj (Int.ofNat.inj z)
    simp [upd, setI, hj, hz]
theorem ws_elJ {ca : FieldType → ClassId} {ad : ADD} {σ : MM} {t k q0 n i : Nat} {ty : FieldType} {g : Int → Int → Nat × Int} {r : List (Nat ⊕ (Int → Nat × Int))} (v : Int) (h : oids[q0]? = some (t, k)) (hs : shp t = (1, n, ty, g, r)) : (wsW ca ad σ).set q0 (ad t k, .inl (ca ty, n, .inr (.inl (vp_updL (fun j => lI (σ t k j)) i (lI v))))) = wsW ca ad (setI σ t k i v) := by
  refine ws_set h ?_ (fun t' k' z => en_cong (setI_off (nat_off z)))
  rw [en_j hs]
  congr 5
  funext j
  by_cases hj : j = i
  · subst hj; simp [vp_updL, setI]
  · have hz : ¬ ((j : Int) = (i : Int)) := fun z => hj (Int.ofNat.inj z)
    simp [vp_updL, setI, hj, hz]
/-- a part of a row is copied -/
def cpy (f g : Int → Int) (sp dp n : Int) : Int → Int := fun k => if dp ≤ k ∧ k < dp + n then f (sp + (k - dp)) else g k
theorem ws_cpI {ca : FieldType → ClassId} {ad : ADD} {σ : MM} {t k t2 k2 q0 n sp dp m : Nat} {ty : FieldType} {g : Int → Int → Nat × Int} {r : List (Nat ⊕ (Int → Nat × Int))} (h : oids[q0]? = some (t, k)) (hs : shp t = (0, n, ty, g, r)) : (wsW ca ad σ).set q0 (ad t k, .inl (ca ty, n, .inl (va_cpy (fun j => iN (σ t2 k2 j)) (fun j => iN (σ t k j)) sp dp m))) = wsW ca ad (putI σ t k (cpy (σ t2 k2) (σ t k) sp dp m)) := by
  refine ws_set h ?_ (fun t' k' z => en_cong (putI_off (nat_off z)))
  rw [en_p hs]
  congr 4
  funext j
  rw [putI_same]
  unfold va_cpy cpy
  by_cases hj : dp ≤ j ∧ j < dp + m
  · rw [if_pos hj, if_pos (by omega)]
    exact congrArg (fun z => iN (σ t2 k2 z)) (by omega)
  · rw [if_neg hj, if_neg (by omega)]
theorem ws_cpJ {ca : FieldType → ClassId} {ad : ADD} {σ : MM} {t k t2 k2 q0 n sp dp m : Nat} {ty : FieldType} {g : Int → Int → Nat × Int} {r : List (Nat ⊕ (Int → Nat × Int))} (h : oids[q0]? = some (t, k)) (hs : shp t = (1, n, ty, g, r)) : (wsW ca ad σ).set q0 (ad t k, .inl (ca ty, n, .inr (.inl (va_cpy (fun j => lI (σ t2 k2 j)) (fun j => lI (σ t k j)) sp dp m)))) = wsW ca ad (putI σ t k (cpy (σ t2 k2) (σ t k) sp dp m)) := by
  refine ws_set h ?_ (fun t' k' z => en_cong (putI_off (nat_off z)))
  rw [en_j hs]
  congr 5
  funext j
  rw [putI_same]
  unfold va_cpy cpy
  by_cases hj : dp ≤ j ∧ j < dp + m
  · rw [if_pos hj, if_pos (by omega)]
    exact congrArg (fun z => lI (σ t2 k2 z)) (by omega)
  · rw [if_neg hj, if_neg (by omega)]
theorem fvs_setI {ad : ADD} {σ : MM} {t k j : Nat} {v : Int} {fs : List (Nat ⊕ (Int → Nat × Int))} (hj : fs[j]? = some (.inl 0)) : fvs ad (setI σ t k j v) t k 0 fs = (fvs ad σ t k 0 fs).set j (.int (iN v)) := by
  have hl := (List.getElem?_eq_some_iff.mp hj).1
  apply List.ext_getElem?
  intro i
  by_cases hi : i = j
  · subst hi
    rw [List.getElem?_set_self (by rw [fvs_len]; exact hl), fvs_get, hj]
    simp [fv, setI]
  · rw [List.getElem?_set_ne (fun z => hi z.symm), fvs_get, fvs_get]
    congr 1
    funext f
    exact fv_cong f (by have hz : ¬ ((0 + i : Nat) : Int) = (j : Int) := (by omega); simp only [setI, hz, and_false, if_false])
theorem fvs_setJ {ad : ADD} {σ : MM} {t k j : Nat} {v : Int} {fs : List (Nat ⊕ (Int → Nat × Int))} (hj : fs[j]? = some (.inl 1)) : fvs ad (setI σ t k j v) t k 0 fs = (fvs ad σ t k 0 fs).set j (.long (lI v)) := by
  have hl := (List.getElem?_eq_some_iff.mp hj).1
  apply List.ext_getElem?
  intro i
  by_cases hi : i = j
  · subst hi
    rw [List.getElem?_set_self (by rw [fvs_len]; exact hl), fvs_get, hj]
    simp [fv, setI]
  · rw [List.getElem?_set_ne (fun z => hi z.symm), fvs_get, fvs_get]
    congr 1
    funext f
    exact fv_cong f (by have hz : ¬ ((0 + i : Nat) : Int) = (j : Int) := (by omega); simp only [setI, hz, and_false, if_false])
theorem ws_fldI {ca : FieldType → ClassId} {ad : ADD} {σ : MM} {t k q0 ci j : Nat} {v : Int} {fs : List (Nat ⊕ (Int → Nat × Int))} (h : oids[q0]? = some (t, k)) (hs : shp t = shO ci fs) (hj : fs[j]? = some (.inl 0)) : (wsW ca ad σ).set q0 (ad t k, .inr (ci, (fvs ad σ t k 0 fs).set j (.int (iN v)))) = wsW ca ad (setI σ t k j v) :=
  ws_set h (by rw [en_o hs, fvs_setI hj]) (fun t' k' z => en_cong (setI_off (nat_off z)))
theorem ws_fldJ {ca : FieldType → ClassId} {ad : ADD} {σ : MM} {t k q0 ci j : Nat} {v : Int} {fs : List (Nat ⊕ (Int → Nat × Int))} (h : oids[q0]? = some (t, k)) (hs : shp t = shO ci fs) (hj : fs[j]? = some (.inl 1)) : (wsW ca ad σ).set q0 (ad t k, .inr (ci, (fvs ad σ t k 0 fs).set j (.long (lI v)))) = wsW ca ad (setI σ t k j v) :=
  ws_set h (by rw [en_o hs, fvs_setJ hj]) (fun t' k' z => en_cong (setI_off (nat_off z)))
/-- the addresses are apart, and of a kind -/
def Dw (ad : ADD) (A : Nat → Prop) : Prop := (∀ t k t' k' : Nat, k < cnt t → k' < cnt t' → ad t k = ad t' k' → t = t' ∧ k = k') ∧ ∀ t k : Nat, k < cnt t → A (ad t k)
theorem ws_elem {ca : FieldType → ClassId} {ad : ADD} {σ : MM} {i : Nat} {q : Nat × va_E} (h : (wsW ca ad σ)[i]? = some q) : ∃ t k, oids[i]? = some (t, k) ∧ q = (ad t k, en ca ad σ t k) := by
  unfold wsW at h
  rw [List.getElem?_map] at h
  cases hx : oids[i]? with
  | none => rw [hx] at h; cases h
  | some x => rw [hx] at h; cases h; exact ⟨x.1, x.2, rfl, rfl⟩
theorem Dw.D {ca : FieldType → ClassId} {ad : ADD} {A : Nat → Prop} (h : Dw ad A) (σ : MM) : va_D A (wsW ca ad σ) := by
  refine ⟨fun i j p q hp hq e => ?_, fun i q hq => ?_⟩
  · obtain ⟨t, k, h1, rfl⟩ := ws_elem hp
    obtain ⟨t', k', h2, rfl⟩ := ws_elem hq
    obtain ⟨rfl, rfl⟩ := h.1 t k t' k' (mem_oids (List.mem_of_getElem? h1)) (mem_oids (List.mem_of_getElem? h2)) e
    exact oids_inj h1 h2
  · obtain ⟨t, k, h1, rfl⟩ := ws_elem hq
    exact h.2 t k (mem_oids (List.mem_of_getElem? h1))
/-! the judgement V: from this place of this method, over any heap that holds the world, the machine returns, and Q holds of the answer and the world behind it -/
def strL : List (Nat × String) := [(53, "book"), (62, "ink"), (67, "page"), (72, "entry"), (77, "years"), (85, "law"), (89, "odds"), (96, "rise"), (98, "top"), (100, "fade"), (109, "damp"), (118, "on"), (120, "in"), (122, "wrote"), (124, "says")]
def strB : List (List Int32) := [[98, 111, 111, 107], [105, 110, 107], [112, 97, 103, 101], [101, 110, 116, 114, 121], [121, 101, 97, 114, 115], [108, 97, 119], [111, 100, 100, 115], [114, 105, 115, 101], [116, 111, 112], [102, 97, 100, 101], [100, 97, 109, 112], [111, 110], [105, 110], [119, 114, 111, 116, 101], [115, 97, 121, 115]]
def strN : List Nat := strB.map List.length
abbrev NTAGS : Nat := 54
def tysL (ca : FieldType → ClassId) : List (ClassId × FieldType) := [(ca .int, .int), (ca .long, .long), (ca .byte, .byte), (ca .boolean, .boolean), (ca (.object "GallRegister$Book"), .object "GallRegister$Book"), (ca (.object "GallRegister$Row"), .object "GallRegister$Row"), (ca (.array .int), .array .int)]
/-- the tables' words that hold on -/
def lwG : List Cond := lw_tbl.filter goodWord
theorem lwG_of {w : Cond} (h : w ∈ lw_tbl) (g : goodWord w = true) : w ∈ lwG := List.mem_filter.mpr ⟨h, g⟩
theorem lwG_good {w : Cond} (h : w ∈ lwG) : goodWord w = true := (List.mem_filter.mp h).2
theorem lwG_mem {w : Cond} (h : w ∈ lwG) : w ∈ lw_tbl := (List.mem_filter.mp h).1
/-- what isn't written: the String constants, two statics of the JDK's, the script -/
def FOR (ad : ADD) (A : Nat → Prop) (sc : Int → Int → Int) (U : State) (H : Heap) : Prop :=
  vk_S 15 strN strB (ad 90) (ad 91) A U H ∧ va_Z "java/lang/String" "COMPACT_STRINGS" "Z" (.int 1) A U H ∧ va_Zq "jdk/internal/util/Preconditions" "SIOOBE_FORMATTER" "Ljava/util/function/BiFunction;" A U H ∧ va_X (ad 92 0) (sc 1 0).toNat (fun j => iN (sc 0 j)) U H ∧ ¬ A (ad 92 0) ∧ ad 92 0 < H.size
def STR (ad : ADD) (U : State) : Prop := (∀ (i : Nat) (q : Nat × String), strL[i]? = some q → vk_R RX3 q.1 q.2 (ad 90 i) U) ∧ va_Nw (.methodLinkNest RX2 29 yX5_hasBit "GallRegister") U
theorem FOR.moved {ad : ADD} {A : Nat → Prop} {sc : Int → Int → Int} {u U : State} {H : Heap} (hvm : u.vm.Alike U.vm) (h : FOR ad A sc u H) : FOR ad A sc U H :=
  ⟨h.1.moved hvm, h.2.1.moved hvm, h.2.2.1.moved hvm, h.2.2.2.1.moved hvm, h.2.2.2.2⟩
theorem FOR.kept {ad : ADD} {A : Nat → Prop} {sc : Int → Int → Int} {U : State} {H H1 : Heap} (h : FOR ad A sc U H) (hz : H.size ≤ H1.size) (hq : ∀ a : Nat, a < H.size → ¬ A a → H1[a]? = H[a]?) : FOR ad A sc U H1 :=
  ⟨h.1.kept hq, h.2.1.kept hq, h.2.2.1.kept hq, h.2.2.2.1.kept (hq _ h.2.2.2.2.2 h.2.2.2.2.1), h.2.2.2.2.1, Nat.lt_of_lt_of_le h.2.2.2.2.2 hz⟩
/-- the start of a call's world -/
def KX (D : va_G) (ca : FieldType → ClassId) (ad : ADD) (A : Nat → Prop) (σ : MM) (U : State) : Prop :=
  va_P D vwCl (wsW ca ad σ) U.heap ∧ va_K D vwCl (tysL ca) U ∧ FOR ad A (σ 92) U U.heap ∧ STR ad U
/-- a call's end -/
def QV (D : va_G) (ca : FieldType → ClassId) (ad : ADD) (A : Nat → Prop) (sc : Int → Int → Int) (Q : Option AV → MM → Prop) : Array Value → State → Outcome → State → Prop := fun _ st oc t =>
  (∃ (r : Option AV) (σ' : MM), oc = .returned (r.map (cv ad)) ∧ Q r σ' ∧ σ' 92 = sc ∧ va_P D vwCl (wsW ca ad σ') t.heap) ∧ va_F A st t
def CX (y : MethodName) (cc : ByteArray) (nL : Nat) (ret : Option FieldType) (d : Nat) (sc : Int → Int → Int) (p : Program) (R : Room) (s : State) (m : MethodId) (args : Array Value) (meth : Method) (c : Code) (D : va_G) (ca : FieldType → ClassId) (ad : ADD) (A : Nat → Prop) (cells slots : Nat) : Prop :=
  p.tables.exec = Jvm.exec ∧ c.code = cc ∧ c.maxLocals = nL ∧ meth.sig.returnType = ret ∧ meth.locks = false ∧ s.vm.findClass y.cls = some m.cls ∧ (∀ w ∈ lwG, w.before args s = true) ∧ d ≤ R.frames ∧ 41 * d ≤ R.locals ∧ cells ≤ R.cells ∧ slots ≤ R.slots ∧ va_K D vwCl (tysL ca) s ∧ Dw ad A ∧ FOR ad A sc s s.heap ∧ STR ad s
section CXF
variable {y : MethodName} {cc : ByteArray} {nL d cells slots : Nat} {ret : Option FieldType} {sc : Int → Int → Int} {p : Program} {R : Room} {s : State} {m : MethodId} {args : Array Value} {meth : Method} {c : Code} {D : va_G} {ca : FieldType → ClassId} {ad : ADD} {A : Nat → Prop}
theorem CX.x (h : CX y cc nL ret d sc p R s m args meth c D ca ad A cells slots) : p.tables.exec = Jvm.exec := h.1
theorem CX.b (h : CX y cc nL ret d sc p R s m args meth c D ca ad A cells slots) : c.code = cc := h.2.1
theorem CX.ml (h : CX y cc nL ret d sc p R s m args meth c D ca ad A cells slots) : c.maxLocals = nL := h.2.2.1
theorem CX.rt (h : CX y cc nL ret d sc p R s m args meth c D ca ad A cells slots) : meth.sig.returnType = ret := h.2.2.2.1
theorem CX.lk (h : CX y cc nL ret d sc p R s m args meth c D ca ad A cells slots) : meth.locks = false := h.2.2.2.2.1
theorem CX.own (h : CX y cc nL ret d sc p R s m args meth c D ca ad A cells slots) : s.vm.findClass y.cls = some m.cls := h.2.2.2.2.2.1
theorem CX.ts (h : CX y cc nL ret d sc p R s m args meth c D ca ad A cells slots) : ∀ w ∈ lwG, w.before args s = true := h.2.2.2.2.2.2.1
theorem CX.fr (h : CX y cc nL ret d sc p R s m args meth c D ca ad A cells slots) : d ≤ R.frames := h.2.2.2.2.2.2.2.1
theorem CX.lo (h : CX y cc nL ret d sc p R s m args meth c D ca ad A cells slots) : 41 * d ≤ R.locals := h.2.2.2.2.2.2.2.2.1
theorem CX.ce (h : CX y cc nL ret d sc p R s m args meth c D ca ad A cells slots) : cells ≤ R.cells := h.2.2.2.2.2.2.2.2.2.1
theorem CX.sl (h : CX y cc nL ret d sc p R s m args meth c D ca ad A cells slots) : slots ≤ R.slots := h.2.2.2.2.2.2.2.2.2.2.1
theorem CX.K (h : CX y cc nL ret d sc p R s m args meth c D ca ad A cells slots) : va_K D vwCl (tysL ca) s := h.2.2.2.2.2.2.2.2.2.2.2.1
theorem CX.dw (h : CX y cc nL ret d sc p R s m args meth c D ca ad A cells slots) : Dw ad A := h.2.2.2.2.2.2.2.2.2.2.2.2.1
theorem CX.F (h : CX y cc nL ret d sc p R s m args meth c D ca ad A cells slots) : FOR ad A sc s s.heap := h.2.2.2.2.2.2.2.2.2.2.2.2.2.1
theorem CX.S (h : CX y cc nL ret d sc p R s m args meth c D ca ad A cells slots) : STR ad s := h.2.2.2.2.2.2.2.2.2.2.2.2.2.2
end CXF
def asc (ad : ADD) : Nat → List (Option AV) → List (Nat × Value)
  | _, [] => []
  | i, none :: r => asc ad (i + 1) r
  | i, some v :: r => (i, cv ad v) :: asc ad (i + 1) r
theorem asc_mem (ad : ADD) : ∀ (ls : List (Option AV)) (o : Nat) (q : Nat × Value), q ∈ asc ad o ls ↔ ∃ (j : Nat) (v : AV), ls[j]? = some (some v) ∧ q = (o + j, cv ad v)
  | [], o, q => by simp [asc]
  | none :: r, o, q => by
    show q ∈ asc ad (o + 1) r ↔ _
    rw [asc_mem ad r (o + 1) q]
    constructor
    · rintro ⟨j, v, h, rfl⟩
      exact ⟨j + 1, v, h, by rw [show o + 1 + j = o + (j + 1) by omega]⟩
    · rintro ⟨j, v, h, rfl⟩
      cases j with
      | zero => cases h
      | succ j => exact ⟨j, v, h, by rw [show o + 1 + j = o + (j + 1) by omega]⟩
  | some w :: r, o, q => by
    show q ∈ (o, cv ad w) :: asc ad (o + 1) r ↔ _
    rw [List.mem_cons, asc_mem ad r (o + 1) q]
    constructor
    · rintro (rfl | ⟨j, v, h, rfl⟩)
      · exact ⟨0, w, rfl, rfl⟩
      · exact ⟨j + 1, v, h, by rw [show o + 1 + j = o + (j + 1) by omega]⟩
    · rintro ⟨j, v, h, rfl⟩
      cases j with
      | zero => cases h; exact Or.inl rfl
      | succ j => exact Or.inr ⟨j, v, h, by rw [show o + 1 + j = o + (j + 1) by omega]⟩
theorem has_get {ad : ADD} {la : Array Slot} {nL : Nat} {ls : List (Option AV)} (h : lv_has la nL (asc ad 0 ls)) {i : Nat} {v : AV} (hi : ls[i]? = some (some v)) : la[i]? = some (.val (cv ad v)) :=
  h.2.2 (i, cv ad v) ((asc_mem ad ls 0 _).mpr ⟨i, v, hi, by rw [Nat.zero_add]⟩)
/-- the local ahead of i is no long -/
def okp (ls : List (Option AV)) : Nat → Bool
  | 0 => true
  | i + 1 => match ls[i]? with
    | some (some v) => avc v != 2
    | _ => true
theorem has_set1 {ad : ADD} {la : Array Slot} {nL i : Nat} {ls : List (Option AV)} {v : AV} (hp : okp ls i = true) (h : lv_has la nL ((i, cv ad v) :: (asc ad 0 ls).filter (fun q => !(q.1 == i) && !(q.1 + 1 == i && q.2.category == 2)))) : lv_has la nL (asc ad 0 (ls.set i (some v))) := by
  refine ⟨h.1, h.2.1, fun q hq => h.2.2 q ?_⟩
  obtain ⟨j, w, h1, rfl⟩ := (asc_mem ad _ 0 q).mp hq
  rw [Nat.zero_add]
  by_cases hj : j = i
  · subst hj
    have hl : j < ls.length := by
      rcases Nat.lt_or_ge j ls.length with z | z
      · exact z
      · rw [List.getElem?_eq_none (by rw [List.length_set]; exact z)] at h1; cases h1
    rw [List.getElem?_set_self hl] at h1
    cases h1
    exact List.mem_cons_self
  · rw [List.getElem?_set_ne (fun z => hj z.symm)] at h1
    refine List.mem_cons_of_mem _ (List.mem_filter.mpr ⟨(asc_mem ad ls 0 _).mpr ⟨j, w, h1, by rw [Nat.zero_add]⟩, ?_⟩)
    have hc : ¬ (j + 1 = i ∧ (cv ad w).category = 2) := by
      rintro ⟨rfl, hc⟩
      rw [avc_cv] at hc
      simp [okp, h1, hc] at hp
    simp only [Bool.and_eq_true, Bool.not_eq_true', beq_eq_false_iff_ne, ne_eq, Bool.and_eq_false_iff]
    refine ⟨hj, ?_⟩
    by_cases h2 : j + 1 = i
    · exact Or.inr (fun z => hc ⟨h2, z⟩)
    · exact Or.inl h2
theorem has_set2 {ad : ADD} {la : Array Slot} {nL i : Nat} {ls : List (Option AV)} {v : AV} (hp : okp ls i = true) (hl : i + 1 < ls.length) (h : lv_has la nL ((i, cv ad v) :: (asc ad 0 ls).filter (fun q => !(q.1 == i) && (!(q.1 == i + 1) && !(q.1 + 1 == i && q.2.category == 2))))) : lv_has la nL (asc ad 0 ((ls.set i (some v)).set (i + 1) none)) := by
  refine ⟨h.1, h.2.1, fun q hq => h.2.2 q ?_⟩
  obtain ⟨j, w, h1, rfl⟩ := (asc_mem ad _ 0 q).mp hq
  rw [Nat.zero_add]
  by_cases hj1 : j = i + 1
  · subst hj1
    rw [List.getElem?_set_self (by rw [List.length_set]; exact hl)] at h1
    cases h1
  · rw [List.getElem?_set_ne (fun z => hj1 z.symm)] at h1
    by_cases hj : j = i
    · subst hj
      rw [List.getElem?_set_self (by omega)] at h1
      cases h1
      exact List.mem_cons_self
    · rw [List.getElem?_set_ne (fun z => hj z.symm)] at h1
      refine List.mem_cons_of_mem _ (List.mem_filter.mpr ⟨(asc_mem ad ls 0 _).mpr ⟨j, w, h1, by rw [Nat.zero_add]⟩, ?_⟩)
      have hc : ¬ (j + 1 = i ∧ (cv ad w).category = 2) := by
        rintro ⟨rfl, hc⟩
        rw [avc_cv] at hc
        simp [okp, h1, hc] at hp
      simp only [Bool.and_eq_true, Bool.not_eq_true', beq_eq_false_iff_ne, ne_eq, Bool.and_eq_false_iff]
      refine ⟨hj, hj1, ?_⟩
      by_cases h2 : j + 1 = i
      · exact Or.inr (fun z => hc ⟨h2, z⟩)
      · exact Or.inl h2
/-- the locals at a method's entry -/
def entA : List AV → List (Option AV)
  | [] => []
  | v :: r => if avc v = 2 then some v :: none :: entA r else some v :: entA r
def entL (nL : Nat) (as : List AV) : List (Option AV) := entA as ++ List.replicate (nL - (entA as).length) none
theorem asc_none (ad : ADD) : ∀ (n o : Nat), asc ad o (List.replicate n none) = []
  | 0, _ => rfl
  | n + 1, o => by
    rw [List.replicate_succ]
    exact asc_none ad n (o + 1)
theorem asc_entA (ad : ADD) (n : Nat) : ∀ (as : List AV) (o : Nat), asc ad o (entA as ++ List.replicate n none) = lv_args o (as.map (cv ad))
  | [], o => asc_none ad n o
  | v :: r, o => by
    have e : (cv ad v).category = avc v := avc_cv ad v
    by_cases h : avc v = 2
    · rw [entA, if_pos h]
      show (o, cv ad v) :: asc ad (o + 1 + 1) (entA r ++ List.replicate n none) = (o, cv ad v) :: lv_args (if (cv ad v).category = 2 then o + 2 else o + 1) (r.map (cv ad))
      rw [if_pos (e.trans h), asc_entA ad n r (o + 1 + 1)]
    · rw [entA, if_neg h]
      show (o, cv ad v) :: asc ad (o + 1) (entA r ++ List.replicate n none) = (o, cv ad v) :: lv_args (if (cv ad v).category = 2 then o + 2 else o + 1) (r.map (cv ad))
      rw [if_neg (fun z => h (e.symm.trans z)), asc_entA ad n r (o + 1)]
theorem entA_len (ad : ADD) : ∀ (as : List AV), (lg_sl (as.map (cv ad))).length = (entA as).length
  | [] => rfl
  | v :: r => by
    have e : (cv ad v).category = avc v := avc_cv ad v
    have ih := entA_len ad r
    by_cases h : avc v = 2
    · rw [entA, if_pos h]
      simp only [lg_sl, List.map_cons, List.flatMap_cons, e, h, if_true, List.length_append, List.length_cons, List.length_nil]
      simp only [lg_sl] at ih
      omega
    · rw [entA, if_neg h]
      simp only [lg_sl, List.map_cons, List.flatMap_cons, e, h, if_false, List.length_append, List.length_cons, List.length_nil]
      simp only [lg_sl] at ih
      omega
def V (y : MethodName) (cc : ByteArray) (nL : Nat) (ret : Option FieldType) (d : Nat) (Q : Option AV → MM → Prop) (pc : Nat) (ls : List (Option AV)) (st : List AV) (σ : MM) : Prop :=
  ls.length = nL → ∀ (p : Program) (l : Launch) (e : Env) (R : Room) (s : State) (m : MethodId) (args : Array Value) (below : List Frame) (meth : Method) (c : Code) (D : va_G) (ca : FieldType → ClassId) (ad : ADD) (A : Nat → Prop) (cells slots : Nat),
    CX y cc nL ret d (σ 92) p R s m args meth c D ca ad A cells slots → ∀ (H : Heap) (locs : List Loc) (la : Array Slot), va_P D vwCl (wsW ca ad σ) H → va_S A s.heap H locs → lv_has la nL (asc ad 0 ls) →
    W p l e R s m args below meth c H locs cells slots (MQ below (QV D ca ad A (σ 92) Q) args s cells slots A) (F0 m pc la (st.map (cv ad)))
/-- the words of a method: its code, and the tables' -/
def wsG (y : MethodName) (cc : ByteArray) (nL : Nat) (ret : Option FieldType) : List Cond := Cond.code y cc nL ret :: lwG
abbrev rmD (d : Nat) : Room := { frames := d, cells := 0, slots := 0, locals := 41 * d }
theorem wsG_good {y : MethodName} {cc : ByteArray} {nL : Nat} {ret : Option FieldType} (hc : Cond.code y cc nL ret ∈ lwG) : GoodIn lwG (wsG y cc nL ret) := by
  intro w hw
  rcases List.mem_cons.mp hw with rfl | hw
  · exact ⟨hc, good_of_word (lwG_good hc)⟩
  · exact ⟨hw, good_of_word (lwG_good hw)⟩
/-- V at a method's entry gives its contract -/
theorem met_V {y : MethodName} {cc : ByteArray} {nL d : Nat} {ret : Option FieldType} {Q : Option AV → MM → Prop} {as : List AV} {ls : List (Option AV)} {σ : MM} (l : Launch) (D : va_G) (ca : FieldType → ClassId) (ad : ADD) (A : Nat → Prop) (hy : plainName y.cls = true) (hD : Dw ad A) (he : entL nL as = ls) (hn : (entA as).length ≤ nL) (h : V y cc nL ret d Q 0 ls [] σ) :
    Met l y (wsG y cc nL ret) (rmD d) (va_Pc (as.map (cv ad)) (KX D ca ad A σ)) (QV D ca ad A (σ 92) Q) 0 0 A := by
  subst he
  refine Met.ofW (cc := cc) (maxL := nL) (ret := ret) hy rfl ?_
  intro p e s m args below meth c s₁ B hml hv
  obtain ⟨rfl, hP, hK, hF, hS⟩ := hv
  have hts := atoms_spec (ws := wsG y cc nL ret) B.pre
  have hown : s.vm.findClass y.cls = some m.cls := findClass_of_methodNamed B.named
  have hl := lv_entry (as.map (cv ad)) (n := nL) (by rw [entA_len]; exact hn)
  rw [lg_entry_eq]
  have C : CX y cc nL ret d (σ 92) p (headSpec (wsG y cc nL ret) (rmD d)).room s m (as.map (cv ad)).toArray meth c D ca ad A 0 0 :=
    ⟨B.exec, B.bytes, hml, B.returns, B.notSynchronized, hown, fun w hw => hts w (List.mem_cons_of_mem _ hw), Nat.le_refl _, Nat.le_refl _, Nat.zero_le _, Nat.zero_le _, hK, hD, hF, hS⟩
  refine h ?_ p l e _ s m _ below meth c D ca ad A 0 0 C s.heap [] _ hP va_S.rf ?_
  · unfold entL
    rw [List.length_append, List.length_replicate]
    omega
  · rw [entL, asc_entA]
    exact hl
/-- a call, once its contract is there -/
theorem w_call {p : Program} {l : Launch} {e : Env} {R : Room} {s : State} {m : MethodId} {args : Array Value} {below : List Frame} {meth : Method} {c : Code} {H : Heap} {locs : List Loc} {cells slots pc : Nat} {Z : State → Prop} {la : Array Slot} {rest st0 : List Value} {aa : Array Value} {A : Nat → Prop} {D : va_G} {ca : FieldType → ClassId} {ad : ADD} {sc : Int → Int → Int} {Q' : Option AV → MM → Prop}
    (hr : va_Run p l e R s m args below meth c H locs cells slots 0 0 (F0 m pc la st0) rest (QV D ca ad A sc Q' aa) A) (hS : va_S A s.heap H locs)
    (kk : ∀ (r : Option AV) (σ' : MM) (H1 : Heap) (locs1 : List Loc), Q' r σ' → σ' 92 = sc → va_P D vwCl (wsW ca ad σ') H1 → va_S A s.heap H1 locs1 → W p l e R s m args below meth c H1 locs1 cells slots Z (F0 m (pc + 3) la ((r.map (cv ad)).toList ++ rest))) :
    W p l e R s m args below meth c H locs cells slots Z (F0 m pc la st0) := by
  intro T hT X
  obtain ⟨v, st₀, t, T', L, h0, X', hL, e1, e2, ⟨⟨r, σ', hv, hq, hsc, hP'⟩, hz, hk⟩, st⟩ := hr T hT X
  have hv : v = r.map (cv ad) := by cases hv; rfl
  subst hv
  rw [h0] at hz hk
  obtain ⟨t2, a1, b1⟩ := kk r σ' T'.heap (locs ++ L) hq hsc (by rw [e1]; exact hP')
    ⟨Nat.le_trans hS.1 (by rw [e1]; exact hz), fun q h1 h2 => by rw [e1, hk q (Nat.lt_of_lt_of_le h1 hS.1) h2]; exact hS.2.1 q h1 h2, fun q hq => by
      rcases List.mem_append.mp hq with h | h
      · exact hS.2.2 q h
      · exact hL q h⟩ T' rfl X'
  exact ⟨t2, st t2 a1, b1⟩
theorem KX.blind {D : va_G} {ca : FieldType → ClassId} {ad : ADD} {A : Nat → Prop} {σ : MM} {as : List Value} : FrameBlind (va_Pc as (KX D ca ad A σ)) := by
  intro a U g mk ⟨h1, h2, h3, h4, h5⟩
  exact ⟨h1, h2, va_K.moved (u := U) (U := U.calling g mk a) (Vm.Alike.refl U.vm) h3, FOR.moved (u := U) (U := U.calling g mk a) (Vm.Alike.refl U.vm) h4, ⟨fun i q hq => vk_R.same (u := U) rfl (h5.1 i q hq), va_Nw.same rfl (u := U) rfl h5.2⟩⟩
theorem CX.kx {y : MethodName} {cc : ByteArray} {nL d cells slots : Nat} {ret : Option FieldType} {p : Program} {R : Room} {s : State} {m : MethodId} {args : Array Value} {meth : Method} {c : Code} {D : va_G} {ca : FieldType → ClassId} {ad : ADD} {A : Nat → Prop} {σ : MM} {H : Heap} {locs : List Loc} (C : CX y cc nL ret d (σ 92) p R s m args meth c D ca ad A cells slots) (hP : va_P D vwCl (wsW ca ad σ) H) (hS : va_S A s.heap H locs) {U : State} (hU : U.heap = H) (hW : s.WarmedH U.vm) : KX D ca ad A σ U :=
  ⟨by rw [hU]; exact hP, va_K.moved hW.alike C.K, by rw [hU]; exact FOR.kept (FOR.moved hW.alike C.F) hS.1 hS.2.1, ⟨fun i q hq => vk_R.warm hW (C.S.1 i q hq), va_Nw.warmM hW C.S.2⟩⟩
