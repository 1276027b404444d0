/-! THE WORLD as it is made -/
def bkB (k : Nat) : Nat := if k < 3 then 3 + 15 * k else 168 + 15 * (k - 3)
def off (t k : Nat) : Nat :=
  if t < 3 then t
  else if t < 18 then bkB k + (t - 3)
  else if t = 18 then 48 + 46 * k
  else if t = 19 then 49 + 46 * k
  else if t = 20 then 71 + 46 * k
  else if t = 21 then 93 + 46 * k
  else if t = 22 then 50 + 46 * (k / 21) + k % 21
  else if t = 23 then 72 + 46 * (k / 21) + k % 21
  else if t < 27 then 116 + t
  else if t = 27 then 213 + 2 * k
  else if t = 28 then 214 + 2 * k
  else if t = 29 then 143
  else if t = 30 then 144 + k
  else if t < 34 then 134 + t
  else 187 + t
def tre : List (Nat × Nat) := [(0, 0), (1, 0), (2, 0), (3, 0), (4, 0), (5, 0), (6, 0), (7, 0), (8, 0), (9, 0), (10, 0), (11, 0), (12, 0), (13, 0), (14, 0), (15, 0), (16, 0), (17, 0), (3, 1), (4, 1), (5, 1), (6, 1), (7, 1), (8, 1), (9, 1), (10, 1), (11, 1), (12, 1), (13, 1), (14, 1), (15, 1), (16, 1), (17, 1), (3, 2), (4, 2), (5, 2), (6, 2), (7, 2), (8, 2), (9, 2), (10, 2), (11, 2), (12, 2), (13, 2), (14, 2), (15, 2), (16, 2), (17, 2), (18, 0), (19, 0), (22, 0), (22, 1), (22, 2), (22, 3), (22, 4), (22, 5), (22, 6), (22, 7), (22, 8), (22, 9), (22, 10), (22, 11), (22, 12), (22, 13), (22, 14), (22, 15), (22, 16), (22, 17), (22, 18), (22, 19), (22, 20), (20, 0), (23, 0), (23, 1), (23, 2), (23, 3), (23, 4), (23, 5), (23, 6), (23, 7), (23, 8), (23, 9), (23, 10), (23, 11), (23, 12), (23, 13), (23, 14), (23, 15), (23, 16), (23, 17), (23, 18), (23, 19), (23, 20), (21, 0), (18, 1), (19, 1), (22, 21), (22, 22), (22, 23), (22, 24), (22, 25), (22, 26), (22, 27), (22, 28), (22, 29), (22, 30), (22, 31), (22, 32), (22, 33), (22, 34), (22, 35), (22, 36), (22, 37), (22, 38), (22, 39), (22, 40), (22, 41), (20, 1), (23, 21), (23, 22), (23, 23), (23, 24), (23, 25), (23, 26), (23, 27), (23, 28), (23, 29), (23, 30), (23, 31), (23, 32), (23, 33), (23, 34), (23, 35), (23, 36), (23, 37), (23, 38), (23, 39), (23, 40), (23, 41), (21, 1), (24, 0), (25, 0), (26, 0), (29, 0), (30, 0), (30, 1), (30, 2), (30, 3), (30, 4), (30, 5), (30, 6), (30, 7), (30, 8), (30, 9), (30, 10), (30, 11), (30, 12), (30, 13), (30, 14), (30, 15), (30, 16), (30, 17), (30, 18), (30, 19), (30, 20), (31, 0), (32, 0), (33, 0), (3, 3), (4, 3), (5, 3), (6, 3), (7, 3), (8, 3), (9, 3), (10, 3), (11, 3), (12, 3), (13, 3), (14, 3), (15, 3), (16, 3), (17, 3), (3, 4), (4, 4), (5, 4), (6, 4), (7, 4), (8, 4), (9, 4), (10, 4), (11, 4), (12, 4), (13, 4), (14, 4), (15, 4), (16, 4), (17, 4), (3, 5), (4, 5), (5, 5), (6, 5), (7, 5), (8, 5), (9, 5), (10, 5), (11, 5), (12, 5), (13, 5), (14, 5), (15, 5), (16, 5), (17, 5), (27, 0), (28, 0), (27, 1), (28, 1), (27, 2), (28, 2), (27, 3), (28, 3), (34, 0), (35, 0), (36, 0), (37, 0), (38, 0), (39, 0), (40, 0), (41, 0), (42, 0), (43, 0), (44, 0), (45, 0), (46, 0), (47, 0), (48, 0), (49, 0), (50, 0), (51, 0), (52, 0), (53, 0)]
theorem tre_off : ∀ x ∈ oids, off x.1 x.2 < 241 ∧ tre[off x.1 x.2]? = some x := by decide +kernel
def adF (b : Nat) (K V : Nat → Nat) (sb : Nat) : ADD := fun t k => if t < 54 then b + off t k else if t = 90 then K k else if t = 91 then V k else sb
theorem adF_lo {b sb t k : Nat} {K V : Nat → Nat} (h : t < 54) : adF b K V sb t k = b + off t k := if_pos h
theorem adF_Dw {b sb : Nat} {K V : Nat → Nat} : Dw (adF b K V sb) (AF b) := by
  refine ⟨fun t k t' k' h h' e => ?_, fun t k h => ?_⟩
  · rw [adF_lo (cnt_lt h), adF_lo (cnt_lt h')] at e
    have e1 : off t k = off t' k' := by omega
    have g1 := (tre_off _ (oids_mem h)).2
    have g2 := (tre_off _ (oids_mem h')).2
    have e2 : tre[off t k]? = some (t', k') := by rw [e1]; exact g2
    have e3 := Option.some.inj (g1.symm.trans e2)
    exact ⟨congrArg Prod.fst e3, congrArg Prod.snd e3⟩
  · rw [adF_lo (cnt_lt h)]
    exact Nat.le_add_right b _
def σI (L : Nat) (xs : Nat → Int32) : MM := fun t k j => if t = 92 then (if k = 0 then (xs j.toNat).toInt else (L : Int)) else if t = 0 then (if j = 14 then -1 else 0) else if t = 1 then (if j = 3 then -1 else 0) else if t = 34 then (if j = 15 then -1 else 0) else if t = 35 then -1 else 0
def EE (ca : FieldType → ClassId) (b : Nat) : Nat → va_E := fun i => if i < 221 then FX5 ca b i else FX6 ca (b + 221) (i - 221)
theorem at_i {D : va_G} {q n : Nat} {cA : ClassId} {f g : Nat → Int32} {H : Heap} (h : va_at D vwCl (q, .inl (cA, n, .inl f)) H) (e : ∀ j, j < n → f j = g j) : va_at D vwCl (q, .inl (cA, n, .inl g)) H := by
  have : vp_cell cA (n, .inl f) = vp_cell cA (n, .inl g) := by
    rw [vp_cell_i, vp_cell_i]
    unfold arrV
    congr 1
    apply Array.ext
    · simp
    · intro j h1 h2
      have hj : j < n := by simpa using h1
      simp [e j hj]
  show H[q]? = some (vp_cell cA (n, .inl g))
  rw [← this]
  exact h
theorem at_q {D : va_G} {q n : Nat} {cA : ClassId} {f g : Nat → Option Nat} {H : Heap} (h : va_at D vwCl (q, .inl (cA, n, .inr (.inr (.inr (.inr f))))) H) (e : ∀ j, j < n → f j = g j) : va_at D vwCl (q, .inl (cA, n, .inr (.inr (.inr (.inr g))))) H := by
  have : vp_cell cA (n, .inr (.inr (.inr (.inr f)))) = vp_cell cA (n, .inr (.inr (.inr (.inr g)))) := by
    rw [vp_cell_q, vp_cell_q]
    unfold arrV
    congr 1
    apply Array.ext
    · simp
    · intro j h1 h2
      have hj : j < n := by simpa using h1
      simp [e j hj]
  show H[q]? = some (vp_cell cA (n, .inr (.inr (.inr (.inr g)))))
  rw [← this]
  exact h
theorem σI_0 {L : Nat} {xs : Nat → Int32} {t : Nat} {k j : Int} (h1 : t ≠ 92) (h2 : t ≠ 0) (h3 : t ≠ 1) (h4 : t ≠ 34) (h5 : t ≠ 35) : σI L xs t k j = 0 := by
  unfold σI
  rw [if_neg h1, if_neg h2, if_neg h3, if_neg h4, if_neg h5]
abbrev HAll (D : va_G) (ca : FieldType → ClassId) (b : Nat) (H : Heap) : Prop := ∀ i, i < 241 → va_at D vwCl (b + i, EE ca b i) H
set_option maxRecDepth 100000 in
set_option maxHeartbeats 4000000 in
theorem w_0 {D : va_G} {ca : FieldType → ClassId} {b sb L : Nat} {K V : Nat → Nat} {xs : Nat → Int32} {H : Heap} (h : HAll D ca b H) : ∀ k, k < 1 → va_at D vwCl (adF b K V sb 0 k, en ca (adF b K V sb) (σI L xs) 0 k) H := by
  intro k hk
  rw [adF_lo (by decide)]
  match k, hk with
  | 0, _ =>
    have h1 : EE ca b 0 = .inr (5, [.ref (b + 1), .ref (b + 3), .ref (b + 18), .ref (b + 33), .ref (b + 48), .ref (b + 94), .ref (b + 140), .ref (b + 141), .ref (b + 142), .ref (b + 143), .ref (b + 165), .ref (b + 166), .ref (b + 167), .int 0, .int (-1)]) := rfl
    have h2 : en ca (adF b K V sb) (σI L xs) 0 0 = .inr (5, [.ref (b + 1), .ref (b + 3), .ref (b + 18), .ref (b + 33), .ref (b + 48), .ref (b + 94), .ref (b + 140), .ref (b + 141), .ref (b + 142), .ref (b + 143), .ref (b + 165), .ref (b + 166), .ref (b + 167), .int 0, .int (-1)]) := rfl
    have h3 := h 0 (by decide)
    rw [h1] at h3
    rw [h2]
    exact h3
  | k + 1, hk => exact absurd hk (by omega)
set_option maxRecDepth 100000 in
set_option maxHeartbeats 4000000 in
theorem w_1 {D : va_G} {ca : FieldType → ClassId} {b sb L : Nat} {K V : Nat → Nat} {xs : Nat → Int32} {H : Heap} (h : HAll D ca b H) : ∀ k, k < 1 → va_at D vwCl (adF b K V sb 1 k, en ca (adF b K V sb) (σI L xs) 1 k) H := by
  intro k hk
  rw [adF_lo (by decide)]
  match k, hk with
  | 0, _ =>
    have h1 : EE ca b 1 = .inr (3, [.ref (b + 2), .int 0, .int 0, .int (-1), .int 0, .int 0, .int 0, .int 0]) := rfl
    have h2 : en ca (adF b K V sb) (σI L xs) 1 0 = .inr (3, [.ref (b + 2), .int 0, .int 0, .int (-1), .int 0, .int 0, .int 0, .int 0]) := rfl
    have h3 := h 1 (by decide)
    rw [h1] at h3
    rw [h2]
    exact h3
  | k + 1, hk => exact absurd hk (by omega)
set_option maxRecDepth 100000 in
set_option maxHeartbeats 4000000 in
theorem w_2 {D : va_G} {ca : FieldType → ClassId} {b sb L : Nat} {K V : Nat → Nat} {xs : Nat → Int32} {H : Heap} (h : HAll D ca b H) : ∀ k, k < 1 → va_at D vwCl (adF b K V sb 2 k, en ca (adF b K V sb) (σI L xs) 2 k) H := by
  intro k hk
  rw [adF_lo (by decide)]
  match k, hk with
  | 0, _ => exact h 2 (by decide)
  | k + 1, hk => exact absurd hk (by omega)
set_option maxRecDepth 100000 in
set_option maxHeartbeats 4000000 in
theorem w_3 {D : va_G} {ca : FieldType → ClassId} {b sb L : Nat} {K V : Nat → Nat} {xs : Nat → Int32} {H : Heap} (h : HAll D ca b H) : ∀ k, k < 6 → va_at D vwCl (adF b K V sb 3 k, en ca (adF b K V sb) (σI L xs) 3 k) H := by
  intro k hk
  rw [adF_lo (by decide)]
  match k, hk with
  | 0, _ =>
    have h1 : EE ca b 3 = .inr (1, [.int 0, .int 0, .int 0, .int 0, .int 0, .int 0, .int 0, .ref (b + 4), .ref (b + 5), .ref (b + 6), .ref (b + 7), .ref (b + 8), .ref (b + 9), .ref (b + 10), .ref (b + 11), .ref (b + 12), .ref (b + 13), .ref (b + 14)]) := rfl
    have h2 : en ca (adF b K V sb) (σI L xs) 3 0 = .inr (1, [.int 0, .int 0, .int 0, .int 0, .int 0, .int 0, .int 0, .ref (b + 4), .ref (b + 5), .ref (b + 6), .ref (b + 7), .ref (b + 8), .ref (b + 9), .ref (b + 10), .ref (b + 11), .ref (b + 12), .ref (b + 13), .ref (b + 14)]) := rfl
    have h3 := h 3 (by decide)
    rw [h1] at h3
    rw [h2]
    exact h3
  | 1, _ =>
    have h1 : EE ca b 18 = .inr (1, [.int 0, .int 0, .int 0, .int 0, .int 0, .int 0, .int 0, .ref (b + 19), .ref (b + 20), .ref (b + 21), .ref (b + 22), .ref (b + 23), .ref (b + 24), .ref (b + 25), .ref (b + 26), .ref (b + 27), .ref (b + 28), .ref (b + 29)]) := rfl
    have h2 : en ca (adF b K V sb) (σI L xs) 3 1 = .inr (1, [.int 0, .int 0, .int 0, .int 0, .int 0, .int 0, .int 0, .ref (b + 19), .ref (b + 20), .ref (b + 21), .ref (b + 22), .ref (b + 23), .ref (b + 24), .ref (b + 25), .ref (b + 26), .ref (b + 27), .ref (b + 28), .ref (b + 29)]) := rfl
    have h3 := h 18 (by decide)
    rw [h1] at h3
    rw [h2]
    exact h3
  | 2, _ =>
    have h1 : EE ca b 33 = .inr (1, [.int 0, .int 0, .int 0, .int 0, .int 0, .int 0, .int 0, .ref (b + 34), .ref (b + 35), .ref (b + 36), .ref (b + 37), .ref (b + 38), .ref (b + 39), .ref (b + 40), .ref (b + 41), .ref (b + 42), .ref (b + 43), .ref (b + 44)]) := rfl
    have h2 : en ca (adF b K V sb) (σI L xs) 3 2 = .inr (1, [.int 0, .int 0, .int 0, .int 0, .int 0, .int 0, .int 0, .ref (b + 34), .ref (b + 35), .ref (b + 36), .ref (b + 37), .ref (b + 38), .ref (b + 39), .ref (b + 40), .ref (b + 41), .ref (b + 42), .ref (b + 43), .ref (b + 44)]) := rfl
    have h3 := h 33 (by decide)
    rw [h1] at h3
    rw [h2]
    exact h3
  | 3, _ =>
    have h1 : EE ca b 168 = .inr (1, [.int 0, .int 0, .int 0, .int 0, .int 0, .int 0, .int 0, .ref (b + 169), .ref (b + 170), .ref (b + 171), .ref (b + 172), .ref (b + 173), .ref (b + 174), .ref (b + 175), .ref (b + 176), .ref (b + 177), .ref (b + 178), .ref (b + 179)]) := rfl
    have h2 : en ca (adF b K V sb) (σI L xs) 3 3 = .inr (1, [.int 0, .int 0, .int 0, .int 0, .int 0, .int 0, .int 0, .ref (b + 169), .ref (b + 170), .ref (b + 171), .ref (b + 172), .ref (b + 173), .ref (b + 174), .ref (b + 175), .ref (b + 176), .ref (b + 177), .ref (b + 178), .ref (b + 179)]) := rfl
    have h3 := h 168 (by decide)
    rw [h1] at h3
    rw [h2]
    exact h3
  | 4, _ =>
    have h1 : EE ca b 183 = .inr (1, [.int 0, .int 0, .int 0, .int 0, .int 0, .int 0, .int 0, .ref (b + 184), .ref (b + 185), .ref (b + 186), .ref (b + 187), .ref (b + 188), .ref (b + 189), .ref (b + 190), .ref (b + 191), .ref (b + 192), .ref (b + 193), .ref (b + 194)]) := rfl
    have h2 : en ca (adF b K V sb) (σI L xs) 3 4 = .inr (1, [.int 0, .int 0, .int 0, .int 0, .int 0, .int 0, .int 0, .ref (b + 184), .ref (b + 185), .ref (b + 186), .ref (b + 187), .ref (b + 188), .ref (b + 189), .ref (b + 190), .ref (b + 191), .ref (b + 192), .ref (b + 193), .ref (b + 194)]) := rfl
    have h3 := h 183 (by decide)
    rw [h1] at h3
    rw [h2]
    exact h3
  | 5, _ =>
    have h1 : EE ca b 198 = .inr (1, [.int 0, .int 0, .int 0, .int 0, .int 0, .int 0, .int 0, .ref (b + 199), .ref (b + 200), .ref (b + 201), .ref (b + 202), .ref (b + 203), .ref (b + 204), .ref (b + 205), .ref (b + 206), .ref (b + 207), .ref (b + 208), .ref (b + 209)]) := rfl
    have h2 : en ca (adF b K V sb) (σI L xs) 3 5 = .inr (1, [.int 0, .int 0, .int 0, .int 0, .int 0, .int 0, .int 0, .ref (b + 199), .ref (b + 200), .ref (b + 201), .ref (b + 202), .ref (b + 203), .ref (b + 204), .ref (b + 205), .ref (b + 206), .ref (b + 207), .ref (b + 208), .ref (b + 209)]) := rfl
    have h3 := h 198 (by decide)
    rw [h1] at h3
    rw [h2]
    exact h3
  | k + 6, hk => exact absurd hk (by omega)
set_option maxRecDepth 100000 in
set_option maxHeartbeats 4000000 in
theorem w_4 {D : va_G} {ca : FieldType → ClassId} {b sb L : Nat} {K V : Nat → Nat} {xs : Nat → Int32} {H : Heap} (h : HAll D ca b H) : ∀ k, k < 6 → va_at D vwCl (adF b K V sb 4 k, en ca (adF b K V sb) (σI L xs) 4 k) H := by
  intro k hk
  rw [adF_lo (by decide)]
  match k, hk with
  | 0, _ => exact h 4 (by decide)
  | 1, _ => exact h 19 (by decide)
  | 2, _ => exact h 34 (by decide)
  | 3, _ => exact h 169 (by decide)
  | 4, _ => exact h 184 (by decide)
  | 5, _ => exact h 199 (by decide)
  | k + 6, hk => exact absurd hk (by omega)
set_option maxRecDepth 100000 in
set_option maxHeartbeats 4000000 in
theorem w_5 {D : va_G} {ca : FieldType → ClassId} {b sb L : Nat} {K V : Nat → Nat} {xs : Nat → Int32} {H : Heap} (h : HAll D ca b H) : ∀ k, k < 6 → va_at D vwCl (adF b K V sb 5 k, en ca (adF b K V sb) (σI L xs) 5 k) H := by
  intro k hk
  rw [adF_lo (by decide)]
  match k, hk with
  | 0, _ => exact h 5 (by decide)
  | 1, _ => exact h 20 (by decide)
  | 2, _ => exact h 35 (by decide)
  | 3, _ => exact h 170 (by decide)
  | 4, _ => exact h 185 (by decide)
  | 5, _ => exact h 200 (by decide)
  | k + 6, hk => exact absurd hk (by omega)
set_option maxRecDepth 100000 in
set_option maxHeartbeats 4000000 in
theorem w_6 {D : va_G} {ca : FieldType → ClassId} {b sb L : Nat} {K V : Nat → Nat} {xs : Nat → Int32} {H : Heap} (h : HAll D ca b H) : ∀ k, k < 6 → va_at D vwCl (adF b K V sb 6 k, en ca (adF b K V sb) (σI L xs) 6 k) H := by
  intro k hk
  rw [adF_lo (by decide)]
  match k, hk with
  | 0, _ => exact h 6 (by decide)
  | 1, _ => exact h 21 (by decide)
  | 2, _ => exact h 36 (by decide)
  | 3, _ => exact h 171 (by decide)
  | 4, _ => exact h 186 (by decide)
  | 5, _ => exact h 201 (by decide)
  | k + 6, hk => exact absurd hk (by omega)
set_option maxRecDepth 100000 in
set_option maxHeartbeats 4000000 in
theorem w_7 {D : va_G} {ca : FieldType → ClassId} {b sb L : Nat} {K V : Nat → Nat} {xs : Nat → Int32} {H : Heap} (h : HAll D ca b H) : ∀ k, k < 6 → va_at D vwCl (adF b K V sb 7 k, en ca (adF b K V sb) (σI L xs) 7 k) H := by
  intro k hk
  rw [adF_lo (by decide)]
  match k, hk with
  | 0, _ => exact h 7 (by decide)
  | 1, _ => exact h 22 (by decide)
  | 2, _ => exact h 37 (by decide)
  | 3, _ => exact h 172 (by decide)
  | 4, _ => exact h 187 (by decide)
  | 5, _ => exact h 202 (by decide)
  | k + 6, hk => exact absurd hk (by omega)
set_option maxRecDepth 100000 in
set_option maxHeartbeats 4000000 in
theorem w_8 {D : va_G} {ca : FieldType → ClassId} {b sb L : Nat} {K V : Nat → Nat} {xs : Nat → Int32} {H : Heap} (h : HAll D ca b H) : ∀ k, k < 6 → va_at D vwCl (adF b K V sb 8 k, en ca (adF b K V sb) (σI L xs) 8 k) H := by
  intro k hk
  rw [adF_lo (by decide)]
  match k, hk with
  | 0, _ => exact h 8 (by decide)
  | 1, _ => exact h 23 (by decide)
  | 2, _ => exact h 38 (by decide)
  | 3, _ => exact h 173 (by decide)
  | 4, _ => exact h 188 (by decide)
  | 5, _ => exact h 203 (by decide)
  | k + 6, hk => exact absurd hk (by omega)
set_option maxRecDepth 100000 in
set_option maxHeartbeats 4000000 in
theorem w_9 {D : va_G} {ca : FieldType → ClassId} {b sb L : Nat} {K V : Nat → Nat} {xs : Nat → Int32} {H : Heap} (h : HAll D ca b H) : ∀ k, k < 6 → va_at D vwCl (adF b K V sb 9 k, en ca (adF b K V sb) (σI L xs) 9 k) H := by
  intro k hk
  rw [adF_lo (by decide)]
  match k, hk with
  | 0, _ => exact h 9 (by decide)
  | 1, _ => exact h 24 (by decide)
  | 2, _ => exact h 39 (by decide)
  | 3, _ => exact h 174 (by decide)
  | 4, _ => exact h 189 (by decide)
  | 5, _ => exact h 204 (by decide)
  | k + 6, hk => exact absurd hk (by omega)
set_option maxRecDepth 100000 in
set_option maxHeartbeats 4000000 in
theorem w_10 {D : va_G} {ca : FieldType → ClassId} {b sb L : Nat} {K V : Nat → Nat} {xs : Nat → Int32} {H : Heap} (h : HAll D ca b H) : ∀ k, k < 6 → va_at D vwCl (adF b K V sb 10 k, en ca (adF b K V sb) (σI L xs) 10 k) H := by
  intro k hk
  rw [adF_lo (by decide)]
  match k, hk with
  | 0, _ => exact h 10 (by decide)
  | 1, _ => exact h 25 (by decide)
  | 2, _ => exact h 40 (by decide)
  | 3, _ => exact h 175 (by decide)
  | 4, _ => exact h 190 (by decide)
  | 5, _ => exact h 205 (by decide)
  | k + 6, hk => exact absurd hk (by omega)
set_option maxRecDepth 100000 in
set_option maxHeartbeats 4000000 in
theorem w_11 {D : va_G} {ca : FieldType → ClassId} {b sb L : Nat} {K V : Nat → Nat} {xs : Nat → Int32} {H : Heap} (h : HAll D ca b H) : ∀ k, k < 6 → va_at D vwCl (adF b K V sb 11 k, en ca (adF b K V sb) (σI L xs) 11 k) H := by
  intro k hk
  rw [adF_lo (by decide)]
  match k, hk with
  | 0, _ => exact h 11 (by decide)
  | 1, _ => exact h 26 (by decide)
  | 2, _ => exact h 41 (by decide)
  | 3, _ => exact h 176 (by decide)
  | 4, _ => exact h 191 (by decide)
  | 5, _ => exact h 206 (by decide)
  | k + 6, hk => exact absurd hk (by omega)
set_option maxRecDepth 100000 in
set_option maxHeartbeats 4000000 in
theorem w_12 {D : va_G} {ca : FieldType → ClassId} {b sb L : Nat} {K V : Nat → Nat} {xs : Nat → Int32} {H : Heap} (h : HAll D ca b H) : ∀ k, k < 6 → va_at D vwCl (adF b K V sb 12 k, en ca (adF b K V sb) (σI L xs) 12 k) H := by
  intro k hk
  rw [adF_lo (by decide)]
  match k, hk with
  | 0, _ => exact h 12 (by decide)
  | 1, _ => exact h 27 (by decide)
  | 2, _ => exact h 42 (by decide)
  | 3, _ => exact h 177 (by decide)
  | 4, _ => exact h 192 (by decide)
  | 5, _ => exact h 207 (by decide)
  | k + 6, hk => exact absurd hk (by omega)
set_option maxRecDepth 100000 in
set_option maxHeartbeats 4000000 in
theorem w_13 {D : va_G} {ca : FieldType → ClassId} {b sb L : Nat} {K V : Nat → Nat} {xs : Nat → Int32} {H : Heap} (h : HAll D ca b H) : ∀ k, k < 6 → va_at D vwCl (adF b K V sb 13 k, en ca (adF b K V sb) (σI L xs) 13 k) H := by
  intro k hk
  rw [adF_lo (by decide)]
  match k, hk with
  | 0, _ => exact h 13 (by decide)
  | 1, _ => exact h 28 (by decide)
  | 2, _ => exact h 43 (by decide)
  | 3, _ => exact h 178 (by decide)
  | 4, _ => exact h 193 (by decide)
  | 5, _ => exact h 208 (by decide)
  | k + 6, hk => exact absurd hk (by omega)
set_option maxRecDepth 100000 in
set_option maxHeartbeats 4000000 in
theorem w_14 {D : va_G} {ca : FieldType → ClassId} {b sb L : Nat} {K V : Nat → Nat} {xs : Nat → Int32} {H : Heap} (h : HAll D ca b H) : ∀ k, k < 6 → va_at D vwCl (adF b K V sb 14 k, en ca (adF b K V sb) (σI L xs) 14 k) H := by
  intro k hk
  rw [adF_lo (by decide)]
  match k, hk with
  | 0, _ =>
    have h1 : EE ca b 14 = .inr (0, [.ref (b + 15), .ref (b + 16), .ref (b + 17), .int 0]) := rfl
    have h2 : en ca (adF b K V sb) (σI L xs) 14 0 = .inr (0, [.ref (b + 15), .ref (b + 16), .ref (b + 17), .int 0]) := rfl
    have h3 := h 14 (by decide)
    rw [h1] at h3
    rw [h2]
    exact h3
  | 1, _ =>
    have h1 : EE ca b 29 = .inr (0, [.ref (b + 30), .ref (b + 31), .ref (b + 32), .int 0]) := rfl
    have h2 : en ca (adF b K V sb) (σI L xs) 14 1 = .inr (0, [.ref (b + 30), .ref (b + 31), .ref (b + 32), .int 0]) := rfl
    have h3 := h 29 (by decide)
    rw [h1] at h3
    rw [h2]
    exact h3
  | 2, _ =>
    have h1 : EE ca b 44 = .inr (0, [.ref (b + 45), .ref (b + 46), .ref (b + 47), .int 0]) := rfl
    have h2 : en ca (adF b K V sb) (σI L xs) 14 2 = .inr (0, [.ref (b + 45), .ref (b + 46), .ref (b + 47), .int 0]) := rfl
    have h3 := h 44 (by decide)
    rw [h1] at h3
    rw [h2]
    exact h3
  | 3, _ =>
    have h1 : EE ca b 179 = .inr (0, [.ref (b + 180), .ref (b + 181), .ref (b + 182), .int 0]) := rfl
    have h2 : en ca (adF b K V sb) (σI L xs) 14 3 = .inr (0, [.ref (b + 180), .ref (b + 181), .ref (b + 182), .int 0]) := rfl
    have h3 := h 179 (by decide)
    rw [h1] at h3
    rw [h2]
    exact h3
  | 4, _ =>
    have h1 : EE ca b 194 = .inr (0, [.ref (b + 195), .ref (b + 196), .ref (b + 197), .int 0]) := rfl
    have h2 : en ca (adF b K V sb) (σI L xs) 14 4 = .inr (0, [.ref (b + 195), .ref (b + 196), .ref (b + 197), .int 0]) := rfl
    have h3 := h 194 (by decide)
    rw [h1] at h3
    rw [h2]
    exact h3
  | 5, _ =>
    have h1 : EE ca b 209 = .inr (0, [.ref (b + 210), .ref (b + 211), .ref (b + 212), .int 0]) := rfl
    have h2 : en ca (adF b K V sb) (σI L xs) 14 5 = .inr (0, [.ref (b + 210), .ref (b + 211), .ref (b + 212), .int 0]) := rfl
    have h3 := h 209 (by decide)
    rw [h1] at h3
    rw [h2]
    exact h3
  | k + 6, hk => exact absurd hk (by omega)
set_option maxRecDepth 100000 in
set_option maxHeartbeats 4000000 in
theorem w_15 {D : va_G} {ca : FieldType → ClassId} {b sb L : Nat} {K V : Nat → Nat} {xs : Nat → Int32} {H : Heap} (h : HAll D ca b H) : ∀ k, k < 6 → va_at D vwCl (adF b K V sb 15 k, en ca (adF b K V sb) (σI L xs) 15 k) H := by
  intro k hk
  rw [adF_lo (by decide)]
  match k, hk with
  | 0, _ => exact h 15 (by decide)
  | 1, _ => exact h 30 (by decide)
  | 2, _ => exact h 45 (by decide)
  | 3, _ => exact h 180 (by decide)
  | 4, _ => exact h 195 (by decide)
  | 5, _ => exact h 210 (by decide)
  | k + 6, hk => exact absurd hk (by omega)
set_option maxRecDepth 100000 in
set_option maxHeartbeats 4000000 in
theorem w_16 {D : va_G} {ca : FieldType → ClassId} {b sb L : Nat} {K V : Nat → Nat} {xs : Nat → Int32} {H : Heap} (h : HAll D ca b H) : ∀ k, k < 6 → va_at D vwCl (adF b K V sb 16 k, en ca (adF b K V sb) (σI L xs) 16 k) H := by
  intro k hk
  rw [adF_lo (by decide)]
  match k, hk with
  | 0, _ => exact h 16 (by decide)
  | 1, _ => exact h 31 (by decide)
  | 2, _ => exact h 46 (by decide)
  | 3, _ => exact h 181 (by decide)
  | 4, _ => exact h 196 (by decide)
  | 5, _ => exact h 211 (by decide)
  | k + 6, hk => exact absurd hk (by omega)
set_option maxRecDepth 100000 in
set_option maxHeartbeats 4000000 in
theorem w_17 {D : va_G} {ca : FieldType → ClassId} {b sb L : Nat} {K V : Nat → Nat} {xs : Nat → Int32} {H : Heap} (h : HAll D ca b H) : ∀ k, k < 6 → va_at D vwCl (adF b K V sb 17 k, en ca (adF b K V sb) (σI L xs) 17 k) H := by
  intro k hk
  rw [adF_lo (by decide)]
  match k, hk with
  | 0, _ => exact h 17 (by decide)
  | 1, _ => exact h 32 (by decide)
  | 2, _ => exact h 47 (by decide)
  | 3, _ => exact h 182 (by decide)
  | 4, _ => exact h 197 (by decide)
  | 5, _ => exact h 212 (by decide)
  | k + 6, hk => exact absurd hk (by omega)
set_option maxRecDepth 100000 in
set_option maxHeartbeats 4000000 in
theorem w_18 {D : va_G} {ca : FieldType → ClassId} {b sb L : Nat} {K V : Nat → Nat} {xs : Nat → Int32} {H : Heap} (h : HAll D ca b H) : ∀ k, k < 2 → va_at D vwCl (adF b K V sb 18 k, en ca (adF b K V sb) (σI L xs) 18 k) H := by
  intro k hk
  rw [adF_lo (by decide)]
  match k, hk with
  | 0, _ =>
    have h1 : EE ca b 48 = .inr (2, [.ref (b + 49), .ref (b + 71), .ref (b + 93)]) := rfl
    have h2 : en ca (adF b K V sb) (σI L xs) 18 0 = .inr (2, [.ref (b + 49), .ref (b + 71), .ref (b + 93)]) := rfl
    have h3 := h 48 (by decide)
    rw [h1] at h3
    rw [h2]
    exact h3
  | 1, _ =>
    have h1 : EE ca b 94 = .inr (2, [.ref (b + 95), .ref (b + 117), .ref (b + 139)]) := rfl
    have h2 : en ca (adF b K V sb) (σI L xs) 18 1 = .inr (2, [.ref (b + 95), .ref (b + 117), .ref (b + 139)]) := rfl
    have h3 := h 94 (by decide)
    rw [h1] at h3
    rw [h2]
    exact h3
  | k + 2, hk => exact absurd hk (by omega)
set_option maxRecDepth 100000 in
set_option maxHeartbeats 4000000 in
theorem w_19 {D : va_G} {ca : FieldType → ClassId} {b sb L : Nat} {K V : Nat → Nat} {xs : Nat → Int32} {H : Heap} (h : HAll D ca b H) : ∀ k, k < 2 → va_at D vwCl (adF b K V sb 19 k, en ca (adF b K V sb) (σI L xs) 19 k) H := by
  intro k hk
  rw [adF_lo (by decide)]
  match k, hk with
  | 0, _ => exact at_q (h 49 (by decide)) (fun j hj => by
        match j, hj with
        | 0, _ => rfl
        | 1, _ => rfl
        | 2, _ => rfl
        | 3, _ => rfl
        | 4, _ => rfl
        | 5, _ => rfl
        | 6, _ => rfl
        | 7, _ => rfl
        | 8, _ => rfl
        | 9, _ => rfl
        | 10, _ => rfl
        | 11, _ => rfl
        | 12, _ => rfl
        | 13, _ => rfl
        | 14, _ => rfl
        | 15, _ => rfl
        | 16, _ => rfl
        | 17, _ => rfl
        | 18, _ => rfl
        | 19, _ => rfl
        | 20, _ => rfl
        | j + 21, hj => exact absurd hj (by omega))
  | 1, _ => exact at_q (h 95 (by decide)) (fun j hj => by
        match j, hj with
        | 0, _ => rfl
        | 1, _ => rfl
        | 2, _ => rfl
        | 3, _ => rfl
        | 4, _ => rfl
        | 5, _ => rfl
        | 6, _ => rfl
        | 7, _ => rfl
        | 8, _ => rfl
        | 9, _ => rfl
        | 10, _ => rfl
        | 11, _ => rfl
        | 12, _ => rfl
        | 13, _ => rfl
        | 14, _ => rfl
        | 15, _ => rfl
        | 16, _ => rfl
        | 17, _ => rfl
        | 18, _ => rfl
        | 19, _ => rfl
        | 20, _ => rfl
        | j + 21, hj => exact absurd hj (by omega))
  | k + 2, hk => exact absurd hk (by omega)
set_option maxRecDepth 100000 in
set_option maxHeartbeats 4000000 in
theorem w_20 {D : va_G} {ca : FieldType → ClassId} {b sb L : Nat} {K V : Nat → Nat} {xs : Nat → Int32} {H : Heap} (h : HAll D ca b H) : ∀ k, k < 2 → va_at D vwCl (adF b K V sb 20 k, en ca (adF b K V sb) (σI L xs) 20 k) H := by
  intro k hk
  rw [adF_lo (by decide)]
  match k, hk with
  | 0, _ => exact at_q (h 71 (by decide)) (fun j hj => by
        match j, hj with
        | 0, _ => rfl
        | 1, _ => rfl
        | 2, _ => rfl
        | 3, _ => rfl
        | 4, _ => rfl
        | 5, _ => rfl
        | 6, _ => rfl
        | 7, _ => rfl
        | 8, _ => rfl
        | 9, _ => rfl
        | 10, _ => rfl
        | 11, _ => rfl
        | 12, _ => rfl
        | 13, _ => rfl
        | 14, _ => rfl
        | 15, _ => rfl
        | 16, _ => rfl
        | 17, _ => rfl
        | 18, _ => rfl
        | 19, _ => rfl
        | 20, _ => rfl
        | j + 21, hj => exact absurd hj (by omega))
  | 1, _ => exact at_q (h 117 (by decide)) (fun j hj => by
        match j, hj with
        | 0, _ => rfl
        | 1, _ => rfl
        | 2, _ => rfl
        | 3, _ => rfl
        | 4, _ => rfl
        | 5, _ => rfl
        | 6, _ => rfl
        | 7, _ => rfl
        | 8, _ => rfl
        | 9, _ => rfl
        | 10, _ => rfl
        | 11, _ => rfl
        | 12, _ => rfl
        | 13, _ => rfl
        | 14, _ => rfl
        | 15, _ => rfl
        | 16, _ => rfl
        | 17, _ => rfl
        | 18, _ => rfl
        | 19, _ => rfl
        | 20, _ => rfl
        | j + 21, hj => exact absurd hj (by omega))
  | k + 2, hk => exact absurd hk (by omega)
set_option maxRecDepth 100000 in
set_option maxHeartbeats 4000000 in
theorem w_21 {D : va_G} {ca : FieldType → ClassId} {b sb L : Nat} {K V : Nat → Nat} {xs : Nat → Int32} {H : Heap} (h : HAll D ca b H) : ∀ k, k < 2 → va_at D vwCl (adF b K V sb 21 k, en ca (adF b K V sb) (σI L xs) 21 k) H := by
  intro k hk
  rw [adF_lo (by decide)]
  match k, hk with
  | 0, _ => exact h 93 (by decide)
  | 1, _ => exact h 139 (by decide)
  | k + 2, hk => exact absurd hk (by omega)
set_option maxRecDepth 100000 in
set_option maxHeartbeats 4000000 in
theorem w_22 {D : va_G} {ca : FieldType → ClassId} {b sb L : Nat} {K V : Nat → Nat} {xs : Nat → Int32} {H : Heap} (h : HAll D ca b H) : ∀ k, k < 42 → va_at D vwCl (adF b K V sb 22 k, en ca (adF b K V sb) (σI L xs) 22 k) H := by
  intro k hk
  rw [adF_lo (by decide)]
  match k, hk with
  | 0, _ => exact h 50 (by decide)
  | 1, _ => exact h 51 (by decide)
  | 2, _ => exact h 52 (by decide)
  | 3, _ => exact h 53 (by decide)
  | 4, _ => exact h 54 (by decide)
  | 5, _ => exact h 55 (by decide)
  | 6, _ => exact h 56 (by decide)
  | 7, _ => exact h 57 (by decide)
  | 8, _ => exact h 58 (by decide)
  | 9, _ => exact h 59 (by decide)
  | 10, _ => exact h 60 (by decide)
  | 11, _ => exact h 61 (by decide)
  | 12, _ => exact h 62 (by decide)
  | 13, _ => exact h 63 (by decide)
  | 14, _ => exact h 64 (by decide)
  | 15, _ => exact h 65 (by decide)
  | 16, _ => exact h 66 (by decide)
  | 17, _ => exact h 67 (by decide)
  | 18, _ => exact h 68 (by decide)
  | 19, _ => exact h 69 (by decide)
  | 20, _ => exact h 70 (by decide)
  | 21, _ => exact h 96 (by decide)
  | 22, _ => exact h 97 (by decide)
  | 23, _ => exact h 98 (by decide)
  | 24, _ => exact h 99 (by decide)
  | 25, _ => exact h 100 (by decide)
  | 26, _ => exact h 101 (by decide)
  | 27, _ => exact h 102 (by decide)
  | 28, _ => exact h 103 (by decide)
  | 29, _ => exact h 104 (by decide)
  | 30, _ => exact h 105 (by decide)
  | 31, _ => exact h 106 (by decide)
  | 32, _ => exact h 107 (by decide)
  | 33, _ => exact h 108 (by decide)
  | 34, _ => exact h 109 (by decide)
  | 35, _ => exact h 110 (by decide)
  | 36, _ => exact h 111 (by decide)
  | 37, _ => exact h 112 (by decide)
  | 38, _ => exact h 113 (by decide)
  | 39, _ => exact h 114 (by decide)
  | 40, _ => exact h 115 (by decide)
  | 41, _ => exact h 116 (by decide)
  | k + 42, hk => exact absurd hk (by omega)
set_option maxRecDepth 100000 in
set_option maxHeartbeats 4000000 in
theorem w_23 {D : va_G} {ca : FieldType → ClassId} {b sb L : Nat} {K V : Nat → Nat} {xs : Nat → Int32} {H : Heap} (h : HAll D ca b H) : ∀ k, k < 42 → va_at D vwCl (adF b K V sb 23 k, en ca (adF b K V sb) (σI L xs) 23 k) H := by
  intro k hk
  rw [adF_lo (by decide)]
  match k, hk with
  | 0, _ => exact h 72 (by decide)
  | 1, _ => exact h 73 (by decide)
  | 2, _ => exact h 74 (by decide)
  | 3, _ => exact h 75 (by decide)
  | 4, _ => exact h 76 (by decide)
  | 5, _ => exact h 77 (by decide)
  | 6, _ => exact h 78 (by decide)
  | 7, _ => exact h 79 (by decide)
  | 8, _ => exact h 80 (by decide)
  | 9, _ => exact h 81 (by decide)
  | 10, _ => exact h 82 (by decide)
  | 11, _ => exact h 83 (by decide)
  | 12, _ => exact h 84 (by decide)
  | 13, _ => exact h 85 (by decide)
  | 14, _ => exact h 86 (by decide)
  | 15, _ => exact h 87 (by decide)
  | 16, _ => exact h 88 (by decide)
  | 17, _ => exact h 89 (by decide)
  | 18, _ => exact h 90 (by decide)
  | 19, _ => exact h 91 (by decide)
  | 20, _ => exact h 92 (by decide)
  | 21, _ => exact h 118 (by decide)
  | 22, _ => exact h 119 (by decide)
  | 23, _ => exact h 120 (by decide)
  | 24, _ => exact h 121 (by decide)
  | 25, _ => exact h 122 (by decide)
  | 26, _ => exact h 123 (by decide)
  | 27, _ => exact h 124 (by decide)
  | 28, _ => exact h 125 (by decide)
  | 29, _ => exact h 126 (by decide)
  | 30, _ => exact h 127 (by decide)
  | 31, _ => exact h 128 (by decide)
  | 32, _ => exact h 129 (by decide)
  | 33, _ => exact h 130 (by decide)
  | 34, _ => exact h 131 (by decide)
  | 35, _ => exact h 132 (by decide)
  | 36, _ => exact h 133 (by decide)
  | 37, _ => exact h 134 (by decide)
  | 38, _ => exact h 135 (by decide)
  | 39, _ => exact h 136 (by decide)
  | 40, _ => exact h 137 (by decide)
  | 41, _ => exact h 138 (by decide)
  | k + 42, hk => exact absurd hk (by omega)
set_option maxRecDepth 100000 in
set_option maxHeartbeats 4000000 in
theorem w_24 {D : va_G} {ca : FieldType → ClassId} {b sb L : Nat} {K V : Nat → Nat} {xs : Nat → Int32} {H : Heap} (h : HAll D ca b H) : ∀ k, k < 1 → va_at D vwCl (adF b K V sb 24 k, en ca (adF b K V sb) (σI L xs) 24 k) H := by
  intro k hk
  rw [adF_lo (by decide)]
  match k, hk with
  | 0, _ => exact at_q (h 140 (by decide)) (fun j hj => by
        match j, hj with
        | 0, _ => rfl
        | 1, _ => rfl
        | 2, _ => rfl
        | j + 3, hj => exact absurd hj (by omega))
  | k + 1, hk => exact absurd hk (by omega)
set_option maxRecDepth 100000 in
set_option maxHeartbeats 4000000 in
theorem w_25 {D : va_G} {ca : FieldType → ClassId} {b sb L : Nat} {K V : Nat → Nat} {xs : Nat → Int32} {H : Heap} (h : HAll D ca b H) : ∀ k, k < 1 → va_at D vwCl (adF b K V sb 25 k, en ca (adF b K V sb) (σI L xs) 25 k) H := by
  intro k hk
  rw [adF_lo (by decide)]
  match k, hk with
  | 0, _ => exact h 141 (by decide)
  | k + 1, hk => exact absurd hk (by omega)
set_option maxRecDepth 100000 in
set_option maxHeartbeats 4000000 in
theorem w_26 {D : va_G} {ca : FieldType → ClassId} {b sb L : Nat} {K V : Nat → Nat} {xs : Nat → Int32} {H : Heap} (h : HAll D ca b H) : ∀ k, k < 1 → va_at D vwCl (adF b K V sb 26 k, en ca (adF b K V sb) (σI L xs) 26 k) H := by
  intro k hk
  rw [adF_lo (by decide)]
  match k, hk with
  | 0, _ => exact at_q (h 142 (by decide)) (fun j hj => by
        match j, hj with
        | 0, _ => rfl
        | 1, _ => rfl
        | 2, _ => rfl
        | 3, _ => rfl
        | j + 4, hj => exact absurd hj (by omega))
  | k + 1, hk => exact absurd hk (by omega)
set_option maxRecDepth 100000 in
set_option maxHeartbeats 4000000 in
theorem w_27 {D : va_G} {ca : FieldType → ClassId} {b sb L : Nat} {K V : Nat → Nat} {xs : Nat → Int32} {H : Heap} (h : HAll D ca b H) : ∀ k, k < 4 → va_at D vwCl (adF b K V sb 27 k, en ca (adF b K V sb) (σI L xs) 27 k) H := by
  intro k hk
  rw [adF_lo (by decide)]
  match k, hk with
  | 0, _ =>
    have h1 : EE ca b 213 = .inr (4, [.ref (b + 214), .int 0, .int 0, .int 0]) := rfl
    have h2 : en ca (adF b K V sb) (σI L xs) 27 0 = .inr (4, [.ref (b + 214), .int 0, .int 0, .int 0]) := rfl
    have h3 := h 213 (by decide)
    rw [h1] at h3
    rw [h2]
    exact h3
  | 1, _ =>
    have h1 : EE ca b 215 = .inr (4, [.ref (b + 216), .int 0, .int 0, .int 0]) := rfl
    have h2 : en ca (adF b K V sb) (σI L xs) 27 1 = .inr (4, [.ref (b + 216), .int 0, .int 0, .int 0]) := rfl
    have h3 := h 215 (by decide)
    rw [h1] at h3
    rw [h2]
    exact h3
  | 2, _ =>
    have h1 : EE ca b 217 = .inr (4, [.ref (b + 218), .int 0, .int 0, .int 0]) := rfl
    have h2 : en ca (adF b K V sb) (σI L xs) 27 2 = .inr (4, [.ref (b + 218), .int 0, .int 0, .int 0]) := rfl
    have h3 := h 217 (by decide)
    rw [h1] at h3
    rw [h2]
    exact h3
  | 3, _ =>
    have h1 : EE ca b 219 = .inr (4, [.ref (b + 220), .int 0, .int 0, .int 0]) := rfl
    have h2 : en ca (adF b K V sb) (σI L xs) 27 3 = .inr (4, [.ref (b + 220), .int 0, .int 0, .int 0]) := rfl
    have h3 := h 219 (by decide)
    rw [h1] at h3
    rw [h2]
    exact h3
  | k + 4, hk => exact absurd hk (by omega)
set_option maxRecDepth 100000 in
set_option maxHeartbeats 4000000 in
theorem w_28 {D : va_G} {ca : FieldType → ClassId} {b sb L : Nat} {K V : Nat → Nat} {xs : Nat → Int32} {H : Heap} (h : HAll D ca b H) : ∀ k, k < 4 → va_at D vwCl (adF b K V sb 28 k, en ca (adF b K V sb) (σI L xs) 28 k) H := by
  intro k hk
  rw [adF_lo (by decide)]
  match k, hk with
  | 0, _ => exact h 214 (by decide)
  | 1, _ => exact h 216 (by decide)
  | 2, _ => exact h 218 (by decide)
  | 3, _ => exact h 220 (by decide)
  | k + 4, hk => exact absurd hk (by omega)
set_option maxRecDepth 100000 in
set_option maxHeartbeats 4000000 in
theorem w_29 {D : va_G} {ca : FieldType → ClassId} {b sb L : Nat} {K V : Nat → Nat} {xs : Nat → Int32} {H : Heap} (h : HAll D ca b H) : ∀ k, k < 1 → va_at D vwCl (adF b K V sb 29 k, en ca (adF b K V sb) (σI L xs) 29 k) H := by
  intro k hk
  rw [adF_lo (by decide)]
  match k, hk with
  | 0, _ => exact at_q (h 143 (by decide)) (fun j hj => by
        match j, hj with
        | 0, _ => rfl
        | 1, _ => rfl
        | 2, _ => rfl
        | 3, _ => rfl
        | 4, _ => rfl
        | 5, _ => rfl
        | 6, _ => rfl
        | 7, _ => rfl
        | 8, _ => rfl
        | 9, _ => rfl
        | 10, _ => rfl
        | 11, _ => rfl
        | 12, _ => rfl
        | 13, _ => rfl
        | 14, _ => rfl
        | 15, _ => rfl
        | 16, _ => rfl
        | 17, _ => rfl
        | 18, _ => rfl
        | 19, _ => rfl
        | 20, _ => rfl
        | j + 21, hj => exact absurd hj (by omega))
  | k + 1, hk => exact absurd hk (by omega)
set_option maxRecDepth 100000 in
set_option maxHeartbeats 4000000 in
theorem w_30 {D : va_G} {ca : FieldType → ClassId} {b sb L : Nat} {K V : Nat → Nat} {xs : Nat → Int32} {H : Heap} (h : HAll D ca b H) : ∀ k, k < 21 → va_at D vwCl (adF b K V sb 30 k, en ca (adF b K V sb) (σI L xs) 30 k) H := by
  intro k hk
  rw [adF_lo (by decide)]
  match k, hk with
  | 0, _ => exact h 144 (by decide)
  | 1, _ => exact h 145 (by decide)
  | 2, _ => exact h 146 (by decide)
  | 3, _ => exact h 147 (by decide)
  | 4, _ => exact h 148 (by decide)
  | 5, _ => exact h 149 (by decide)
  | 6, _ => exact h 150 (by decide)
  | 7, _ => exact h 151 (by decide)
  | 8, _ => exact h 152 (by decide)
  | 9, _ => exact h 153 (by decide)
  | 10, _ => exact h 154 (by decide)
  | 11, _ => exact h 155 (by decide)
  | 12, _ => exact h 156 (by decide)
  | 13, _ => exact h 157 (by decide)
  | 14, _ => exact h 158 (by decide)
  | 15, _ => exact h 159 (by decide)
  | 16, _ => exact h 160 (by decide)
  | 17, _ => exact h 161 (by decide)
  | 18, _ => exact h 162 (by decide)
  | 19, _ => exact h 163 (by decide)
  | 20, _ => exact h 164 (by decide)
  | k + 21, hk => exact absurd hk (by omega)
set_option maxRecDepth 100000 in
set_option maxHeartbeats 4000000 in
theorem w_31 {D : va_G} {ca : FieldType → ClassId} {b sb L : Nat} {K V : Nat → Nat} {xs : Nat → Int32} {H : Heap} (h : HAll D ca b H) : ∀ k, k < 1 → va_at D vwCl (adF b K V sb 31 k, en ca (adF b K V sb) (σI L xs) 31 k) H := by
  intro k hk
  rw [adF_lo (by decide)]
  match k, hk with
  | 0, _ => exact h 165 (by decide)
  | k + 1, hk => exact absurd hk (by omega)
set_option maxRecDepth 100000 in
set_option maxHeartbeats 4000000 in
theorem w_32 {D : va_G} {ca : FieldType → ClassId} {b sb L : Nat} {K V : Nat → Nat} {xs : Nat → Int32} {H : Heap} (h : HAll D ca b H) : ∀ k, k < 1 → va_at D vwCl (adF b K V sb 32 k, en ca (adF b K V sb) (σI L xs) 32 k) H := by
  intro k hk
  rw [adF_lo (by decide)]
  match k, hk with
  | 0, _ => exact h 166 (by decide)
  | k + 1, hk => exact absurd hk (by omega)
set_option maxRecDepth 100000 in
set_option maxHeartbeats 4000000 in
theorem w_33 {D : va_G} {ca : FieldType → ClassId} {b sb L : Nat} {K V : Nat → Nat} {xs : Nat → Int32} {H : Heap} (h : HAll D ca b H) : ∀ k, k < 1 → va_at D vwCl (adF b K V sb 33 k, en ca (adF b K V sb) (σI L xs) 33 k) H := by
  intro k hk
  rw [adF_lo (by decide)]
  match k, hk with
  | 0, _ => exact h 167 (by decide)
  | k + 1, hk => exact absurd hk (by omega)
set_option maxRecDepth 100000 in
set_option maxHeartbeats 4000000 in
theorem w_34 {D : va_G} {ca : FieldType → ClassId} {b sb L : Nat} {K V : Nat → Nat} {xs : Nat → Int32} {H : Heap} (h : HAll D ca b H) : ∀ k, k < 1 → va_at D vwCl (adF b K V sb 34 k, en ca (adF b K V sb) (σI L xs) 34 k) H := by
  intro k hk
  rw [adF_lo (by decide)]
  match k, hk with
  | 0, _ =>
    have h1 : EE ca b 221 = .inr (6, [.int 0, .ref (b + 222), .ref (b + 223), .ref (b + 224), .ref (b + 225), .ref (b + 226), .int 0, .int 0, .int 0, .int 0, .int 0, .long 0, .int 0, .int 0, .int 0, .int (-1), .ref (b + 227), .ref (b + 228), .ref (b + 229), .ref (b + 230), .ref (b + 231), .ref (b + 232), .ref (b + 233), .int 0, .int 0, .int 0, .int 0, .int 0, .int 0, .int 0, .int 0, .ref (b + 234), .ref (b + 235), .ref (b + 236), .ref (b + 237), .ref (b + 238), .ref (b + 239), .int 0, .int 0, .int 0, .ref (b + 240)]) := rfl
    have h2 : en ca (adF b K V sb) (σI L xs) 34 0 = .inr (6, [.int 0, .ref (b + 222), .ref (b + 223), .ref (b + 224), .ref (b + 225), .ref (b + 226), .int 0, .int 0, .int 0, .int 0, .int 0, .long 0, .int 0, .int 0, .int 0, .int (-1), .ref (b + 227), .ref (b + 228), .ref (b + 229), .ref (b + 230), .ref (b + 231), .ref (b + 232), .ref (b + 233), .int 0, .int 0, .int 0, .int 0, .int 0, .int 0, .int 0, .int 0, .ref (b + 234), .ref (b + 235), .ref (b + 236), .ref (b + 237), .ref (b + 238), .ref (b + 239), .int 0, .int 0, .int 0, .ref (b + 240)]) := rfl
    have h3 := h 221 (by decide)
    rw [h1] at h3
    rw [h2]
    exact h3
  | k + 1, hk => exact absurd hk (by omega)
set_option maxRecDepth 100000 in
set_option maxHeartbeats 4000000 in
theorem w_35 {D : va_G} {ca : FieldType → ClassId} {b sb L : Nat} {K V : Nat → Nat} {xs : Nat → Int32} {H : Heap} (h : HAll D ca b H) : ∀ k, k < 1 → va_at D vwCl (adF b K V sb 35 k, en ca (adF b K V sb) (σI L xs) 35 k) H := by
  intro k hk
  rw [adF_lo (by decide)]
  match k, hk with
  | 0, _ => exact at_i (h 222 (by decide)) (fun j hj => by
        match j, hj with
        | 0, _ => rfl
        | 1, _ => rfl
        | 2, _ => rfl
        | 3, _ => rfl
        | j + 4, hj => exact absurd hj (by omega))
  | k + 1, hk => exact absurd hk (by omega)
set_option maxRecDepth 100000 in
set_option maxHeartbeats 4000000 in
theorem w_36 {D : va_G} {ca : FieldType → ClassId} {b sb L : Nat} {K V : Nat → Nat} {xs : Nat → Int32} {H : Heap} (h : HAll D ca b H) : ∀ k, k < 1 → va_at D vwCl (adF b K V sb 36 k, en ca (adF b K V sb) (σI L xs) 36 k) H := by
  intro k hk
  rw [adF_lo (by decide)]
  match k, hk with
  | 0, _ => exact h 223 (by decide)
  | k + 1, hk => exact absurd hk (by omega)
set_option maxRecDepth 100000 in
set_option maxHeartbeats 4000000 in
theorem w_37 {D : va_G} {ca : FieldType → ClassId} {b sb L : Nat} {K V : Nat → Nat} {xs : Nat → Int32} {H : Heap} (h : HAll D ca b H) : ∀ k, k < 1 → va_at D vwCl (adF b K V sb 37 k, en ca (adF b K V sb) (σI L xs) 37 k) H := by
  intro k hk
  rw [adF_lo (by decide)]
  match k, hk with
  | 0, _ => exact h 224 (by decide)
  | k + 1, hk => exact absurd hk (by omega)
set_option maxRecDepth 100000 in
set_option maxHeartbeats 4000000 in
theorem w_38 {D : va_G} {ca : FieldType → ClassId} {b sb L : Nat} {K V : Nat → Nat} {xs : Nat → Int32} {H : Heap} (h : HAll D ca b H) : ∀ k, k < 1 → va_at D vwCl (adF b K V sb 38 k, en ca (adF b K V sb) (σI L xs) 38 k) H := by
  intro k hk
  rw [adF_lo (by decide)]
  match k, hk with
  | 0, _ => exact h 225 (by decide)
  | k + 1, hk => exact absurd hk (by omega)
set_option maxRecDepth 100000 in
set_option maxHeartbeats 4000000 in
theorem w_39 {D : va_G} {ca : FieldType → ClassId} {b sb L : Nat} {K V : Nat → Nat} {xs : Nat → Int32} {H : Heap} (h : HAll D ca b H) : ∀ k, k < 1 → va_at D vwCl (adF b K V sb 39 k, en ca (adF b K V sb) (σI L xs) 39 k) H := by
  intro k hk
  rw [adF_lo (by decide)]
  match k, hk with
  | 0, _ => exact h 226 (by decide)
  | k + 1, hk => exact absurd hk (by omega)
set_option maxRecDepth 100000 in
set_option maxHeartbeats 4000000 in
theorem w_40 {D : va_G} {ca : FieldType → ClassId} {b sb L : Nat} {K V : Nat → Nat} {xs : Nat → Int32} {H : Heap} (h : HAll D ca b H) : ∀ k, k < 1 → va_at D vwCl (adF b K V sb 40 k, en ca (adF b K V sb) (σI L xs) 40 k) H := by
  intro k hk
  rw [adF_lo (by decide)]
  match k, hk with
  | 0, _ => exact h 227 (by decide)
  | k + 1, hk => exact absurd hk (by omega)
set_option maxRecDepth 100000 in
set_option maxHeartbeats 4000000 in
theorem w_41 {D : va_G} {ca : FieldType → ClassId} {b sb L : Nat} {K V : Nat → Nat} {xs : Nat → Int32} {H : Heap} (h : HAll D ca b H) : ∀ k, k < 1 → va_at D vwCl (adF b K V sb 41 k, en ca (adF b K V sb) (σI L xs) 41 k) H := by
  intro k hk
  rw [adF_lo (by decide)]
  match k, hk with
  | 0, _ => exact h 228 (by decide)
  | k + 1, hk => exact absurd hk (by omega)
set_option maxRecDepth 100000 in
set_option maxHeartbeats 4000000 in
theorem w_42 {D : va_G} {ca : FieldType → ClassId} {b sb L : Nat} {K V : Nat → Nat} {xs : Nat → Int32} {H : Heap} (h : HAll D ca b H) : ∀ k, k < 1 → va_at D vwCl (adF b K V sb 42 k, en ca (adF b K V sb) (σI L xs) 42 k) H := by
  intro k hk
  rw [adF_lo (by decide)]
  match k, hk with
  | 0, _ => exact h 229 (by decide)
  | k + 1, hk => exact absurd hk (by omega)
set_option maxRecDepth 100000 in
set_option maxHeartbeats 4000000 in
theorem w_43 {D : va_G} {ca : FieldType → ClassId} {b sb L : Nat} {K V : Nat → Nat} {xs : Nat → Int32} {H : Heap} (h : HAll D ca b H) : ∀ k, k < 1 → va_at D vwCl (adF b K V sb 43 k, en ca (adF b K V sb) (σI L xs) 43 k) H := by
  intro k hk
  rw [adF_lo (by decide)]
  match k, hk with
  | 0, _ => exact h 230 (by decide)
  | k + 1, hk => exact absurd hk (by omega)
set_option maxRecDepth 100000 in
set_option maxHeartbeats 4000000 in
theorem w_44 {D : va_G} {ca : FieldType → ClassId} {b sb L : Nat} {K V : Nat → Nat} {xs : Nat → Int32} {H : Heap} (h : HAll D ca b H) : ∀ k, k < 1 → va_at D vwCl (adF b K V sb 44 k, en ca (adF b K V sb) (σI L xs) 44 k) H := by
  intro k hk
  rw [adF_lo (by decide)]
  match k, hk with
  | 0, _ => exact h 231 (by decide)
  | k + 1, hk => exact absurd hk (by omega)
set_option maxRecDepth 100000 in
set_option maxHeartbeats 4000000 in
theorem w_45 {D : va_G} {ca : FieldType → ClassId} {b sb L : Nat} {K V : Nat → Nat} {xs : Nat → Int32} {H : Heap} (h : HAll D ca b H) : ∀ k, k < 1 → va_at D vwCl (adF b K V sb 45 k, en ca (adF b K V sb) (σI L xs) 45 k) H := by
  intro k hk
  rw [adF_lo (by decide)]
  match k, hk with
  | 0, _ => exact h 232 (by decide)
  | k + 1, hk => exact absurd hk (by omega)
set_option maxRecDepth 100000 in
set_option maxHeartbeats 4000000 in
theorem w_46 {D : va_G} {ca : FieldType → ClassId} {b sb L : Nat} {K V : Nat → Nat} {xs : Nat → Int32} {H : Heap} (h : HAll D ca b H) : ∀ k, k < 1 → va_at D vwCl (adF b K V sb 46 k, en ca (adF b K V sb) (σI L xs) 46 k) H := by
  intro k hk
  rw [adF_lo (by decide)]
  match k, hk with
  | 0, _ => exact h 233 (by decide)
  | k + 1, hk => exact absurd hk (by omega)
set_option maxRecDepth 100000 in
set_option maxHeartbeats 4000000 in
theorem w_47 {D : va_G} {ca : FieldType → ClassId} {b sb L : Nat} {K V : Nat → Nat} {xs : Nat → Int32} {H : Heap} (h : HAll D ca b H) : ∀ k, k < 1 → va_at D vwCl (adF b K V sb 47 k, en ca (adF b K V sb) (σI L xs) 47 k) H := by
  intro k hk
  rw [adF_lo (by decide)]
  match k, hk with
  | 0, _ => exact h 234 (by decide)
  | k + 1, hk => exact absurd hk (by omega)
set_option maxRecDepth 100000 in
set_option maxHeartbeats 4000000 in
theorem w_48 {D : va_G} {ca : FieldType → ClassId} {b sb L : Nat} {K V : Nat → Nat} {xs : Nat → Int32} {H : Heap} (h : HAll D ca b H) : ∀ k, k < 1 → va_at D vwCl (adF b K V sb 48 k, en ca (adF b K V sb) (σI L xs) 48 k) H := by
  intro k hk
  rw [adF_lo (by decide)]
  match k, hk with
  | 0, _ => exact h 235 (by decide)
  | k + 1, hk => exact absurd hk (by omega)
set_option maxRecDepth 100000 in
set_option maxHeartbeats 4000000 in
theorem w_49 {D : va_G} {ca : FieldType → ClassId} {b sb L : Nat} {K V : Nat → Nat} {xs : Nat → Int32} {H : Heap} (h : HAll D ca b H) : ∀ k, k < 1 → va_at D vwCl (adF b K V sb 49 k, en ca (adF b K V sb) (σI L xs) 49 k) H := by
  intro k hk
  rw [adF_lo (by decide)]
  match k, hk with
  | 0, _ => exact h 236 (by decide)
  | k + 1, hk => exact absurd hk (by omega)
set_option maxRecDepth 100000 in
set_option maxHeartbeats 4000000 in
theorem w_50 {D : va_G} {ca : FieldType → ClassId} {b sb L : Nat} {K V : Nat → Nat} {xs : Nat → Int32} {H : Heap} (h : HAll D ca b H) : ∀ k, k < 1 → va_at D vwCl (adF b K V sb 50 k, en ca (adF b K V sb) (σI L xs) 50 k) H := by
  intro k hk
  rw [adF_lo (by decide)]
  match k, hk with
  | 0, _ => exact h 237 (by decide)
  | k + 1, hk => exact absurd hk (by omega)
set_option maxRecDepth 100000 in
set_option maxHeartbeats 4000000 in
theorem w_51 {D : va_G} {ca : FieldType → ClassId} {b sb L : Nat} {K V : Nat → Nat} {xs : Nat → Int32} {H : Heap} (h : HAll D ca b H) : ∀ k, k < 1 → va_at D vwCl (adF b K V sb 51 k, en ca (adF b K V sb) (σI L xs) 51 k) H := by
  intro k hk
  rw [adF_lo (by decide)]
  match k, hk with
  | 0, _ => exact h 238 (by decide)
  | k + 1, hk => exact absurd hk (by omega)
set_option maxRecDepth 100000 in
set_option maxHeartbeats 4000000 in
theorem w_52 {D : va_G} {ca : FieldType → ClassId} {b sb L : Nat} {K V : Nat → Nat} {xs : Nat → Int32} {H : Heap} (h : HAll D ca b H) : ∀ k, k < 1 → va_at D vwCl (adF b K V sb 52 k, en ca (adF b K V sb) (σI L xs) 52 k) H := by
  intro k hk
  rw [adF_lo (by decide)]
  match k, hk with
  | 0, _ => exact h 239 (by decide)
  | k + 1, hk => exact absurd hk (by omega)
set_option maxRecDepth 100000 in
set_option maxHeartbeats 4000000 in
theorem w_53 {D : va_G} {ca : FieldType → ClassId} {b sb L : Nat} {K V : Nat → Nat} {xs : Nat → Int32} {H : Heap} (h : HAll D ca b H) : ∀ k, k < 1 → va_at D vwCl (adF b K V sb 53 k, en ca (adF b K V sb) (σI L xs) 53 k) H := by
  intro k hk
  rw [adF_lo (by decide)]
  match k, hk with
  | 0, _ => exact h 240 (by decide)
  | k + 1, hk => exact absurd hk (by omega)
set_option maxRecDepth 100000 in
theorem w_all {D : va_G} {ca : FieldType → ClassId} {b sb L : Nat} {K V : Nat → Nat} {xs : Nat → Int32} {H : Heap} (h : HAll D ca b H) : va_P D vwCl (wsW ca (adF b K V sb) (σI L xs)) H := by
  intro i q hq
  obtain ⟨t, k, h1, rfl⟩ := ws_elem hq
  have hk : k < cnt t := mem_oids (List.mem_of_getElem? h1)
  have ht := cnt_lt hk
  clear h1 hq
  match t, hk with
  | 0, hk => exact w_0 h k hk
  | 1, hk => exact w_1 h k hk
  | 2, hk => exact w_2 h k hk
  | 3, hk => exact w_3 h k hk
  | 4, hk => exact w_4 h k hk
  | 5, hk => exact w_5 h k hk
  | 6, hk => exact w_6 h k hk
  | 7, hk => exact w_7 h k hk
  | 8, hk => exact w_8 h k hk
  | 9, hk => exact w_9 h k hk
  | 10, hk => exact w_10 h k hk
  | 11, hk => exact w_11 h k hk
  | 12, hk => exact w_12 h k hk
  | 13, hk => exact w_13 h k hk
  | 14, hk => exact w_14 h k hk
  | 15, hk => exact w_15 h k hk
  | 16, hk => exact w_16 h k hk
  | 17, hk => exact w_17 h k hk
  | 18, hk => exact w_18 h k hk
  | 19, hk => exact w_19 h k hk
  | 20, hk => exact w_20 h k hk
  | 21, hk => exact w_21 h k hk
  | 22, hk => exact w_22 h k hk
  | 23, hk => exact w_23 h k hk
  | 24, hk => exact w_24 h k hk
  | 25, hk => exact w_25 h k hk
  | 26, hk => exact w_26 h k hk
  | 27, hk => exact w_27 h k hk
  | 28, hk => exact w_28 h k hk
  | 29, hk => exact w_29 h k hk
  | 30, hk => exact w_30 h k hk
  | 31, hk => exact w_31 h k hk
  | 32, hk => exact w_32 h k hk
  | 33, hk => exact w_33 h k hk
  | 34, hk => exact w_34 h k hk
  | 35, hk => exact w_35 h k hk
  | 36, hk => exact w_36 h k hk
  | 37, hk => exact w_37 h k hk
  | 38, hk => exact w_38 h k hk
  | 39, hk => exact w_39 h k hk
  | 40, hk => exact w_40 h k hk
  | 41, hk => exact w_41 h k hk
  | 42, hk => exact w_42 h k hk
  | 43, hk => exact w_43 h k hk
  | 44, hk => exact w_44 h k hk
  | 45, hk => exact w_45 h k hk
  | 46, hk => exact w_46 h k hk
  | 47, hk => exact w_47 h k hk
  | 48, hk => exact w_48 h k hk
  | 49, hk => exact w_49 h k hk
  | 50, hk => exact w_50 h k hk
  | 51, hk => exact w_51 h k hk
  | 52, hk => exact w_52 h k hk
  | 53, hk => exact w_53 h k hk
  | t + 54, hk => exact absurd ht (by omega)
