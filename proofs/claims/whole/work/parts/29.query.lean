/-! QUERIES: what is asked of a book -/
section ROWS4
variable {yy : MethodName} {cc : ByteArray} {nL d pc : Nat} {ret : Option FieldType} {Q : Option AV → MM → Prop} {ls : List (Option AV)} {st : List AV} {σ : MM}
theorem V_tsw_out {x dflt lo hi : Int} {offs : Array Int} {len : Nat} (tgt : Nat) (d0 : decode cc pc = .ok (.tableswitch dflt lo hi offs, len)) (ht : (pc : Int) + dflt = (tgt : Int)) (hx : IR x) (h : x < lo ∨ hi < x) (k : V yy cc nL ret d Q tgt ls st σ) : V yy cc nL ret d Q pc ls (vI x :: st) σ := by
  intro hn p l e R s m args below meth c D ca ad A cells slots C H locs la hP hS hl
  exact lv_tableOut C.x C.b d0 (by rw [iN_toInt hx]; exact h) ht (k hn p l e R s m args below meth c D ca ad A cells slots C H locs la hP hS hl)
theorem V_tsw_in {x dflt lo hi off : Int} {offs : Array Int} {len : Nat} (tgt : Nat) (d0 : decode cc pc = .ok (.tableswitch dflt lo hi offs, len)) (ht : (pc : Int) + off = (tgt : Int)) (hx : IR x) (h : lo ≤ x ∧ x ≤ hi) (ho : offs[(x - lo).toNat]? = some off) (k : V yy cc nL ret d Q tgt ls st σ) : V yy cc nL ret d Q pc ls (vI x :: st) σ := by
  intro hn p l e R s m args below meth c D ca ad A cells slots C H locs la hP hS hl
  exact lv_tableIn C.x C.b d0 (by rw [iN_toInt hx]; omega) (by rw [iN_toInt hx]; omega) (by rw [iN_toInt hx]; exact ho) ht (k hn p l e R s m args below meth c D ca ad A cells slots C H locs la hP hS hl)
end ROWS4
abbrev SH0 (B : BK) (y e : Int) : Int := SHD B (bt 0) y e
def RIP (B : BK) (e : Int) : Int := mxN (fun y => SHD B (bt 0) y e) (B 1 0).toNat
theorem nx_step {p : Int → Prop} {c c' : Int} (h : ∀ x : Int, 0 ≤ x ∧ x < c → ¬ p x) (hp : ¬ p c) (hc : c' = c + 1) : ∀ x : Int, 0 ≤ x ∧ x < c' → ¬ p x := by
  intro x hx q
  by_cases e : x = c
  · subst e; exact hp q
  · exact h x (by omega) q
def q_ink (B : BK) (i w : Int) : Int := if i < 0 ∨ B 4 0 ≤ i then -2 else if w = 0 then B 7 i else if w = 1 then B 8 i else if w = 2 then B 9 i else -2
def q_page (B : BK) (p : Int) : Int := if p < 0 ∨ B 5 0 ≤ p then -2 else B 10 p
def q_entry (B : BK) (e w : Int) : Int := if e < 0 ∨ B 6 0 ≤ e then -2 else if w = 0 then B 11 e else if w = 1 then B 12 e else if w = 2 then B 13 e else if w = 3 then B 14 e else if w = 4 then PLC B e else -2
def q_on (B : BK) (p : Int) : Int := if p < 0 ∨ B 5 0 ≤ p then -2 else bsN (fun e => bI (B 11 e = p)) (B 6 0).toNat
def q_faces (B : BK) (e : Int) : Int := if e < 0 ∨ B 6 0 ≤ e then -2 else FAC B e
def q_there (B : BK) (y : Int) : Int := if B 0 0 = 0 ∨ y < 0 ∨ B 1 0 < y then -2 else bsN (fun e => bI (B 13 e ≤ y)) (B 6 0).toNat
def q_put (B : BK) : Int := if B 0 0 = 0 then -2 else bsN (fun e => bI (EBH B e)) (B 6 0).toNat
def q_lies (B : BK) : Int := if B 0 0 = 0 then -2 else bsN (fun e => bI (B 14 e ≠ B 13 e)) (B 6 0).toNat
def q_uses (B : BK) (j : Int) : Int := if j < 0 ∨ B 4 0 ≤ j then -2 else bsN (fun e => bI (B 12 e = j)) (B 6 0).toNat
def q_newest (B : BK) (y : Int) : Int := if B 0 0 = 0 ∨ y < 0 ∨ B 1 0 < y then -2 else bst (fun e => B 13 e ≤ y) (fun e => B 13 e) (B 6 0).toNat
def q_oldest (B : BK) (y : Int) : Int := if B 0 0 = 0 ∨ y < 0 ∨ B 1 0 < y then -2 else bst (fun e => B 13 e ≤ y) (fun e => -B 13 e) (B 6 0).toNat
def q_age (B : BK) (e y : Int) : Int := if (e < 0 ∨ B 6 0 ≤ e) ∨ (B 0 0 = 0 ∨ y < 0 ∨ B 1 0 < y) then -2 else if B 13 e ≤ y then y - B 13 e else -1
def q_order (B : BK) (p : Int) : Int := if p < 0 ∨ B 5 0 ≤ p then -2 else if fst (fun e => B 11 e = p ∧ EBH B e) (B 6 0).toNat 0 = -1 then 1 else 0
def q_shade (B : BK) (e y : Int) : Int := if (e < 0 ∨ B 6 0 ≤ e) ∨ (B 0 0 = 0 ∨ y < 0 ∨ B 1 0 < y) then -2 else SHD B (bt 0) y e
def q_peak (B : BK) (e : Int) : Int := if e < 0 ∨ B 6 0 ≤ e then -2 else SHD B (bt 0) (RIP B e) e
def q_ripe (B : BK) (e : Int) : Int := if e < 0 ∨ B 6 0 ≤ e then -2 else RIP B e
def q_blank (B : BK) (e : Int) : Int := if e < 0 ∨ B 6 0 ≤ e then -2 else fst (fun y => B 13 e ≤ y ∧ SHD B (bt 0) y e = 0) (B 1 0 + 1).toNat 0
def STD (g : Int → Int) (wr : Int) : Nat → Int × Int
  | 0 => (0, 0)
  | n + 1 => if 0 < n ∧ g (wr + n) = g (wr + n - 1) then (max (STD g wr n).1 ((STD g wr n).2 + 1), (STD g wr n).2 + 1) else (max (STD g wr n).1 1, 1)
theorem STD_in (g : Int → Int) (wr : Int) : ∀ n : Nat, (0 ≤ (STD g wr n).1 ∧ (STD g wr n).1 ≤ n) ∧ (0 ≤ (STD g wr n).2 ∧ (STD g wr n).2 ≤ n) ∧ (0 < (STD g wr n).2 ↔ 0 < n)
  | 0 => by simp [STD]
  | n + 1 => by
    have h := STD_in g wr n
    rw [STD]
    split <;> simp only <;> omega
def q_steady (B : BK) (e : Int) : Int := if e < 0 ∨ B 6 0 ≤ e then -2 else (STD (fun y => SHD B (bt 0) y e) (B 13 e) (B 1 0 - B 13 e + 1).toNat).1
def q_falls (B : BK) (e : Int) : Int := if e < 0 ∨ B 6 0 ≤ e then -2 else sumN (fun k => bI (SHD B (bt 0) (k + 1) e < SHD B (bt 0) k e)) (B 1 0).toNat
def q_lasts (B : BK) (e : Int) : Int := if e < 0 ∨ B 6 0 ≤ e then -2 else sumN (fun y => bI (5 ≤ SHD B (bt 0) y e)) (B 1 0 + 1).toNat
def q_cross (B : BK) (e o : Int) : Int := if (e < 0 ∨ B 6 0 ≤ e) ∨ (o < 0 ∨ B 6 0 ≤ o) then -2 else fst (fun y => (B 13 e ≤ y ∧ B 13 o ≤ y) ∧ SHD B (bt 0) y o < SHD B (bt 0) y e) (B 1 0 + 1).toNat 0
def q_swaps (B : BK) (e o : Int) : Int := if (e < 0 ∨ B 6 0 ≤ e) ∨ (o < 0 ∨ B 6 0 ≤ o) then -2 else sumN (fun k => bI ((B 13 e ≤ k ∧ B 13 o ≤ k) ∧ cmpI (SHD B (bt 0) (k + 1) e) (SHD B (bt 0) (k + 1) o) ≠ cmpI (SHD B (bt 0) k e) (SHD B (bt 0) k o))) (B 1 0).toNat
def q_match (B : BK) (e o : Int) : Int := if (e < 0 ∨ B 6 0 ≤ e) ∨ (o < 0 ∨ B 6 0 ≤ o) then -2 else sumN (fun y => bI ((B 13 e ≤ y ∧ B 13 o ≤ y) ∧ SHD B (bt 0) y e = SHD B (bt 0) y o)) (B 1 0 + 1).toNat
def q_clear (B : BK) (y : Int) : Int := if B 0 0 = 0 ∨ y < 0 ∨ B 1 0 < y then -2 else bsN (fun e => bI (5 ≤ SHD B (bt 0) y e)) (B 6 0).toNat
def q_all (B : BK) (y : Int) : Int := if B 0 0 = 0 ∨ y < 0 ∨ B 1 0 < y then -2 else ALS B (YS B (bt 0) y.toNat)
def DRK (B : BK) (y : Int) : Int := bst (fun e => B 13 e ≤ y) (SHD B (bt 0) y) (B 6 0).toNat
def PAL (B : BK) (y : Int) : Int := bst (fun e => B 13 e ≤ y) (fun e => -SHD B (bt 0) y e) (B 6 0).toNat
def q_darkest (B : BK) (y : Int) : Int := if B 0 0 = 0 ∨ y < 0 ∨ B 1 0 < y then -2 else DRK B y
def q_palest (B : BK) (y : Int) : Int := if B 0 0 = 0 ∨ y < 0 ∨ B 1 0 < y then -2 else PAL B y
/-- how many unlike ones there are of a set -/
def SOR (p : Int → Prop) [DecidablePred p] (g : Int → Int) (n : Nat) : Int := sumN (fun e => bI (p e ∧ fst (fun k => p k ∧ g k = g e) e.toNat 0 = -1)) n
def q_sorts (B : BK) (y : Int) : Int := if B 0 0 = 0 ∨ y < 0 ∨ B 1 0 < y then -2 else SOR (fun e => B 13 e ≤ y) (SHD B (bt 0) y) (B 6 0).toNat
def ALK (B : BK) (y a b : Int) : Int := bI ((B 13 a ≤ y ∧ B 13 b ≤ y) ∧ SHD B (bt 0) y a = SHD B (bt 0) y b)
def q_alike (B : BK) (y : Int) : Int := if B 0 0 = 0 ∨ y < 0 ∨ B 1 0 < y then -2 else sumN (fun a => sumN (fun k => ALK B y a (a + 1 + k)) (B 6 0 - 1 - a).toNat) (B 6 0).toNat
def q_rising (B : BK) (y : Int) : Int := if B 0 0 = 0 ∨ y < 0 ∨ B 1 0 < y then -2 else bsN (fun e => RSD B (bt 0) y e) (B 6 0).toNat
def q_paling (B : BK) (y : Int) : Int := if B 0 0 = 0 ∨ y < 0 ∨ B 1 0 < y then -2 else bsN (fun e => bI (0 < y ∧ SHD B (bt 0) y e < SHD B (bt 0) (y - 1) e)) (B 6 0).toNat
def q_bold (B : BK) (p y : Int) : Int := if (p < 0 ∨ B 5 0 ≤ p) ∨ (B 0 0 = 0 ∨ y < 0 ∨ B 1 0 < y) then -2 else bst (fun e => B 13 e ≤ y ∧ B 11 e = p) (SHD B (bt 0) y) (B 6 0).toNat
def q_sum (B : BK) (p y : Int) : Int := if (p < 0 ∨ B 5 0 ≤ p) ∨ (B 0 0 = 0 ∨ y < 0 ∨ B 1 0 < y) then -2 else sumN (fun e => if B 11 e = p then SHD B (bt 0) y e else 0) (B 6 0).toNat
def q_spread (B : BK) (y : Int) : Int := if B 0 0 = 0 ∨ y < 0 ∨ B 1 0 < y then -2 else if DRK B y = -1 ∨ PAL B y = -1 then 0 else SHD B (bt 0) y (DRK B y) - SHD B (bt 0) y (PAL B y)
def q_peaks (B : BK) : Int := if B 0 0 = 0 then -2 else mxN (fun y => ALS B (YS B (bt 0) y.toNat)) (B 1 0).toNat
def q_passes (B : BK) (e y : Int) : Int := if (e < 0 ∨ B 6 0 ≤ e) ∨ (B 0 0 = 0 ∨ y < 0 ∨ B 1 0 < y) then -2 else PSI B e y
def q_suspects (B : BK) (y : Int) : Int := if B 0 0 = 0 ∨ y < 0 ∨ B 1 0 < y then -2 else bsN (fun e => bI (B 13 e ≤ y ∧ PSI B e y = 0)) (B 6 0).toNat
def q_betrayed (B : BK) (e : Int) : Int := if e < 0 ∨ B 6 0 ≤ e then -2 else fst (fun y => B 13 e ≤ y ∧ PSI B e y = 0) (B 1 0 + 1).toNat 0
def q_honest (B : BK) (y : Int) : Int := if B 0 0 = 0 ∨ y < 0 ∨ B 1 0 < y then -2 else bsN (fun e => bI (B 13 e ≤ y ∧ SHD B (bt 0) y e = LNE B (B 12 e) (B 11 e) (B 14 e) y)) (B 6 0).toNat
def q_ages (B : BK) (i p n y : Int) : Int := if (i < 0 ∨ B 4 0 ≤ i) ∨ (p < 0 ∨ B 5 0 ≤ p) ∨ (n < 1 ∨ 60 < n) ∨ (B 0 0 = 0 ∨ y < 0 ∨ B 1 0 < y) then -2 else bsN (fun w => bI (LNE B i p w y = n)) (B 1 0 + 1).toNat
def q_worth (B : BK) (s : Int) : Int := if B 0 0 = 0 ∨ s < 0 ∨ p2 (B 6 0) ≤ s then -2 else SOR (fun e => bt s e = 1 ∧ B 13 e ≤ B 1 0) (SHD B (bt 0) (B 1 0)) (B 6 0).toNat
/-- how many are as dark as one at the end -/
def LIK (B : BK) (e : Int) : Int := sumN (fun o => bI ((B 13 e ≤ B 1 0 ∧ B 13 o ≤ B 1 0) ∧ SHD B (bt 0) (B 1 0) e = SHD B (bt 0) (B 1 0) o)) (B 6 0).toNat
def q_share (B : BK) (e w : Int) : Int := if (e < 0 ∨ B 6 0 ≤ e) ∨ (¬ w = 0 ∧ ¬ w = 1) then -2 else if w = 0 then (if LIK B e = 0 then 0 else 1) else max (LIK B e) 1
theorem PSI_in {B : BK} (hW : WB B) {e y : Int} (he : 0 ≤ e ∧ e < B 6 0) : 0 ≤ PSI B e y ∧ PSI B e y < 16 := by
  have h := bsI_in (fun i => SHD B (bt 0) y e = LNE B i (B 11 e) (B 14 e) y) (B 4 0).toNat
  have h2 := p2_le (a := (((B 4 0).toNat : Nat) : Int)) (b := 4) (by have := hW.s; omega)
  have h3 : p2 4 = 16 := rfl
  unfold PSI
  exact ⟨h.1, by have := h.2; omega⟩
theorem cmpI_in (a b : Int) : -1 ≤ cmpI a b ∧ cmpI a b ≤ 1 ∧ (cmpI a b > 0 ↔ b < a) ∧ (cmpI a b = 0 ↔ a = b) ∧ (cmpI a b < 0 ↔ a < b) := by
  unfold cmpI
  (repeat' split) <;> omega
