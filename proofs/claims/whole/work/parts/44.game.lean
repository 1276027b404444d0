/-! THE GAME, and what else is tried -/
theorem andB_bs {p q : Int → Prop} [DecidablePred p] [DecidablePred q] (n : Nat) : andB (bsN (fun e => bI (p e)) n) (bsN (fun e => bI (q e)) n) = bsN (fun e => bI (p e ∧ q e)) n := by
  have h1 := bsI_in p n
  have h2 := bsI_in q n
  have h3 := andB_in (a := bsN (fun e => bI (p e)) n) (b := bsN (fun e => bI (q e)) n) h1.1
  refine bs_of ⟨h3.1, by omega⟩ (fun i hi => ?_)
  have e := bt_andB (a := bsN (fun e => bI (p e)) n) (b := bsN (fun e => bI (q e)) n) (e := i) h1.1 h2.1 hi.1
  rw [bt_I hi, bt_I hi] at e
  have e01 := bt_01 (andB (bsN (fun e => bI (p e)) n) (bsN (fun e => bI (q e)) n)) i
  unfold bI
  split
  · rename_i h; exact e.mpr h
  · rename_i h; exact e01.resolve_right (fun z => h (e.mp z))
theorem POP_bs {f : Int → Int} {n : Nat} (hn : n ≤ 24) (hf : ∀ k : Int, 0 ≤ k → k < n → f k = 0 ∨ f k = 1) : POP (bsN f n) = sumN f n := by
  have hb := bsN_in (n := n) hf
  have key : ∀ m : Nat, n ≤ m → sumN (bt (bsN f n)) m = sumN f n := by
    intro m hm
    induction m with
    | zero => rw [show n = 0 by omega]; rfl
    | succ m ih =>
      rcases Nat.lt_or_ge m n with q | q
      · rw [show m + 1 = n by omega]
        exact sumN_cong (fun k h0 h1 => bt_bs hf ⟨h0, h1⟩)
      · rw [sumN_S, ih q]
        have hp := p2_le (a := (n : Int)) (b := (m : Int)) (by omega)
        have : bt (bsN f n) m = 0 := by
          unfold bt
          rw [Int.ediv_eq_zero_of_lt hb.1 (by omega)]
          rfl
        rw [this]; omega
  exact key 24 hn
theorem POP_in {r : Int} : 0 ≤ POP r ∧ POP r ≤ 24 := sumN_in (c := 1) (n := 24) (fun k _ => by have := bt_01 r k; omega)
def TRN (B : BK) (p o x y : Int) : BK := sB (sB B 10 p ((B 10 p + x) % 2)) 10 o ((B 10 o + y) % 2)
theorem WB_TRN {B : BK} {p o x y : Int} (hW : WB B) : WB (TRN B p o x y) := WB_damp (WB_damp hW (by omega)) (by omega)
/-- what one has of a turned page -/
def GAI (B B' : BK) (p t : Int) : Int := 3 * sumN (fun e => bI (5 ≤ SHD B' (bt 0) (B 1 0) e ∧ B 11 e = p)) (B 6 0).toNat - t
def q_gets (B : BK) (p o x y : Int) : Int := if ((p < 0 ∨ B 5 0 ≤ p) ∨ (o < 0 ∨ B 5 0 ≤ o) ∨ p = o) ∨ (¬ x = 0 ∧ ¬ x = 1) ∨ (¬ y = 0 ∧ ¬ y = 1) then -1000 else GAI B (TRN B p o x y) p x
def q_rests (B : BK) (p o : Int) : Int := if (p < 0 ∨ B 5 0 ≤ p) ∨ (o < 0 ∨ B 5 0 ≤ o) ∨ p = o then -2 else
  bsN (fun c => bI (GAI B (TRN B p o (1 - c % 2) (c / 2)) p (1 - c % 2) ≤ GAI B (TRN B p o (c % 2) (c / 2)) p (c % 2) ∧ GAI B (TRN B p o (c % 2) (1 - c / 2)) o (1 - c / 2) ≤ GAI B (TRN B p o (c % 2) (c / 2)) o (c / 2))) 4
theorem bw_x01 {a b : Int} (ha : 0 ≤ a ∧ a ≤ 1) (hb : 0 ≤ b ∧ b ≤ 1) : iN a ^^^ iN b = iN ((a + b) % 2) := by
  have h1 : a = 0 ∨ a = 1 := by omega
  have h2 : b = 0 ∨ b = 1 := by omega
  rcases h1 with rfl | rfl <;> rcases h2 with rfl | rfl <;> decide +kernel
theorem bw_xc {c : Int} (hc : 0 ≤ c ∧ c < 4) : iN c ^^^ iN 1 = iN (PFA c) ∧ iN c ^^^ iN 2 = iN (if c < 2 then c + 2 else c - 2) := by
  have h : c = 0 ∨ c = 1 ∨ c = 2 ∨ c = 3 := by omega
  rcases h with rfl | rfl | rfl | rfl <;> decide +kernel
/-- bleached again and again -/
def ITB (B : BK) (e y : Int) : Nat → BK
  | 0 => B
  | n + 1 => aB (ITB B e y n) e (-1) y
theorem ITB_17 {B : BK} {e y : Int} : ∀ n : Nat, ITB B e y n 17 0 = B 17 0 + n
  | 0 => by show B 17 0 = B 17 0 + ((0 : Nat) : Int); omega
  | n + 1 => by
    show aB (ITB B e y n) e (-1) y 17 0 = _
    have := ITB_17 (B := B) (e := e) (y := y) n
    simp [aB, sB, this]
    omega
theorem aB_at {B : BK} {e i y : Int} {t : Nat} (ht : t < 17) : aB B e i y t = B t := by
  funext k
  have h : ∀ x : Nat, 17 ≤ x → ¬ t = x := fun x hx => by omega
  simp [aB, sB, h 17, h 18, h 19, h 20]
theorem ITB_at {B : BK} {e y : Int} {t : Nat} (ht : t < 17) : ∀ n : Nat, ITB B e y n t = B t
  | 0 => rfl
  | n + 1 => (aB_at ht).trans (ITB_at ht n)
theorem WB_ITB {B : BK} {e y : Int} (hW : WB B) (h30 : B 17 0 ≤ 30) (he : 0 ≤ e ∧ e < B 6 0) (hy : 0 ≤ y ∧ y ≤ B 1 0) : ∀ n : Nat, n ≤ 10 → WB (ITB B e y n)
  | 0, _ => hW
  | n + 1, h => by
    have e17 := ITB_17 (B := B) (e := e) (y := y) n
    refine WB_act (WB_ITB hW h30 he hy n (by omega)) (by omega) (by rw [ITB_at (by decide)]; exact he) ⟨by omega, ?_⟩ (by rw [ITB_at (by decide)]; exact hy)
    rw [ITB_at (by decide)]
    have h1 := hW.e he
    omega
def q_hide (B : BK) (e y : Int) : Int := if (e < 0 ∨ B 6 0 ≤ e) ∨ (B 0 0 = 0 ∨ y < 0 ∨ B 1 0 < y) then -2 else fst (fun t => SHD (ITB B e y t.toNat) (bt 0) (B 1 0) e < 5) 10 0
def q_save (B : BK) (e : Int) : Int := if e < 0 ∨ B 6 0 ≤ e then -2 else fst (fun y => B 13 e ≤ y ∧ 5 ≤ SHD (aB B e (B 12 e) y) (bt 0) (B 1 0) e) (B 1 0 + 1).toNat 0
def HVY (B : BK) : Nat → Int × Int
  | 0 => (-1, TOT B)
  | n + 1 => if TOT (sB B 13 n 99) < (HVY B n).2 then ((n : Int), TOT (sB B 13 n 99)) else HVY B n
def q_heavy (B : BK) : Int := if B 0 0 = 0 then -2 else (HVY B (B 6 0).toNat).1
theorem sB_sB (B : BK) (t : Nat) (k v w : Int) : sB (sB B t k v) t k w = sB B t k w := by
  funext t' k'
  unfold sB
  split <;> rfl
theorem sB_id (B : BK) (t : Nat) (k : Int) : sB B t k (B t k) = B := by
  funext t' k'
  unfold sB
  split
  · rename_i h; rw [h.1, h.2]
  · rfl
def q_kinds (B : BK) (Z : Nat → Int → Int → Int) (s e : Int) : Int := if e < 0 ∨ B 6 0 ≤ e then -2 else if RFS B Z s ≠ 0 then RFS B Z s else bsN (fun i => bI (FIT (sB B 12 e i) (bt 0) Z s)) (B 4 0).toNat
def q_laws (B : BK) (Z : Nat → Int → Int → Int) (s : Int) : Int := if RFS B Z s ≠ 0 then RFS B Z s else bsN (fun l => bI (FIT (sB B 2 0 l) (bt 0) Z s)) 4
def FTY (B : BK) (Z : Nat → Int → Int → Int) (s e : Int) : Int := bsN (fun w => bI (FIT (sB B 13 e w) (bt 0) Z s)) (B 1 0 + 1).toNat
