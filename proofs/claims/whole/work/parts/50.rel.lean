/-! ===== HOW THE CLASS'S CELLS STAND TO THE REFERENCE'S (E) ===== -/
def cA (D E : xD) : Prop := D 0 8 = E 0 14 ∧ D 0 9 = E 0 3 ∧ D 0 10 = E 0 6 ∧ D 0 11 = E 0 11 ∧ D 0 12 = E 0 41 ∧ D 0 13 = E 0 42
def cFl (D E : xD) : Prop := D 13 3 = E 0 0 ∧ D 13 4 = E 0 27 ∧ ∀ i, i < ix (E 0 27) → D 14 i = E 22 (3 * i) ∧ D 15 i = E 22 (3 * i + 1) ∧ D 16 i = E 22 (3 * i + 2)
def cOu (D E : xD) : Prop := D 9 1 = E 0 29 ∧ D 10 = E 23
def cTr (D E : xD) : Prop := D 6 = E 19 ∧ D 7 = E 20 ∧ D 8 = E 21
/-- the text at cell b: n letters f -/
def tx (D : xD) (R : xR) (G : xG) (b : Nat) (f : Nat → Int32) (n : Int32) : Prop := xis G b 5 ∧ R b 0 = some (b + 1) ∧ xia G (b + 1) 1 20 ∧ D b 1 = n ∧ vp_in n 21 ∧ ∀ k, k < ix n → D (b + 1) k = f k ∧ 32 ≤ f k ∧ f k ≤ 126
def cDr (D : xD) (R : xR) (G : xG) (E : xD) : Prop := ∃ d, R 0 7 = some d ∧ tx D R G d (E 1) (E 0 1) ∧ ∀ t, t < 20 → ¬ R 2 t = some d
def cTx (D : xD) (R : xR) (G : xG) (E : xD) : Prop := (∀ t, t < ix (E 0 3) → ∃ b, R 2 t = some b ∧ tx D R G b (fun k => E 3 (20 * t + k)) (E 2 t)) ∧ ∀ t, ix (E 0 3) ≤ t → t < 20 → R 2 t = none
/-- the routine at cell b: r's acts -/
def ro (D : xD) (R : xR) (G : xG) (b : Nat) (E : xD) (r : Nat) : Prop := xis G b 3 ∧ (R b 0 = some (b + 1) ∧ R b 1 = some (b + 2) ∧ R b 2 = some (b + 3)) ∧ (xia G (b + 1) 0 8 ∧ xia G (b + 2) 0 8 ∧ xia G (b + 3) 0 8) ∧ D b 3 = E 4 r ∧ ∀ k, k < ix (E 4 r) → D (b + 1) k = E 5 (8 * r + k) ∧ D (b + 2) k = E 6 (8 * r + k) ∧ D (b + 3) k = E 7 (8 * r + k)
def cRo (D : xD) (R : xR) (G : xG) (E : xD) : Prop := (∀ r, r < ix (E 0 6) → ∃ b, R 3 r = some b ∧ ro D R G b E r) ∧ ∀ r r' b, r < ix (E 0 6) → r' < ix (E 0 6) → R 3 r = some b → R 3 r' = some b → r = r'
/-- the array at cell b -/
def ar (D : xD) (R : xR) (G : xG) (b : Nat) (E : xD) (a : Nat) : Prop := xis G b 8 ∧ R b 0 = some (b + 1) ∧ xia G (b + 1) 0 10 ∧ D b 1 = E 8 a ∧ ∀ i, i < 10 → D (b + 1) i = E 9 (10 * a + i)
def cAr (D : xD) (R : xR) (G : xG) (E : xD) : Prop := (∀ a, a < ix (E 0 11) → ∃ b, R 4 a = some b ∧ ar D R G b E a) ∧ ∀ a a' b, a < ix (E 0 11) → a' < ix (E 0 11) → R 4 a = some b → R 4 a' = some b → a = a'
/-- the line at cell q is thing v's -/
def ln (D : xD) (R : xR) (G : xG) (q : Nat) (E : xD) (v : Nat) : Prop := xis G q 1 ∧ R q 0 = some (q + 1) ∧ xia G (q + 1) 0 40 ∧ D q 1 = E 13 v ∧ ∀ k, k < ix (E 13 v) → D (q + 1) k = E 14 (41 * v + k)
/-- the rows at cell b + 1 (lengths b + 2, values b + 3) are thing v's -/
def rw_ (D : xD) (R : xR) (G : xG) (b : Nat) (E : xD) (v : Nat) : Prop := xis G (b + 1) 4 ∧ R (b + 1) 0 = some (b + 2) ∧ R (b + 1) 1 = some (b + 3) ∧ xia G (b + 2) 0 12 ∧ xia G (b + 3) 0 48 ∧ ∀ n, n < 12 → D (b + 2) n = E 15 (12 * v + n) ∧ ∀ i, i < ix (E 15 (12 * v + n)) → D (b + 3) (4 * n + i) = E 16 (4 * (12 * v + n) + i)
/-- the thing at cell b is number v -/
def th (D : xD) (R : xR) (G : xG) (b : Nat) (E : xD) (v : Nat) : Prop := (xis G b 6 ∧ R b 3 = some (b + 1)) ∧ (D b 0 = E 10 v ∧ D b 2 = E 12 v ∧ D b 4 = E 11 v ∧ D b 6 = E 18 v) ∧ ((E 17 v = 0 ∧ R b 5 = none) ∨ (¬ E 17 v = 0 ∧ R b 5 = R 2 (ix (E 17 v) - 101))) ∧ (∃ q, R b 1 = some q ∧ ln D R G q E v) ∧ rw_ D R G b E v
def cTh (D : xD) (R : xR) (G : xG) (E : xD) : Prop := (∀ v, 1 ≤ v → v ≤ ix (E 0 14) → ∃ b, R 1 (v - 1) = some b ∧ th D R G b E v) ∧ ∀ v v' b, 1 ≤ v → v ≤ ix (E 0 14) → 1 ≤ v' → v' ≤ ix (E 0 14) → R 1 (v - 1) = some b → R 1 (v' - 1) = some b → v = v'
/-- what is not there yet -/
def Fsh (E : xD) : Prop := (∀ r, ix (E 0 6) ≤ r → r < 20 → E 4 r = 0) ∧ (∀ a i, ix (E 0 11) ≤ a → a < 10 → i < 10 → E 9 (10 * a + i) = 0) ∧ (∀ v, ix (E 0 14) < v → v < 41 → E 11 v = 0 ∧ E 12 v = 0 ∧ E 17 v = 0 ∧ E 18 v = 0 ∧ ∀ n, n < 12 → E 15 (12 * v + n) = 0) ∧ (∀ v, v < 41 → (E 10 v = 0 ∨ E 10 v = 1) ∧ (E 11 v = 0 ∨ E 11 v = 1) ∧ (E 18 v = 0 ∨ E 18 v = 1)) ∧ (E 0 42 = 0 ∨ E 0 42 = 1) ∧ (E 0 0 = 0 ∨ E 0 0 = 1)
def Sim (D : xD) (R : xR) (G : xG) (E : xD) : Prop := xFix G R ∧ Iv E ∧ Fsh E ∧ cA D E ∧ cFl D E ∧ cOu D E ∧ cTr D E ∧ cDr D R G E ∧ cTx D R G E ∧ cRo D R G E ∧ cAr D R G E ∧ cTh D R G E
/-- the reference's cells are left alone -/
def Sam (D D' : xD) : Prop := ∀ q, 17 ≤ q → q < 47 → D' q = D q
theorem Sam.rf {D : xD} : Sam D D := fun _ _ _ => rfl
theorem Sam.tr {D D1 D2 : xD} (h : Sam D D1) (h2 : Sam D1 D2) : Sam D D2 := fun q a b => (h2 q a b).trans (h q a b)
theorem Sam.set {D : xD} {q k : Nat} {x : Int32} (h : q < 17 ∨ 47 ≤ q) : Sam D (xdu D q k x) := fun p a b => xdu_ne _ _ _ (by omega)
theorem Sim.X {D : xD} {R : xR} {G : xG} {E : xD} (h : Sim D R G E) : xFix G R := h.1
theorem Sim.I {D : xD} {R : xR} {G : xG} {E : xD} (h : Sim D R G E) : Iv E := h.2.1
theorem Sim.B {D : xD} {R : xR} {G : xG} {E : xD} (h : Sim D R G E) : RB E := h.2.1.1
theorem Sim.F {D : xD} {R : xR} {G : xG} {E : xD} (h : Sim D R G E) : Fsh E := h.2.2.1
theorem Sim.A {D : xD} {R : xR} {G : xG} {E : xD} (h : Sim D R G E) : cA D E := h.2.2.2.1
theorem Sim.fl {D : xD} {R : xR} {G : xG} {E : xD} (h : Sim D R G E) : cFl D E := h.2.2.2.2.1
theorem Sim.ou {D : xD} {R : xR} {G : xG} {E : xD} (h : Sim D R G E) : cOu D E := h.2.2.2.2.2.1
theorem Sim.tr {D : xD} {R : xR} {G : xG} {E : xD} (h : Sim D R G E) : cTr D E := h.2.2.2.2.2.2.1
theorem Sim.dr {D : xD} {R : xR} {G : xG} {E : xD} (h : Sim D R G E) : cDr D R G E := h.2.2.2.2.2.2.2.1
theorem Sim.tx {D : xD} {R : xR} {G : xG} {E : xD} (h : Sim D R G E) : cTx D R G E := h.2.2.2.2.2.2.2.2.1
theorem Sim.ro {D : xD} {R : xR} {G : xG} {E : xD} (h : Sim D R G E) : cRo D R G E := h.2.2.2.2.2.2.2.2.2.1
theorem Sim.ar {D : xD} {R : xR} {G : xG} {E : xD} (h : Sim D R G E) : cAr D R G E := h.2.2.2.2.2.2.2.2.2.2.1
theorem Sim.th {D : xD} {R : xR} {G : xG} {E : xD} (h : Sim D R G E) : cTh D R G E := h.2.2.2.2.2.2.2.2.2.2.2
/-! each piece stands where its own cells stand -/
theorem tx.same {D D' : xD} {R R' : xR} {G : xG} {b : Nat} {f : Nat → Int32} {n : Int32} (h : tx D R G b f n) (hb : D' b = D b) (hb1 : D' (b + 1) = D (b + 1)) (hr : R' b = R b) : tx D' R' G b f n := by
  unfold tx at h ⊢
  rw [hb, hb1, hr]
  exact h
theorem xis_ne {G : xG} {p q c c' : Nat} (h : xis G p c) (h' : xis G q c') (hc : c ≠ c') : p ≠ q := fun e => by
  subst e
  have := h.2.symm.trans h'.2
  injection this with a b
  exact hc a
theorem xis_xia {G : xG} {p q c t n : Nat} (h : xis G p c) (h' : xia G q t n) (hc : c < 16) : p ≠ q := fun e => by
  subst e
  have := h.2.symm.trans h'.2
  injection this with a b
  omega
theorem xia_ne {G : xG} {p q t n t' n' : Nat} (h : xia G p t n) (h' : xia G q t' n') (hc : t ≠ t' ∨ n ≠ n') : p ≠ q := fun e => by
  subst e
  have := h.2.symm.trans h'.2
  injection this with a b
  omega
