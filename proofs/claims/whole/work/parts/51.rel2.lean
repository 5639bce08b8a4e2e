/-- kinds of cells that come and go: texts, routines, arrays, lines, rows, things -/
def dk (k : Nat × Nat) : Bool := decide (k.1 = 5) || decide (k.1 = 3) || decide (k.1 = 8) || decide (k.1 = 1) || decide (k.1 = 4) || decide (k.1 = 6) || decide (k = (17, 20)) || decide (k = (16, 8)) || decide (k = (16, 10)) || decide (k = (16, 40)) || decide (k = (16, 12)) || decide (k = (16, 48))
theorem dk_is {G : xG} {q c : Nat} (h : xis G q c) (hc : dk (c, 0) = true) : dk (G.2 q) = true := by rw [h.2]; exact hc
theorem dk_ia {G : xG} {q t n : Nat} (h : xia G q t n) (hc : dk (16 + t, n) = true) : dk (G.2 q) = true := by rw [h.2]; exact hc
/-- dynamic pieces stand where the dynamic cells and the reference's own data stand -/
theorem tx.dyn {D D' : xD} {R : xR} {G : xG} {b : Nat} {f : Nat → Int32} {n : Int32} (h : tx D R G b f n) (hD : ∀ q, dk (G.2 q) = true → D' q = D q) : tx D' R G b f n := h.same (hD _ (dk_is h.1 rfl)) (hD _ (dk_ia h.2.2.1 rfl)) rfl
theorem Sim_fixed {D D' : xD} {R : xR} {G : xG} {E E' : xD} (h : Sim D R G E) (hD : ∀ q, dk (G.2 q) = true → D' q = D q) (hI : Iv E') (hF : Fsh E') (h1 : cA D' E') (h2 : cFl D' E') (h3 : cOu D' E') (h4 : cTr D' E') (hE : ∀ j, 1 ≤ j → j ≤ 18 → E' j = E j) (hE0 : E' 0 1 = E 0 1 ∧ E' 0 3 = E 0 3 ∧ E' 0 6 = E 0 6 ∧ E' 0 11 = E 0 11 ∧ E' 0 14 = E 0 14) : Sim D' R G E' := by
  obtain ⟨e1, e3, e6, e11, e14⟩ := hE0
  refine ⟨h.X, hI, hF, h1, h2, h3, h4, ?_, ?_, ?_, ?_, ?_⟩
  · obtain ⟨d, d1, d2, d3⟩ := h.dr
    exact ⟨d, d1, by rw [hE 1 (by decide) (by decide), e1]; exact d2.dyn hD, d3⟩
  · obtain ⟨t1, t2⟩ := h.tx
    refine ⟨fun t ht => ?_, by rw [e3]; exact t2⟩
    rw [e3] at ht
    obtain ⟨b, b1, b2⟩ := t1 t ht
    exact ⟨b, b1, by rw [hE 3 (by decide) (by decide), hE 2 (by decide) (by decide)]; exact b2.dyn hD⟩
  · obtain ⟨t1, t2⟩ := h.ro
    refine ⟨fun t ht => ?_, by rw [e6]; exact t2⟩
    rw [e6] at ht
    obtain ⟨b, b1, b2⟩ := t1 t ht
    refine ⟨b, b1, ?_⟩
    unfold ro at b2 ⊢
    rw [hE 4 (by decide) (by decide), hE 5 (by decide) (by decide), hE 6 (by decide) (by decide), hE 7 (by decide) (by decide), hD _ (dk_is b2.1 rfl), hD _ (dk_ia b2.2.2.1.1 rfl), hD _ (dk_ia b2.2.2.1.2.1 rfl), hD _ (dk_ia b2.2.2.1.2.2 rfl)]
    exact b2
  · obtain ⟨t1, t2⟩ := h.ar
    refine ⟨fun t ht => ?_, by rw [e11]; exact t2⟩
    rw [e11] at ht
    obtain ⟨b, b1, b2⟩ := t1 t ht
    refine ⟨b, b1, ?_⟩
    unfold ar at b2 ⊢
    rw [hE 8 (by decide) (by decide), hE 9 (by decide) (by decide), hD _ (dk_is b2.1 rfl), hD _ (dk_ia b2.2.2.1 rfl)]
    exact b2
  · obtain ⟨t1, t2⟩ := h.th
    refine ⟨fun t ht ht2 => ?_, by rw [e14]; exact t2⟩
    rw [e14] at ht2
    obtain ⟨b, b1, b2, b3, b4, ⟨q, q1, q2⟩, b6⟩ := t1 t ht ht2
    refine ⟨b, b1, b2, ?_, ?_, ⟨q, q1, ?_⟩, ?_⟩
    · rw [hE 10 (by decide) (by decide), hE 11 (by decide) (by decide), hE 12 (by decide) (by decide), hE 18 (by decide) (by decide), hD _ (dk_is b2.1 rfl)]
      exact b3
    · rw [hE 17 (by decide) (by decide)]; exact b4
    · unfold ln at q2 ⊢
      rw [hE 13 (by decide) (by decide), hE 14 (by decide) (by decide), hD _ (dk_is q2.1 rfl), hD _ (dk_ia q2.2.2.1 rfl)]
      exact q2
    · unfold rw_ at b6 ⊢
      rw [hE 15 (by decide) (by decide), hE 16 (by decide) (by decide), hD _ (dk_ia b6.2.2.2.1 rfl), hD _ (dk_ia b6.2.2.2.2.1 rfl)]
      exact b6
theorem Fsh.same {E E' : xD} (h : Fsh E) (h0 : ∀ k, k ≠ 27 → k ≠ 29 → k ≠ 41 → k ≠ 42 → E' 0 k = E 0 k) (h42 : E' 0 42 = 0 ∨ E' 0 42 = 1) (h4 : E' 4 = E 4) (h9 : E' 9 = E 9) (h10 : E' 10 = E 10) (h11 : E' 11 = E 11) (h12 : E' 12 = E 12) (h15 : E' 15 = E 15) (h17 : E' 17 = E 17) (h18 : E' 18 = E 18) : Fsh E' := by
  unfold Fsh at h ⊢
  rw [h0 6 (by decide) (by decide) (by decide) (by decide), h0 11 (by decide) (by decide) (by decide) (by decide), h0 14 (by decide) (by decide) (by decide) (by decide), h0 0 (by decide) (by decide) (by decide) (by decide), h4, h9, h10, h11, h12, h15, h17, h18]
  exact ⟨h.1, h.2.1, h.2.2.1, h.2.2.2.1, h42, h.2.2.2.2.2⟩
/-! faults -/
def cTell (D : xD) (k a b : Int32) : xD := if ¬ D 13 3 = 0 ∧ 0 ≤ D 13 4 ∧ ¬ 30 ≤ D 13 4 then xdu (xdu (xdu (xdu D 14 (ix (D 13 4)) k) 15 (ix (D 13 4)) a) 16 (ix (D 13 4)) b) 13 4 (D 13 4 + 1) else D
theorem vi_s {x : Int32} {N : Nat} (h : vp_in x N) (hN : N < 2 ^ 31) : x + 1 = nI (ix x + 1) := by
  conv => lhs; rw [(vi_n h hN).1]
  exact nI_1 _
theorem vi_0le {x : Int32} {N : Nat} (h : vp_in x N) : 0 ≤ x := by
  rw [vp_in_iff] at h
  rw [i32_le]
  exact h.1
theorem fixed_ne {G : xG} {R : xR} (hX : xFix G R) {q p : Nat} (hp : p < 47) (hq : dk (G.2 q) = true) (hk : dk (fxK p) = false) : q ≠ p := fun e => by
  rw [e, hX.2.1 p hp, hk] at hq
  cases hq
theorem Sim_tell {D : xD} {R : xR} {G : xG} {E : xD} (h : Sim D R G E) (k a b : Int32) : Sim (cTell D k a b) R G (sFails E k a b) ∧ Sam D (cTell D k a b) := by
  obtain ⟨f1, f2, f3⟩ := h.fl
  have hn := h.B.n27
  have e := vi_n hn (by decide)
  unfold cTell sFails
  rw [f1, f2]
  by_cases hc : ¬ E 0 0 = 0 ∧ ¬ 30 ≤ E 0 27
  · rw [if_pos hc, if_pos ⟨hc.1, vi_0le hn, hc.2⟩]
    have hlt := (vi_n (vi_lt hn (B := 30) (by decide) hc.2) (by decide)).2
    have e3 : ix (3 * E 0 27) = 3 * ix (E 0 27) ∧ ix (3 * E 0 27 + 1) = 3 * ix (E 0 27) + 1 ∧ ix (3 * E 0 27 + 2) = 3 * ix (E 0 27) + 2 := by
      have hv := vi_lt hn (B := 30) (by decide) hc.2
      exact ⟨(vi_sc (N := 90) 3 hv (by decide) (by decide) (by decide)).2, (vi_ln (N := 90) 3 hv (vi_of (n := 1) (N := 2) (by decide) (by decide)) (by decide) (by decide) (by decide) (by decide)).2, (vi_ln (N := 90) 3 hv (vi_of (n := 2) (N := 3) (by decide) (by decide)) (by decide) (by decide) (by decide) (by decide)).2⟩
    have es := vi_s hn (by decide)
    have hI := h.I.fails (k := k) (a := a) (b := b)
    unfold sFails at hI
    rw [if_pos hc] at hI
    have hset : ∀ q, dk (G.2 q) = true → (xdu (xdu (xdu (xdu D 14 (ix (E 0 27)) k) 15 (ix (E 0 27)) a) 16 (ix (E 0 27)) b) 13 4 (E 0 27 + 1)) q = D q := fun q hq => by
      rw [xdu_ne _ _ _ (fixed_ne h.X (by decide) hq rfl), xdu_ne _ _ _ (fixed_ne h.X (by decide) hq rfl), xdu_ne _ _ _ (fixed_ne h.X (by decide) hq rfl), xdu_ne _ _ _ (fixed_ne h.X (by decide) hq rfl)]
    refine ⟨Sim_fixed h hset hI (h.F.same (fun i a _ _ _ => by rw [xdu_self, upd_ne _ _ a, xdu_ne _ _ _ (by decide), xdu_ne _ _ _ (by decide), xdu_ne _ _ _ (by decide)]) (by rw [xdu_self, upd_ne _ _ (by decide), xdu_ne _ _ _ (by decide), xdu_ne _ _ _ (by decide), xdu_ne _ _ _ (by decide)]; exact h.F.2.2.2.2.1) ?_ ?_ ?_ ?_ ?_ ?_ ?_ ?_) ?_ ?_ ?_ ?_ (fun j j1 j2 => by rw [xdu_ne _ _ _ (by omega), xdu_ne _ _ _ (by omega), xdu_ne _ _ _ (by omega), xdu_ne _ _ _ (by omega)]) ?_, fun q q1 q2 => by rw [xdu_ne _ _ _ (by omega), xdu_ne _ _ _ (by omega), xdu_ne _ _ _ (by omega), xdu_ne _ _ _ (by omega)]⟩
    all_goals try (rw [xdu_ne _ _ _ (by decide), xdu_ne _ _ _ (by decide), xdu_ne _ _ _ (by decide), xdu_ne _ _ _ (by decide)]; done)
    · unfold cA
      simp only [xdu_ne _ _ _ (show (0 : Nat) ≠ 13 by decide), xdu_ne _ _ _ (show (0 : Nat) ≠ 14 by decide), xdu_ne _ _ _ (show (0 : Nat) ≠ 15 by decide), xdu_ne _ _ _ (show (0 : Nat) ≠ 16 by decide), xdu_self, upd_ne _ _ (show (14 : Nat) ≠ 27 by decide), upd_ne _ _ (show (3 : Nat) ≠ 27 by decide), upd_ne _ _ (show (6 : Nat) ≠ 27 by decide), upd_ne _ _ (show (11 : Nat) ≠ 27 by decide), upd_ne _ _ (show (41 : Nat) ≠ 27 by decide), upd_ne _ _ (show (42 : Nat) ≠ 27 by decide), xdu_ne _ _ _ (show (0 : Nat) ≠ 22 by decide)]
      exact h.A
    · unfold cFl
      refine ⟨?_, ?_, fun i hi => ?_⟩
      · rw [xdu_self, upd_ne _ _ (by decide), xdu_ne _ _ _ (by decide), xdu_ne _ _ _ (by decide), xdu_ne _ _ _ (by decide), xdu_self, upd_ne _ _ (by decide), xdu_ne _ _ _ (by decide), xdu_ne _ _ _ (by decide), xdu_ne _ _ _ (by decide)]
        exact f1
      · rw [xdu_self, upd_self, xdu_self, upd_self]
      · rw [xdu_self, upd_self, es, ix_nI (by omega)] at hi
        rw [e3.1, e3.2.1, e3.2.2]
        rw [xdu_ne _ _ _ (by decide), xdu_ne _ _ _ (by decide), xdu_ne _ _ _ (by decide), xdu_self, xdu_ne _ _ _ (show (15 : Nat) ≠ 13 by decide), xdu_ne _ _ _ (show (15 : Nat) ≠ 16 by decide), xdu_self, xdu_ne _ _ _ (show (15 : Nat) ≠ 14 by decide), xdu_ne _ _ _ (show (16 : Nat) ≠ 13 by decide), xdu_self, xdu_ne _ _ _ (show (16 : Nat) ≠ 15 by decide), xdu_ne _ _ _ (show (16 : Nat) ≠ 14 by decide), xdu_ne _ _ _ (show (22 : Nat) ≠ 0 by decide), xdu_self, xdu_self, xdu_self]
        by_cases q : i = ix (E 0 27)
        · subst q
          refine ⟨?_, ?_, ?_⟩
          · rw [upd_self, upd_ne _ _ (by omega), upd_ne _ _ (by omega), upd_self]
          · rw [upd_self, upd_ne _ _ (by omega), upd_self]
          · rw [upd_self, upd_self]
        · obtain ⟨g1, g2, g3⟩ := f3 i (by omega)
          refine ⟨?_, ?_, ?_⟩
          · rw [upd_ne _ _ q, upd_ne _ _ (by omega), upd_ne _ _ (by omega), upd_ne _ _ (by omega)]; exact g1
          · rw [upd_ne _ _ q, upd_ne _ _ (by omega), upd_ne _ _ (by omega), upd_ne _ _ (by omega)]; exact g2
          · rw [upd_ne _ _ q, upd_ne _ _ (by omega), upd_ne _ _ (by omega), upd_ne _ _ (by omega)]; exact g3
    · unfold cOu
      simp only [xdu_ne _ _ _ (show (9 : Nat) ≠ 13 by decide), xdu_ne _ _ _ (show (9 : Nat) ≠ 14 by decide), xdu_ne _ _ _ (show (9 : Nat) ≠ 15 by decide), xdu_ne _ _ _ (show (9 : Nat) ≠ 16 by decide), xdu_ne _ _ _ (show (10 : Nat) ≠ 13 by decide), xdu_ne _ _ _ (show (10 : Nat) ≠ 14 by decide), xdu_ne _ _ _ (show (10 : Nat) ≠ 15 by decide), xdu_ne _ _ _ (show (10 : Nat) ≠ 16 by decide), xdu_self, upd_ne _ _ (show (29 : Nat) ≠ 27 by decide), xdu_ne _ _ _ (show (0 : Nat) ≠ 22 by decide), xdu_ne _ _ _ (show (23 : Nat) ≠ 0 by decide), xdu_ne _ _ _ (show (23 : Nat) ≠ 22 by decide)]
      exact h.ou
    · unfold cTr
      simp only [xdu_ne _ _ _ (show (6 : Nat) ≠ 13 by decide), xdu_ne _ _ _ (show (6 : Nat) ≠ 14 by decide), xdu_ne _ _ _ (show (6 : Nat) ≠ 15 by decide), xdu_ne _ _ _ (show (6 : Nat) ≠ 16 by decide), xdu_ne _ _ _ (show (7 : Nat) ≠ 13 by decide), xdu_ne _ _ _ (show (7 : Nat) ≠ 14 by decide), xdu_ne _ _ _ (show (7 : Nat) ≠ 15 by decide), xdu_ne _ _ _ (show (7 : Nat) ≠ 16 by decide), xdu_ne _ _ _ (show (8 : Nat) ≠ 13 by decide), xdu_ne _ _ _ (show (8 : Nat) ≠ 14 by decide), xdu_ne _ _ _ (show (8 : Nat) ≠ 15 by decide), xdu_ne _ _ _ (show (8 : Nat) ≠ 16 by decide), xdu_ne _ _ _ (show (19 : Nat) ≠ 0 by decide), xdu_ne _ _ _ (show (20 : Nat) ≠ 0 by decide), xdu_ne _ _ _ (show (21 : Nat) ≠ 0 by decide), xdu_ne _ _ _ (show (19 : Nat) ≠ 22 by decide), xdu_ne _ _ _ (show (20 : Nat) ≠ 22 by decide), xdu_ne _ _ _ (show (21 : Nat) ≠ 22 by decide)]
      exact h.tr
    · simp only [xdu_self, upd_ne _ _ (show (1 : Nat) ≠ 27 by decide), upd_ne _ _ (show (3 : Nat) ≠ 27 by decide), upd_ne _ _ (show (6 : Nat) ≠ 27 by decide), upd_ne _ _ (show (11 : Nat) ≠ 27 by decide), upd_ne _ _ (show (14 : Nat) ≠ 27 by decide), xdu_ne _ _ _ (show (0 : Nat) ≠ 22 by decide)]
      exact ⟨trivial, trivial, trivial, trivial, trivial⟩
  · rw [if_neg hc, if_neg (fun q => hc ⟨q.1, q.2.2⟩)]
    exact ⟨h, Sam.rf⟩
