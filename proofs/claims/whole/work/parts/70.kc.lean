/-! ===== pieces stand where their cells stand ===== -/
def Kc (D D' : xD) (R R' : xR) (G G' : xG) (p : Nat) : Prop := (p < G.1 → p < G'.1) ∧ G'.2 p = G.2 p ∧ D' p = D p ∧ R' p = R p
theorem Kc.is {D D' : xD} {R R' : xR} {G G' : xG} {p c : Nat} (k : Kc D D' R R' G G' p) (h : xis G p c) : xis G' p c := ⟨k.1 h.1, k.2.1.trans h.2⟩
theorem Kc.ia {D D' : xD} {R R' : xR} {G G' : xG} {p t n : Nat} (k : Kc D D' R R' G G' p) (h : xia G p t n) : xia G' p t n := ⟨k.1 h.1, k.2.1.trans h.2⟩
theorem tx_k {D D' : xD} {R R' : xR} {G G' : xG} {b : Nat} {f : Nat → Int32} {n : Int32} (h : tx D R G b f n) (k : Kc D D' R R' G G' b) (k1 : Kc D D' R R' G G' (b + 1)) : tx D' R' G' b f n := by
  obtain ⟨h1, h2, h3, h4⟩ := h
  refine ⟨k.is h1, ?_, k1.ia h3, ?_⟩
  · rw [k.2.2.2]; exact h2
  · rw [k.2.2.1, k1.2.2.1]; exact h4
theorem cTx_k {D D' : xD} {R R' : xR} {G G' : xG} {E E' : xD} (h : cTx D R G E) (hk : ∀ p t, t < ix (E 0 3) → R 2 t = some p → xis G p 5 → xia G (p + 1) 1 20 → Kc D D' R R' G G' p ∧ Kc D D' R R' G G' (p + 1)) (e0 : E' 0 3 = E 0 3) (e2 : E' 2 = E 2) (e3 : E' 3 = E 3) (r2 : R' 2 = R 2) : cTx D' R' G' E' := by
  obtain ⟨t1, t2⟩ := h
  rw [cTx, e0, e2, e3, r2]
  refine ⟨fun t ht => ?_, t2⟩
  obtain ⟨b, b1, b2⟩ := t1 t ht
  obtain ⟨k1, k2⟩ := hk b t ht b1 b2.1 b2.2.2.1
  exact ⟨b, b1, tx_k b2 k1 k2⟩
theorem cDr_k {D D' : xD} {R R' : xR} {G G' : xG} {E E' : xD} (h : cDr D R G E) (hk : ∀ p, R 0 7 = some p → xis G p 5 → xia G (p + 1) 1 20 → Kc D D' R R' G G' p ∧ Kc D D' R R' G G' (p + 1)) (e0 : E' 0 1 = E 0 1) (e1 : E' 1 = E 1) (r0 : R' 0 7 = R 0 7) (r2 : R' 2 = R 2) : cDr D' R' G' E' := by
  obtain ⟨d, d1, d2, d3⟩ := h
  obtain ⟨k1, k2⟩ := hk d d1 d2.1 d2.2.2.1
  exact ⟨d, by rw [r0]; exact d1, by rw [e0, e1]; exact tx_k d2 k1 k2, by rw [r2]; exact d3⟩
theorem ro_k {D D' : xD} {R R' : xR} {G G' : xG} {E E' : xD} {b r : Nat} (h : ro D R G b E r) (h3 : Kc D D' R R' G G' b) (k1 : Kc D D' R R' G G' (b + 1)) (k2 : Kc D D' R R' G G' (b + 2)) (k3 : Kc D D' R R' G G' (b + 3)) (e4 : E' 4 r = E 4 r) (e5 : ∀ k, k < ix (E 4 r) → E' 5 (8 * r + k) = E 5 (8 * r + k) ∧ E' 6 (8 * r + k) = E 6 (8 * r + k) ∧ E' 7 (8 * r + k) = E 7 (8 * r + k)) : ro D' R' G' b E' r := by
  obtain ⟨g1, g2, g3, g4, g5⟩ := h
  refine ⟨h3.is g1, ?_, ⟨k1.ia g3.1, k2.ia g3.2.1, k3.ia g3.2.2⟩, ?_, fun k hk => ?_⟩
  · rw [h3.2.2.2]; exact g2
  · rw [h3.2.2.1, e4]; exact g4
  · rw [e4] at hk
    rw [k1.2.2.1, k2.2.2.1, k3.2.2.1, (e5 k hk).1, (e5 k hk).2.1, (e5 k hk).2.2]
    exact g5 k hk
theorem cRo_k {D D' : xD} {R R' : xR} {G G' : xG} {E E' : xD} (h : cRo D R G E) (h3 : ∀ p, xis G p 3 → Kc D D' R R' G G' p) (h8 : ∀ p, xia G p 0 8 → Kc D D' R R' G G' p) (e0 : E' 0 6 = E 0 6) (e4 : E' 4 = E 4) (e5 : E' 5 = E 5) (e6 : E' 6 = E 6) (e7 : E' 7 = E 7) (r3 : R' 3 = R 3) : cRo D' R' G' E' := by
  obtain ⟨t1, t2⟩ := h
  rw [cRo, e0, r3]
  refine ⟨fun t ht => ?_, t2⟩
  obtain ⟨b, b1, b2⟩ := t1 t ht
  exact ⟨b, b1, ro_k b2 (h3 _ b2.1) (h8 _ b2.2.2.1.1) (h8 _ b2.2.2.1.2.1) (h8 _ b2.2.2.1.2.2) (by rw [e4]) (fun k _ => by rw [e5, e6, e7]; exact ⟨rfl, rfl, rfl⟩)⟩
theorem ar_k {D D' : xD} {R R' : xR} {G G' : xG} {E E' : xD} {b a : Nat} (h : ar D R G b E a) (k0 : Kc D D' R R' G G' b) (k1 : Kc D D' R R' G G' (b + 1)) (e8 : E' 8 a = E 8 a) (e9 : ∀ i, i < 10 → E' 9 (10 * a + i) = E 9 (10 * a + i)) : ar D' R' G' b E' a := by
  obtain ⟨g1, g2, g3, g4, g5⟩ := h
  refine ⟨k0.is g1, by rw [k0.2.2.2]; exact g2, k1.ia g3, by rw [k0.2.2.1, e8]; exact g4, fun i hi => ?_⟩
  rw [k1.2.2.1, e9 i hi]
  exact g5 i hi
theorem cAr_k {D D' : xD} {R R' : xR} {G G' : xG} {E E' : xD} (h : cAr D R G E) (h8 : ∀ p, xis G p 8 → Kc D D' R R' G G' p) (h10 : ∀ p, xia G p 0 10 → 47 ≤ p → Kc D D' R R' G G' p) (hX : xFix G R) (e0 : E' 0 11 = E 0 11) (e8 : E' 8 = E 8) (e9 : E' 9 = E 9) (r4 : R' 4 = R 4) : cAr D' R' G' E' := by
  obtain ⟨t1, t2⟩ := h
  rw [cAr, e0, r4]
  refine ⟨fun t ht => ?_, t2⟩
  obtain ⟨b, b1, b2⟩ := t1 t ht
  have hb : 47 ≤ b := by
    by_cases q : b < 47
    · have e := (hX.2.1 b q).symm.trans b2.1.2
      exact absurd e ((show ∀ p, p < 47 → fxK p ≠ (8, 0) by decide) b q)
    · omega
  exact ⟨b, b1, ar_k b2 (h8 _ b2.1) (h10 _ b2.2.2.1 (by omega)) (by rw [e8]) (fun i _ => by rw [e9])⟩
theorem ln_k {D D' : xD} {R R' : xR} {G G' : xG} {E E' : xD} {q v : Nat} (h : ln D R G q E v) (k0 : Kc D D' R R' G G' q) (k1 : Kc D D' R R' G G' (q + 1)) (e13 : E' 13 v = E 13 v) (e14 : ∀ k, k < ix (E 13 v) → E' 14 (41 * v + k) = E 14 (41 * v + k)) : ln D' R' G' q E' v := by
  obtain ⟨g1, g2, g3, g4, g5⟩ := h
  refine ⟨k0.is g1, by rw [k0.2.2.2]; exact g2, k1.ia g3, by rw [k0.2.2.1, e13]; exact g4, fun i hi => ?_⟩
  rw [e13] at hi
  rw [k1.2.2.1, e14 i hi]
  exact g5 i hi
theorem rw_k {D D' : xD} {R R' : xR} {G G' : xG} {E E' : xD} {b v : Nat} (h : rw_ D R G b E v) (k1 : Kc D D' R R' G G' (b + 1)) (k2 : Kc D D' R R' G G' (b + 2)) (k3 : Kc D D' R R' G G' (b + 3)) (e15 : ∀ n, n < 12 → E' 15 (12 * v + n) = E 15 (12 * v + n) ∧ ∀ i, i < ix (E 15 (12 * v + n)) → E' 16 (4 * (12 * v + n) + i) = E 16 (4 * (12 * v + n) + i)) : rw_ D' R' G' b E' v := by
  obtain ⟨g1, g2, g3, g4, g5, g6⟩ := h
  refine ⟨k1.is g1, by rw [k1.2.2.2]; exact g2, by rw [k1.2.2.2]; exact g3, k2.ia g4, k3.ia g5, fun n hn => ?_⟩
  rw [k2.2.2.1, k3.2.2.1, (e15 n hn).1]
  refine ⟨(g6 n hn).1, fun i hi => ?_⟩
  rw [(e15 n hn).2 i hi]
  exact (g6 n hn).2 i hi
theorem th_k {D D' : xD} {R R' : xR} {G G' : xG} {E E' : xD} {b v : Nat} (h : th D R G b E v) (h6 : ∀ p, xis G p 6 → Kc D D' R R' G G' p) (h1 : ∀ p, xis G p 1 → Kc D D' R R' G G' p) (h4 : ∀ p, xis G p 4 → Kc D D' R R' G G' p) (h40 : ∀ p, xia G p 0 40 → 47 ≤ p → Kc D D' R R' G G' p) (h12 : ∀ p, xia G p 0 12 → Kc D D' R R' G G' p) (h48 : ∀ p, xia G p 0 48 → Kc D D' R R' G G' p) (hX : xFix G R) (e10 : E' 10 v = E 10 v) (e11 : E' 11 v = E 11 v) (e12 : E' 12 v = E 12 v) (e17 : E' 17 v = E 17 v) (e18 : E' 18 v = E 18 v) (e13 : E' 13 v = E 13 v) (e14 : ∀ k, k < ix (E 13 v) → E' 14 (41 * v + k) = E 14 (41 * v + k)) (e15 : ∀ n, n < 12 → E' 15 (12 * v + n) = E 15 (12 * v + n) ∧ ∀ i, i < ix (E 15 (12 * v + n)) → E' 16 (4 * (12 * v + n) + i) = E 16 (4 * (12 * v + n) + i)) (r2 : ¬ E 17 v = 0 → R' 2 (ix (E 17 v) - 101) = R 2 (ix (E 17 v) - 101)) : th D' R' G' b E' v := by
  obtain ⟨⟨g1, g2⟩, g3, g4, ⟨q, q1, q2⟩, g6⟩ := h
  have k := h6 _ g1
  have hq : 47 ≤ q := by
    by_cases z : q < 47
    · have e := (hX.2.1 q z).symm.trans q2.1.2
      exact absurd e ((show ∀ p, p < 47 → fxK p ≠ (1, 0) by decide) q z)
    · omega
  refine ⟨⟨k.is g1, by rw [k.2.2.2]; exact g2⟩, ?_, ?_, ⟨q, by rw [k.2.2.2]; exact q1, ln_k q2 (h1 _ q2.1) (h40 _ q2.2.2.1 (by omega)) e13 e14⟩, rw_k g6 (h4 _ g6.1) (h12 _ g6.2.2.2.1) (h48 _ g6.2.2.2.2.1) e15⟩
  · rw [k.2.2.1, e10, e11, e12, e18]; exact g3
  · rw [k.2.2.2, e17]
    rcases g4 with z | ⟨z1, z2⟩
    · exact Or.inl z
    · exact Or.inr ⟨z1, by rw [r2 z1]; exact z2⟩
theorem cTh_k {D D' : xD} {R R' : xR} {G G' : xG} {E E' : xD} (h : cTh D R G E) (h6 : ∀ p, xis G p 6 → Kc D D' R R' G G' p) (h1 : ∀ p, xis G p 1 → Kc D D' R R' G G' p) (h4 : ∀ p, xis G p 4 → Kc D D' R R' G G' p) (h40 : ∀ p, xia G p 0 40 → 47 ≤ p → Kc D D' R R' G G' p) (h12 : ∀ p, xia G p 0 12 → Kc D D' R R' G G' p) (h48 : ∀ p, xia G p 0 48 → Kc D D' R R' G G' p) (hX : xFix G R) (e0 : E' 0 14 = E 0 14) (he : ∀ j, 10 ≤ j → j ≤ 18 → E' j = E j) (r1 : R' 1 = R 1) (r2 : ∀ v, 1 ≤ v → v ≤ ix (E 0 14) → ¬ E 17 v = 0 → R' 2 (ix (E 17 v) - 101) = R 2 (ix (E 17 v) - 101)) : cTh D' R' G' E' := by
  obtain ⟨t1, t2⟩ := h
  rw [cTh, e0, r1]
  refine ⟨fun v v1 v2 => ?_, t2⟩
  obtain ⟨b, b1, b2⟩ := t1 v v1 v2
  exact ⟨b, b1, th_k b2 h6 h1 h4 h40 h12 h48 hX (by rw [he 10 (by decide) (by decide)]) (by rw [he 11 (by decide) (by decide)]) (by rw [he 12 (by decide) (by decide)]) (by rw [he 17 (by decide) (by decide)]) (by rw [he 18 (by decide) (by decide)]) (by rw [he 13 (by decide) (by decide)]) (fun _ _ => by rw [he 14 (by decide) (by decide)]) (fun _ _ => by rw [he 15 (by decide) (by decide), he 16 (by decide) (by decide)]; exact ⟨rfl, fun _ _ => rfl⟩) (r2 v v1 v2)⟩
/-- the fixed objects' relation needs their cells alone -/
theorem cFix_k {D D' E E' : xD} (hA : cA D E) (hFl : cFl D E) (hOu : cOu D E) (hTr : cTr D E) (d : ∀ p, p < 17 → p ≠ 0 → p ≠ 11 → p ≠ 12 → D' p = D p) (d0 : ∀ k, k = 8 ∨ k = 9 ∨ k = 10 ∨ k = 11 ∨ k = 12 ∨ k = 13 → D' 0 k = D 0 k) (e0 : ∀ k, k = 0 ∨ k = 3 ∨ k = 6 ∨ k = 11 ∨ k = 14 ∨ k = 27 ∨ k = 29 ∨ k = 41 ∨ k = 42 → E' 0 k = E 0 k) (e : ∀ j, 19 ≤ j → j ≤ 23 → E' j = E j) : cA D' E' ∧ cFl D' E' ∧ cOu D' E' ∧ cTr D' E' := by
  refine ⟨?_, ?_, ?_, ?_⟩
  · unfold cA
    rw [d0 8 (by decide), d0 9 (by decide), d0 10 (by decide), d0 11 (by decide), d0 12 (by decide), d0 13 (by decide), e0 14 (by decide), e0 3 (by decide), e0 6 (by decide), e0 11 (by decide), e0 41 (by decide), e0 42 (by decide)]
    exact hA
  · unfold cFl
    rw [d 13 (by decide) (by decide) (by decide) (by decide), d 14 (by decide) (by decide) (by decide) (by decide), d 15 (by decide) (by decide) (by decide) (by decide), d 16 (by decide) (by decide) (by decide) (by decide), e0 0 (by decide), e0 27 (by decide), e 22 (by decide) (by decide)]
    exact hFl
  · unfold cOu
    rw [d 9 (by decide) (by decide) (by decide) (by decide), d 10 (by decide) (by decide) (by decide) (by decide), e0 29 (by decide), e 23 (by decide) (by decide)]
    exact hOu
  · unfold cTr
    rw [d 6 (by decide) (by decide) (by decide) (by decide), d 7 (by decide) (by decide) (by decide) (by decide), d 8 (by decide) (by decide) (by decide) (by decide), e 19 (by decide) (by decide), e 20 (by decide) (by decide), e 21 (by decide) (by decide)]
    exact hTr
/-- the pile is nobody's business -/
theorem Sim_ms {D : xD} {R : xR} {G : xG} {E S : xD} (h : Sim D R G E) : Sim D R G (ms S E) := by
  have hj : ∀ j, j ≠ 0 → j ≤ 23 → ms S E j = E j := fun j a b => ms_j a (by omega)
  have h0 : ∀ k, k ≠ 31 → k ≠ 32 → k ≠ 39 → k ≠ 40 → ms S E 0 k = E 0 k := fun k a b c d => ms_0 (by unfold msc; simp; omega)
  have kk : ∀ p, Kc D D R R G G p := fun p => ⟨id, rfl, rfl, rfl⟩
  obtain ⟨f1, f2, f3, f4⟩ := cFix_k (D' := D) (E' := ms S E) h.A h.fl h.ou h.tr (fun _ _ _ _ _ => rfl) (fun _ _ => rfl) (fun k hk => h0 k (by omega) (by omega) (by omega) (by omega)) (fun j a b => hj j (by omega) b)
  refine ⟨h.X, by rw [ms_Iv]; exact h.I, ?_, f1, f2, f3, f4, ?_, ?_, ?_, ?_, ?_⟩
  · have := h.F
    unfold Fsh at this ⊢
    rw [h0 6 (by decide) (by decide) (by decide) (by decide), h0 11 (by decide) (by decide) (by decide) (by decide), h0 14 (by decide) (by decide) (by decide) (by decide), h0 42 (by decide) (by decide) (by decide) (by decide), h0 0 (by decide) (by decide) (by decide) (by decide), hj 4 (by decide) (by decide), hj 9 (by decide) (by decide), hj 10 (by decide) (by decide), hj 11 (by decide) (by decide), hj 12 (by decide) (by decide), hj 15 (by decide) (by decide), hj 17 (by decide) (by decide), hj 18 (by decide) (by decide)]
    exact this
  · exact cDr_k h.dr (fun p _ _ _ => ⟨kk _, kk _⟩) (h0 1 (by decide) (by decide) (by decide) (by decide)) (hj 1 (by decide) (by decide)) rfl rfl
  · exact cTx_k h.tx (fun p t _ _ _ _ => ⟨kk _, kk _⟩) (h0 3 (by decide) (by decide) (by decide) (by decide)) (hj 2 (by decide) (by decide)) (hj 3 (by decide) (by decide)) rfl
  · exact cRo_k h.ro (fun p _ => kk _) (fun p _ => kk _) (h0 6 (by decide) (by decide) (by decide) (by decide)) (hj 4 (by decide) (by decide)) (hj 5 (by decide) (by decide)) (hj 6 (by decide) (by decide)) (hj 7 (by decide) (by decide)) rfl
  · exact cAr_k h.ar (fun p _ => kk _) (fun p _ _ => kk _) h.X (h0 11 (by decide) (by decide) (by decide) (by decide)) (hj 8 (by decide) (by decide)) (hj 9 (by decide) (by decide)) rfl
  · exact cTh_k h.th (fun p _ => kk _) (fun p _ => kk _) (fun p _ => kk _) (fun p _ _ => kk _) (fun p _ => kk _) (fun p _ => kk _) h.X (h0 14 (by decide) (by decide) (by decide) (by decide)) (fun j a b => hj j (by omega) (by omega)) rfl (fun _ _ _ _ => rfl)
