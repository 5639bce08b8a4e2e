theorem Src_new {m : Nat} {D D' E : xD} {R R' : xR} {G G' : xG} (h : S0 D R G E) (hN0 : LN E) (g : Gr m G.1 D D' R R' G G') {F : xD} {o b : Nat} (hN : LN F) (f14 : F 0 14 = nI o) (ho : o = ix (E 0 14) + 1) (o41 : o < 41) (f10 : F 10 o = 0) (f15 : F 15 = E 15) (f16 : F 16 = E 16) (hb : G.1 ≤ b) : Src D' R' G' F o b (fun j => ix (F 14 (41 * o + j))) (fun j => (R' 1 (ix (F 14 (41 * o + j)) - 1)).getD 0) := fun j hj => by
  obtain ⟨hS', -⟩ := S0_grow h g (Nat.le_refl _)
  have h47 := h.1.1
  have hc := (hN.2.2 o o41).2.1 j hj
  obtain ⟨e, a1, a2, a3⟩ := isC_n hN.1 hc
  rw [f14, ix_nI (by omega)] at a2
  have hne : ix (F 14 (41 * o + j)) ≠ o := fun q => hc.2 (by rw [q]; exact f10)
  obtain ⟨c, c1, c2⟩ := h.2.2.2.2.2.2.1 (ix (F 14 (41 * o + j))) a1 (by omega)
  obtain ⟨c', c1', c2'⟩ := hS'.2.2.2.2.2.2.1 (ix (F 14 (41 * o + j))) a1 (by omega)
  have r1 : R' 1 = R 1 := (g.2.2 1 (by omega) (by omega)).2
  have ec : c' = c := by
    rw [r1, c1] at c1'
    injection c1' with q
    exact q.symm
  subst ec
  have lt := c2.1.1.1
  refine ⟨e, a1, (by show ix (F 14 (41 * o + j)) < 41; omega), hne, ?_, ?_, ?_, ?_, ?_, ?_⟩
  · rw [← e, hS'.2.1.1.1]
    refine sIn_t.mpr ⟨(sIn_t.mp hc.1).1, ?_⟩
    rw [e, show E 0 14 = nI (ix (E 0 14)) from (vi_n hN0.1 (by decide)).1]
    exact nI_le (by omega) (by omega)
  · show R' 1 (ix (F 14 (41 * o + j)) - 1) = some ((R' 1 (ix (F 14 (41 * o + j)) - 1)).getD 0)
    rw [c1']
    rfl
  · show xis G' ((R' 1 (ix (F 14 (41 * o + j)) - 1)).getD 0) 6
    rw [c1']
    exact c2'.1.1
  · show R' ((R' 1 (ix (F 14 (41 * o + j)) - 1)).getD 0) 3 = some ((R' 1 (ix (F 14 (41 * o + j)) - 1)).getD 0 + 1)
    rw [c1']
    exact c2'.1.2
  · show rw_ D' R' G' ((R' 1 (ix (F 14 (41 * o + j)) - 1)).getD 0) F (ix (F 14 (41 * o + j)))
    rw [c1']
    have z := c2'.2.2.2.2
    unfold rw_ at z ⊢
    rw [f15, f16]
    exact z
  · show (R' 1 (ix (F 14 (41 * o + j)) - 1)).getD 0 ≠ b
    rw [c1']
    show c' ≠ b
    omega
/-- a thing that takes its rows, and is entered -/
theorem mk_take {Γ : xGm} {l : Launch} {f m : Nat} {D D1 E : xD} {R R1 : xR} {G G1 : xG} (hf : 6 ≤ f) (h : S0 D R G E) (hN0 : LN E) (hF : Fsh E) (g : Gr m G.1 D D1 R R1 G G1) {F : xD} {n b q : Nat} (hn : E 0 14 = nI n) (n40 : n < 40) (hN : LN F) (f14 : F 0 14 = nI (n + 1)) (hw : Nw E F (n + 1)) (f10 : F 10 (n + 1) = 0) (f11 : F 11 (n + 1) = 0 ∨ F 11 (n + 1) = 1) (f12 : F 12 (n + 1) = 0) (f15 : F 15 = E 15) (f16 : F 16 = E 16) (hb : G.1 ≤ b) (k6 : xis G1 b 6) (r3 : R1 b 3 = some (b + 1)) (r1 : R1 b 1 = some q) (r5 : R1 b 5 = none) (hk : rk R1 G1 (b + 1)) (d0 : D1 b 0 = 0) (d2 : D1 b 2 = 0) (d4 : D1 b 4 = F 11 (n + 1)) (d6 : D1 b 6 = 0) (hln : ln D1 R1 G1 q F (n + 1)) : ∃ D2, Cn Γ l f MX9_takeRowsOfLine [.ref 0, .ref b] G1 D1 R1 0 0 (xdet none G1 D2 R1) ∧ D2 0 8 = nI n ∧ S0 (xdu D2 0 8 (nI (n + 1))) (xru R1 1 n (some b)) G1 (sRows F (nI (n + 1))) ∧ Sam D (xdu D2 0 8 (nI (n + 1))) ∧ (∀ p, p ≠ b + 2 → p ≠ b + 3 → D2 p = D1 p) ∧ LN (sRows F (nI (n + 1))) ∧ Nw E (sRows F (nI (n + 1))) (n + 1) ∧ Fsh (sRows F (nI (n + 1))) ∧ ∀ j, j ≠ 15 → j ≠ 16 → sRows F (nI (n + 1)) j = F j := by
  have h47 := h.1.1
  have i14 : ix (E 0 14) = n := by rw [hn, ix_nI (by omega)]
  obtain ⟨hS1, hM1⟩ := S0_grow h g (Nat.le_refl _)
  have hs := Src_new (b := b) h hN0 g hN f14 (by omega) (by omega) f10 f15 f16 hb
  obtain ⟨t1, t2⟩ := take_rw hk hs (by omega) (hN.2.2 _ (by omega)).1 hN.2.1
  have hc := c_take (Γ := Γ) (l := l) (f := f) hf hS1.1 (hS1.n8 hN0) k6 r3 r1 hln (hN.2.2 _ (by omega)).1 (by omega) hk hs hN.2.1
  have hD : ∀ p, p ≠ b + 2 → p ≠ b + 3 → cTk (xfz D1 (b + 2) 12) (b + 1) (fun j => (fun j => (R1 1 (ix (F 14 (41 * (n + 1) + j)) - 1)).getD 0) j + 1) 0 (ix (F 13 (n + 1))) p = D1 p := fun p a c => by
    rw [cTk_ne a c]
    exact xfz_ne a
  generalize cTk (xfz D1 (b + 2) 12) (b + 1) (fun j => (fun j => (R1 1 (ix (F 14 (41 * (n + 1) + j)) - 1)).getD 0) j + 1) 0 (ix (F 13 (n + 1))) = D2 at *
  obtain ⟨j1, j2⟩ := sRows_LN (o := n + 1) hN (by omega)
  have hw2 := hw.tr (Nw.rows (by omega) hN t2)
  have g2 : Gr m G.1 D D2 R R1 G G1 := g.set (fun p hp => hD p (by omega) (by omega)) (fun _ _ => rfl)
  obtain ⟨hS2, hM2⟩ := S0_grow h g2 (Nat.le_refl _)
  have nb0 : q ≠ b + 2 := xis_xia hln.1 hk.2.2.2.1 (by decide)
  have nb1 : q ≠ b + 3 := xis_xia hln.1 hk.2.2.2.2 (by decide)
  have nb2 : q + 1 ≠ b + 2 := xia_ne hln.2.2.1 hk.2.2.2.1 (by decide)
  have nb3 : q + 1 ≠ b + 3 := xia_ne hln.2.2.1 hk.2.2.2.2 (by decide)
  have hth : th D2 R1 G1 b (sRows F (nI (n + 1))) (n + 1) := by
    obtain ⟨z1, z2, z3, z4, z5⟩ := hF.2.2.1 (n + 1) (by omega) (by omega)
    refine ⟨⟨k6, r3⟩, ?_, Or.inl ⟨?_, r5⟩, ⟨q, r1, hln.same (hD _ nb0 nb1) (hD _ nb2 nb3) (by rw [j2 13 (by decide) (by decide)]) (fun k _ => by rw [j2 14 (by decide) (by decide)]) (Nat.le_trans (hN.2.2 _ (by omega)).1.le (by decide))⟩, t1⟩
    · rw [hD b (by omega) (by omega), j2 10 (by decide) (by decide), j2 11 (by decide) (by decide), j2 12 (by decide) (by decide), j2 18 (by decide) (by decide), f10, f12, hw.2.1 18 (by decide) (by decide), z4]
      exact ⟨d0, d2, d4, d6⟩
    · rw [j2 17 (by decide) (by decide), hw.2.1 17 (by decide) (by decide), z3]
  have e14 : sRows F (nI (n + 1)) 0 14 = nI (n + 1) := by rw [j2 0 (by decide) (by decide)]; exact f14
  have hfr : ∀ v, 1 ≤ v → v ≤ n → ¬ R1 1 (v - 1) = some b := fun v v1 v2 e => by
    obtain ⟨c, c1, c2⟩ := h.2.2.2.2.2.2.1 v v1 (by omega)
    have r1 : R1 1 = R 1 := (g.2.2 1 (by omega) (by omega)).2
    rw [r1, c1] at e
    cases e
    have := c2.1.1.1
    omega
  obtain ⟨k1, k2⟩ := S0_link hS2 hn n40 hfr hth hw2 e14 (fun v hv => Nat.le_trans (hN0.2.2 v hv).1.le (by decide))
  exact ⟨D2, hc, by rw [hS2.2.1.1.1]; exact hn, k1, hM2.tr k2, hD, j1, hw2, hF.nw hw2 (by omega) (by omega) e14 (by rw [j2 10 (by decide) (by decide)]; exact Or.inl f10) (by rw [j2 11 (by decide) (by decide)]; exact f11), j2⟩
