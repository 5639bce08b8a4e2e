/-! ===== one thing's own cells change: the rest stands ===== -/
theorem fxk6 : ∀ p, p < 47 → fxK p ≠ (6, 0) ∧ fxK p ≠ (16, 12) ∧ fxK p ≠ (16, 48) := by decide
theorem fx_n6 {G : xG} {R : xR} (hX : xFix G R) {p b : Nat} (hp : p < 47) (h : xis G b 6) : p ≠ b := fun e => by
  subst e
  exact (fxk6 p hp).1 ((hX.2.1 p hp).symm.trans h.2)
theorem fx_n12 {G : xG} {R : xR} (hX : xFix G R) {p b : Nat} (hp : p < 47) (h : xia G b 0 12) : p ≠ b := fun e => by
  subst e
  exact (fxk6 p hp).2.1 ((hX.2.1 p hp).symm.trans h.2)
theorem fx_n48 {G : xG} {R : xR} (hX : xFix G R) {p b : Nat} (hp : p < 47) (h : xia G b 0 48) : p ≠ b := fun e => by
  subst e
  exact (fxk6 p hp).2.2 ((hX.2.1 p hp).symm.trans h.2)
theorem fxR_47 : ∀ w ∈ fxR, w.1 < 47 := by decide
theorem Sim_th {D D' : xD} {R R' : xR} {G : xG} {E E' : xD} {v b : Nat} (h : Sim D R G E) (v1 : 1 ≤ v) (v2 : v ≤ ix (E 0 14)) (hb : R 1 (v - 1) = some b) (hD : ∀ p, p ≠ b → p ≠ b + 2 → p ≠ b + 3 → D' p = D p) (hR : ∀ p k, ¬ (p = b ∧ k = 5) → R' p k = R p k) (hI : Iv E') (hF : Fsh E') (hE : ∀ j, j ≠ 11 → j ≠ 15 → j ≠ 16 → j ≠ 17 → j ≠ 18 → E' j = E j) (hE11 : ∀ u, u ≠ v → E' 11 u = E 11 u ∧ E' 17 u = E 17 u ∧ E' 18 u = E 18 u) (hE15 : ∀ u n, u ≠ v → u < 41 → n < 12 → E' 15 (12 * u + n) = E 15 (12 * u + n)) (hE16 : ∀ u n i, u ≠ v → u < 41 → n < 12 → i < ix (E 15 (12 * u + n)) → i < 4 → E' 16 (4 * (12 * u + n) + i) = E 16 (4 * (12 * u + n) + i)) (hth : th D' R' G b E' v) : Sim D' R' G E' ∧ Sam D D' := by
  have hX := h.X
  have k6 := hth.1.1
  have k12 := hth.2.2.2.2.2.2.2.1
  have k48 := hth.2.2.2.2.2.2.2.2.1
  have hRp : ∀ p, p ≠ b → R' p = R p := fun p hp => funext (fun k => hR p k (fun q => hp q.1))
  have hfx : ∀ p, p < 47 → D' p = D p := fun p hp => hD p (fx_n6 hX hp k6) (fx_n12 hX hp k12) (fx_n48 hX hp k48)
  have hfR : ∀ p, p < 47 → R' p = R p := fun p hp => hRp p (fx_n6 hX hp k6)
  have e0 : E' 0 = E 0 := hE 0 (by decide) (by decide) (by decide) (by decide) (by decide)
  have hob : ∀ p c, xis G p c → c < 16 → c ≠ 6 → D' p = D p := fun p c hp hc h6 => hD p (xis_ne hp k6 h6) (xis_xia hp k12 hc) (xis_xia hp k48 hc)
  have hob2 : ∀ p c, xis G p c → c ≠ 6 → R' p = R p := fun p c hp h6 => hRp p (xis_ne hp k6 h6)
  have har : ∀ p t n, xia G p t n → (t ≠ 0 ∨ n ≠ 12) → (t ≠ 0 ∨ n ≠ 48) → D' p = D p := fun p t n hp h1 h2 => hD p (Ne.symm (xis_xia k6 hp (by decide))) (xia_ne hp k12 h1) (xia_ne hp k48 h2)
  have htxs : ∀ d f n, tx D R G d f n → tx D' R' G d f n := fun d f n z => z.same (hob _ _ z.1 (by decide) (by decide)) (har _ _ _ z.2.2.1 (by omega) (by omega)) (hob2 _ _ z.1 (by decide))
  refine ⟨⟨⟨hX.1, hX.2.1, fun w hw => by rw [hfR _ (fxR_47 w hw)]; exact hX.2.2 w hw⟩, hI, hF, ?_, ?_, ?_, ?_, ?_, ?_, ?_, ?_, ?_⟩, fun q _ q2 => hfx q q2⟩
  · unfold cA
    rw [hfx 0 (by decide), e0]
    exact h.A
  · unfold cFl
    rw [hfx 13 (by decide), hfx 14 (by decide), hfx 15 (by decide), hfx 16 (by decide), e0, hE 22 (by decide) (by decide) (by decide) (by decide) (by decide)]
    exact h.fl
  · unfold cOu
    rw [hfx 9 (by decide), hfx 10 (by decide), e0, hE 23 (by decide) (by decide) (by decide) (by decide) (by decide)]
    exact h.ou
  · unfold cTr
    rw [hfx 6 (by decide), hfx 7 (by decide), hfx 8 (by decide), hE 19 (by decide) (by decide) (by decide) (by decide) (by decide), hE 20 (by decide) (by decide) (by decide) (by decide) (by decide), hE 21 (by decide) (by decide) (by decide) (by decide) (by decide)]
    exact h.tr
  · obtain ⟨d, d1, d2, d3⟩ := h.dr
    refine ⟨d, by rw [hfR 0 (by decide)]; exact d1, ?_, by rw [hfR 2 (by decide)]; exact d3⟩
    rw [e0, hE 1 (by decide) (by decide) (by decide) (by decide) (by decide)]
    exact htxs _ _ _ d2
  · obtain ⟨t1, t2⟩ := h.tx
    rw [cTx, e0, hfR 2 (by decide), hE 3 (by decide) (by decide) (by decide) (by decide) (by decide), hE 2 (by decide) (by decide) (by decide) (by decide) (by decide)]
    refine ⟨fun t ht => ?_, t2⟩
    obtain ⟨c, c1, c2⟩ := t1 t ht
    exact ⟨c, c1, htxs _ _ _ c2⟩
  · obtain ⟨t1, t2⟩ := h.ro
    rw [cRo, e0, hfR 3 (by decide)]
    refine ⟨fun t ht => ?_, t2⟩
    obtain ⟨c, c1, c2⟩ := t1 t ht
    refine ⟨c, c1, ?_⟩
    unfold ro at c2 ⊢
    rw [hE 4 (by decide) (by decide) (by decide) (by decide) (by decide), hE 5 (by decide) (by decide) (by decide) (by decide) (by decide), hE 6 (by decide) (by decide) (by decide) (by decide) (by decide), hE 7 (by decide) (by decide) (by decide) (by decide) (by decide), hob _ _ c2.1 (by decide) (by decide), hob2 _ _ c2.1 (by decide), har _ _ _ c2.2.2.1.1 (by omega) (by omega), har _ _ _ c2.2.2.1.2.1 (by omega) (by omega), har _ _ _ c2.2.2.1.2.2 (by omega) (by omega)]
    exact c2
  · obtain ⟨t1, t2⟩ := h.ar
    rw [cAr, e0, hfR 4 (by decide)]
    refine ⟨fun t ht => ?_, t2⟩
    obtain ⟨c, c1, c2⟩ := t1 t ht
    refine ⟨c, c1, ?_⟩
    unfold ar at c2 ⊢
    rw [hE 8 (by decide) (by decide) (by decide) (by decide) (by decide), hE 9 (by decide) (by decide) (by decide) (by decide) (by decide), hob _ _ c2.1 (by decide) (by decide), hob2 _ _ c2.1 (by decide), har _ _ _ c2.2.2.1 (by omega) (by omega)]
    exact c2
  · obtain ⟨t1, t2⟩ := h.th
    rw [cTh, e0, hfR 1 (by decide)]
    refine ⟨fun u u1 u2 => ?_, t2⟩
    by_cases huv : u = v
    · subst huv
      exact ⟨b, hb, hth⟩
    · obtain ⟨c, c1, c2, c3, c4, ⟨q, q1, q2⟩, c6⟩ := t1 u u1 u2
      have hcb : c ≠ b := fun e => by
        subst e
        exact huv (t2 u v c u1 u2 v1 v2 c1 hb)
      have hDc : D' c = D c := hD c hcb (xis_xia c2.1 k12 (by decide)) (xis_xia c2.1 k48 (by decide))
      have hRc : R' c = R c := hRp c hcb
      refine ⟨c, c1, by rw [hRc]; exact c2, ?_, ?_, ⟨q, by rw [hRc]; exact q1, ?_⟩, ?_⟩
      · rw [hDc, hE 10 (by decide) (by decide) (by decide) (by decide) (by decide), hE 12 (by decide) (by decide) (by decide) (by decide) (by decide), (hE11 u huv).1, (hE11 u huv).2.2]
        exact c3
      · rw [hRc, (hE11 u huv).2.1, hfR 2 (by decide)]
        exact c4
      · unfold ln at q2 ⊢
        rw [hob _ _ q2.1 (by decide) (by decide), hob2 _ _ q2.1 (by decide), har _ _ _ q2.2.2.1 (by omega) (by omega), hE 13 (by decide) (by decide) (by decide) (by decide) (by decide), hE 14 (by decide) (by decide) (by decide) (by decide) (by decide)]
        exact q2
      · obtain ⟨r1, r2, r3, r4, r5, r6⟩ := c6
        have d2 : D' (c + 2) = D (c + 2) := hD _ (Ne.symm (xis_xia k6 r4 (by decide))) (by omega) (xia_ne r4 k48 (by omega))
        have d3 : D' (c + 3) = D (c + 3) := hD _ (Ne.symm (xis_xia k6 r5 (by decide))) (xia_ne r5 k12 (by omega)) (by omega)
        refine ⟨r1, by rw [hob2 _ _ r1 (by decide)]; exact r2, by rw [hob2 _ _ r1 (by decide)]; exact r3, r4, r5, fun n hn => ?_⟩
        have hu41 : u < 41 := by
          have := (vi_n h.B.n14 (by decide)).2
          omega
        rw [d2, d3, hE15 u n huv hu41 hn]
        refine ⟨(r6 n hn).1, fun i hi => ?_⟩
        have hi4 : i < 4 := by
          have := (vi_n (h.B.a15 (t := 12 * u + n) (by omega)) (by decide)).2
          omega
        rw [hE16 u n i huv hu41 hn hi hi4]
        exact (r6 n hn).2 i hi
/-- what a method answers, and what its heap is to the reference's cells -/
def Sq (G : xG) (R : xR) (D : xD) (v : Option Value) (E' : xD) : Option Value → xG → xD → xR → Prop := fun v' G' D' R' => v' = v ∧ G' = G ∧ R' = R ∧ Sim D' R G E' ∧ Sam D D'
theorem Sim.n13 {D E : xD} {R : xR} {G : xG} (h : Sim D R G E) : vp_in (D 13 4) 31 := by rw [h.fl.2.1]; exact h.B.n27
theorem Fsh.e {E E' : xD} (h : Fsh E) (h0 : E' 0 = E 0) (h4 : E' 4 = E 4) (h9 : E' 9 = E 9) (h10 : E' 10 = E 10) (h11 : ∀ v, v < 41 → (E' 11 v = 0 ∨ E' 11 v = 1)) (h11' : ∀ v, ix (E 0 14) < v → v < 41 → E' 11 v = E 11 v) (h12 : E' 12 = E 12) (h15 : ∀ v n, ix (E 0 14) < v → v < 41 → n < 12 → E' 15 (12 * v + n) = E 15 (12 * v + n)) (h17 : E' 17 = E 17) (h18 : E' 18 = E 18) : Fsh E' := by
  unfold Fsh at h ⊢
  rw [h0, h4, h9, h10, h12, h17, h18]
  refine ⟨h.1, h.2.1, fun v a b => ?_, fun v hv => ⟨(h.2.2.2.1 v hv).1, h11 v hv, (h.2.2.2.1 v hv).2.2⟩, h.2.2.2.2⟩
  obtain ⟨z1, z2, z3, z4, z5⟩ := h.2.2.1 v a b
  exact ⟨(h11' v a b).trans z1, z2, z3, z4, fun n hn => (h15 v n a b hn).trans (z5 n hn)⟩
/-- a value of a row is written -/
theorem ix_16 {v n i : Nat} (hv : v < 41) (hn : n < 12) (hi : i < 4) : ix (4 * (12 * nI v + nI n) + nI i) = 4 * (12 * v + n) + i := by
  rw [ix12 hv hn, ix4 (by omega) (by omega)]
theorem Sim_write {D : xD} {R : xR} {G : xG} {E : xD} {v b n i : Nat} {x : Int32} (h : Sim D R G E) (v1 : 1 ≤ v) (v2 : v ≤ ix (E 0 14)) (hb : R 1 (v - 1) = some b) (hth : th D R G b E v) (hn : n < 12) (hi : i < 4) : Sim (xdu D (b + 3) (4 * n + i) x) R G (xdu E 16 (4 * (12 * v + n) + i) x) ∧ Sam D (xdu D (b + 3) (4 * n + i) x) := by
  have v41 : v < 41 := by have := (vi_n h.B.n14 (by decide)).2; omega
  refine Sim_th h v1 v2 hb (fun p _ _ p3 => xdu_ne _ _ _ p3) (fun _ _ _ => rfl) (h.I.free (by decide)) ?_ (fun j _ _ h16 _ _ => xdu_ne _ _ _ h16) (fun u _ => ?_) (fun u m _ _ _ => by rw [xdu_ne _ _ _ (by decide)]) (fun u m k hu _ hm _ hk => by rw [xdu_self, upd_ne _ _ (by omega)]) ?_
  · exact h.F.e (xdu_ne _ _ _ (by decide)) (xdu_ne _ _ _ (by decide)) (xdu_ne _ _ _ (by decide)) (xdu_ne _ _ _ (by decide)) (fun v hv => by rw [xdu_ne _ _ _ (by decide)]; exact (h.F.2.2.2.1 v hv).2.1) (fun v _ _ => by rw [xdu_ne _ _ _ (by decide)]) (xdu_ne _ _ _ (by decide)) (fun v n _ _ _ => by rw [xdu_ne _ _ _ (by decide)]) (xdu_ne _ _ _ (by decide)) (xdu_ne _ _ _ (by decide))
  · rw [xdu_ne _ _ _ (by decide), xdu_ne _ _ _ (by decide), xdu_ne _ _ _ (by decide)]
    exact ⟨rfl, rfl, rfl⟩
  · obtain ⟨c2, c3, c4, ⟨q, q1, q2⟩, r1, r2, r3, r4, r5, r6⟩ := hth
    refine ⟨c2, ?_, ?_, ⟨q, q1, ?_⟩, r1, r2, r3, r4, r5, fun m hm => ?_⟩
    · rw [xdu_ne _ _ _ (by omega), xdu_ne _ _ _ (by decide), xdu_ne _ _ _ (by decide), xdu_ne _ _ _ (by decide), xdu_ne _ _ _ (by decide)]
      exact c3
    · rw [xdu_ne _ _ _ (by decide)]
      exact c4
    · unfold ln at q2 ⊢
      rw [xdu_ne D _ _ (xis_xia q2.1 r5 (by decide)), xdu_ne D _ _ (xia_ne q2.2.2.1 r5 (by omega)), xdu_ne E _ _ (by decide), xdu_ne E _ _ (by decide)]
      exact q2
    · rw [xdu_ne D _ _ (show b + 2 ≠ b + 3 by omega), xdu_ne E _ _ (show (15 : Nat) ≠ 16 by decide), xdu_self, xdu_self]
      refine ⟨(r6 m hm).1, fun k hk => ?_⟩
      have hk4 : k < 4 := by
        have := (vi_n (h.B.a15 (t := 12 * v + m) (by omega)) (by decide)).2
        omega
      by_cases e : m = n ∧ k = i
      · obtain ⟨rfl, rfl⟩ := e
        rw [upd_self, upd_self]
      · rw [upd_ne _ _ (by omega), upd_ne _ _ (by omega)]
        exact (r6 m hm).2 k hk
