/-! ===== things are made: the reference's side ===== -/
def A14 (E : xD) : Prop := ∀ i, i < 1681 → vp_in (E 14 i) 41
theorem A14.add {E : xD} {t g : Int32} (h : A14 E) (hg : vp_in g 41) : A14 (sAddTo E t g) := by
  unfold sAddTo
  split
  · exact h
  · unfold A14
    rw [xdu_ne _ _ _ (by decide), xdu_self]
    exact vp_upd h hg
theorem A14.joinL {t : Int32} {g : Nat} (hg : g < 41) : ∀ (n k : Nat) (E : xD), A14 E → k + n ≤ 41 → A14 (sJoinL E t (nI g) (nI k) n)
  | 0, _, _, h, _ => h
  | n + 1, k, E, h, hk => by
    rw [sJoinL, show nI k + 1 = nI (k + 1) from nI_1 k]
    exact A14.joinL hg n (k + 1) _ (h.add (h _ (by rw [ix41 hg (by omega)]; omega))) (by omega)
theorem A14.join {E : xD} {t : Int32} {g : Nat} (h : A14 E) (hg : g < 41) (hL : Lnp E g) : A14 (sJoin E t (nI g)) := by
  unfold sJoin
  split
  · exact h
  · have := hL.le
    rw [ix_nI (by omega)]
    exact A14.joinL hg (ix (E 13 g)) 0 E h (by omega)
/-- thing o is new: what the others have stands -/
def Nw (E E' : xD) (o : Nat) : Prop := (∀ k, k ≠ 14 → E' 0 k = E 0 k) ∧ (∀ j, j ≠ 0 → (j < 10 ∨ 16 < j) → E' j = E j) ∧ (∀ v, v ≠ o → v < 41 → E' 10 v = E 10 v ∧ E' 11 v = E 11 v ∧ E' 12 v = E 12 v ∧ E' 13 v = E 13 v) ∧ (∀ i, (i < 41 * o ∨ 41 * o + 41 ≤ i) → E' 14 i = E 14 i) ∧ ∀ v n, v ≠ o → v < 41 → n < 12 → E' 15 (12 * v + n) = E 15 (12 * v + n) ∧ ∀ i, i < ix (E 15 (12 * v + n)) → E' 16 (4 * (12 * v + n) + i) = E 16 (4 * (12 * v + n) + i)
theorem Nw.rf {E : xD} {o : Nat} : Nw E E o := ⟨fun _ _ => rfl, fun _ _ _ => rfl, fun _ _ _ => ⟨rfl, rfl, rfl, rfl⟩, fun _ _ => rfl, fun _ _ _ _ _ => ⟨rfl, fun _ _ => rfl⟩⟩
theorem Nw.tr {E E1 E2 : xD} {o : Nat} (h : Nw E E1 o) (h2 : Nw E1 E2 o) : Nw E E2 o := by
  obtain ⟨a1, a2, a3, a4, a5⟩ := h
  obtain ⟨b1, b2, b3, b4, b5⟩ := h2
  refine ⟨fun k hk => (b1 k hk).trans (a1 k hk), fun j h0 hj => (b2 j h0 hj).trans (a2 j h0 hj), fun v hv h41 => ?_, fun i hi => (b4 i hi).trans (a4 i hi), fun v n hv h41 hn => ?_⟩
  · obtain ⟨x1, x2, x3, x4⟩ := a3 v hv h41
    obtain ⟨y1, y2, y3, y4⟩ := b3 v hv h41
    exact ⟨y1.trans x1, y2.trans x2, y3.trans x3, y4.trans x4⟩
  · obtain ⟨x1, x2⟩ := a5 v n hv h41 hn
    obtain ⟨y1, y2⟩ := b5 v n hv h41 hn
    exact ⟨y1.trans x1, fun i hi => (y2 i (by rw [x1]; exact hi)).trans (x2 i hi)⟩
theorem Nw.new {E : xD} {b : Int32} (h : LN E) (hT : ix (E 0 14) < 40) : Nw E (sNew E b) (ix (E 0 14) + 1) := by
  obtain ⟨-, e, -⟩ := sNew_LN (b := b) h hT
  rw [e]
  refine ⟨fun k hk => by rw [xdu_ne _ _ _ (by decide), xdu_self, upd_ne _ _ hk], fun j h0 hj => by rw [xdu_ne _ _ _ (by omega), xdu_ne _ _ _ h0], fun v hv _ => ⟨by rw [xdu_self, upd_ne _ _ hv, xdu_ne _ _ _ (by decide)], by rw [xdu_ne _ _ _ (by decide), xdu_ne _ _ _ (by decide)], by rw [xdu_ne _ _ _ (by decide), xdu_ne _ _ _ (by decide)], by rw [xdu_ne _ _ _ (by decide), xdu_ne _ _ _ (by decide)]⟩, fun i _ => by rw [xdu_ne _ _ _ (by decide), xdu_ne _ _ _ (by decide)], fun v n _ _ _ => ?_⟩
  rw [xdu_ne _ _ _ (show (15 : Nat) ≠ 10 by decide), xdu_ne _ _ _ (show (15 : Nat) ≠ 0 by decide), xdu_ne _ _ _ (show (16 : Nat) ≠ 10 by decide), xdu_ne _ _ _ (show (16 : Nat) ≠ 0 by decide)]
  exact ⟨rfl, fun _ _ => rfl⟩
theorem Nw.line {E E' : xD} {o : Nat} (h : LnS E E' o) : Nw E E' o := by
  obtain ⟨a, b, c⟩ := h
  refine ⟨fun k _ => by rw [a 0 (by decide) (by decide)], fun j h0 hj => a j (by omega) (by omega), fun v hv _ => ⟨by rw [a 10 (by decide) (by decide)], by rw [a 11 (by decide) (by decide)], by rw [a 12 (by decide) (by decide)], b v hv⟩, c, fun v n _ _ _ => ?_⟩
  rw [a 15 (by decide) (by decide), a 16 (by decide) (by decide)]
  exact ⟨rfl, fun _ _ => rfl⟩
theorem Nw.set {E : xD} {o j : Nat} {x : Int32} (hj : j = 11 ∨ j = 12) : Nw E (xdu E j o x) o := by
  refine ⟨fun k _ => by rw [xdu_ne _ _ _ (by omega)], fun i h0 hi => xdu_ne _ _ _ (by omega), fun v hv _ => ?_, fun i _ => by rw [xdu_ne _ _ _ (by omega)], fun v n _ _ _ => ?_⟩
  · refine ⟨by rw [xdu_ne _ _ _ (by omega)], ?_, ?_, by rw [xdu_ne _ _ _ (by omega)]⟩
    · by_cases e : 11 = j
      · rw [← e, xdu_self, upd_ne _ _ hv]
      · rw [xdu_ne _ _ _ e]
    · by_cases e : 12 = j
      · rw [← e, xdu_self, upd_ne _ _ hv]
      · rw [xdu_ne _ _ _ e]
  · rw [xdu_ne _ _ _ (show 15 ≠ j by omega), xdu_ne _ _ _ (show 16 ≠ j by omega)]
    exact ⟨rfl, fun _ _ => rfl⟩
theorem Nw.rows {E : xD} {o : Nat} (ho : o < 41) (hN : LN E) (hoth : ∀ t l, (t < 12 * o ∨ 12 * o + 12 ≤ t) → rs (E 15) (E 16) t l → rs (sRows E (nI o) 15) (sRows E (nI o) 16) t l) : Nw E (sRows E (nI o)) o := by
  have hj := (sRows_LN hN ho).2
  refine ⟨fun k _ => by rw [hj 0 (by decide) (by decide)], fun j h0 h => hj j (by omega) (by omega), fun v _ _ => ⟨by rw [hj 10 (by decide) (by decide)], by rw [hj 11 (by decide) (by decide)], by rw [hj 12 (by decide) (by decide)], by rw [hj 13 (by decide) (by decide)]⟩, fun i _ => by rw [hj 14 (by decide) (by decide)], fun v n hv h41 hn => ?_⟩
  have z := rs_mk (val := E 16) (hN.2.1 (12 * v + n) (by omega))
  have z2 := hoth _ _ (by omega) z
  refine ⟨z2.1.trans z.1.symm, fun i hi => ?_⟩
  rw [rs_len z] at hi
  rw [z2.2.2 i hi, z.2.2 i hi]
/-- what is not there yet stays so -/
theorem Fsh.nw {E E' : xD} {o : Nat} (h : Fsh E) (hn : Nw E E' o) (ho : ix (E 0 14) + 1 = o) (h40 : o ≤ 40) (e14 : E' 0 14 = nI o) (h10 : E' 10 o = 0 ∨ E' 10 o = 1) (h11 : E' 11 o = 0 ∨ E' 11 o = 1) : Fsh E' := by
  obtain ⟨a1, a2, a3, a4, a5⟩ := hn
  unfold Fsh at h ⊢
  rw [e14, ix_nI (by omega), a1 6 (by decide), a1 11 (by decide), a1 42 (by decide), a1 0 (by decide), a2 4 (by decide) (by decide), a2 9 (by decide) (by decide), a2 17 (by decide) (by decide), a2 18 (by decide) (by decide)]
  refine ⟨h.1, h.2.1, fun v v1 v2 => ?_, fun v hv => ?_, h.2.2.2.2⟩
  · obtain ⟨x1, x2, x3, x4⟩ := a3 v (by omega) v2
    obtain ⟨y1, y2, y3, y4, y5⟩ := h.2.2.1 v (by omega) v2
    exact ⟨x2.trans y1, x3.trans y2, y3, y4, fun n hn => (a5 v n (by omega) v2 hn).1.trans (y5 n hn)⟩
  · by_cases e : v = o
    · subst e
      exact ⟨h10, h11, (h.2.2.2.1 v hv).2.2⟩
    · obtain ⟨x1, x2, x3, x4⟩ := a3 v e hv
      rw [x1, x2]
      exact h.2.2.2.1 v hv
/-- a line of nothing becomes the class's line -/
theorem join_copy {o c : Nat} (ho : o < 41) (hc : c < 41) (hne : o ≠ c) : ∀ (n k : Nat) (E : xD), Lnp E c → Lnp E o → E 13 o = nI k → (∀ i, i < k → E 14 (41 * o + i) = E 14 (41 * c + i)) → k + n = ix (E 13 c) → sJoinL E (nI o) (nI c) (nI k) n 13 o = nI (k + n) ∧ ∀ i, i < k + n → sJoinL E (nI o) (nI c) (nI k) n 14 (41 * o + i) = E 14 (41 * c + i)
  | 0, k, E, _, _, h13, h14, _ => ⟨h13, h14⟩
  | n + 1, k, E, hLc, hLo, h13, h14, hk => by
    have hle := hLc.le
    obtain ⟨j, j1, j2, hj⟩ := hLc.2.1 k (by omega)
    have ek : ix (E 13 o) = k := by rw [h13, ix_nI (by omega)]
    rw [sJoinL, ix41 hc (by omega), hj, show nI k + 1 = nI (k + 1) from nI_1 k]
    obtain ⟨s1, s2⟩ := sAddTo_S ho hLo j1 j2
    rcases sAddTo_do ho hLo j1 j2 with ⟨-, i, i1, i2⟩ | ⟨e, -, -⟩
    · rw [ek] at i1
      rw [h14 i i1, ← hj] at i2
      have := hLc.2.2 i k (by omega) (by omega) i2
      omega
    · rw [ek] at e
      have c13 : sAddTo E (nI o) (nI j) 13 c = E 13 c := s1.2.1 c (Ne.symm hne)
      have c14 : ∀ i, i < 41 → sAddTo E (nI o) (nI j) 14 (41 * c + i) = E 14 (41 * c + i) := fun i hi => s1.2.2 _ (by omega)
      have hLc' : Lnp (sAddTo E (nI o) (nI j)) c := by
        refine ⟨by rw [c13]; exact hLc.1, fun i hi => ?_, fun a b ha hb => ?_⟩
        · rw [c13] at hi
          rw [c14 i (by omega)]
          exact hLc.2.1 i hi
        · rw [c13] at ha hb
          rw [c14 a (by omega), c14 b (by omega)]
          exact hLc.2.2 a b ha hb
      have hcp : ∀ i, i < k + 1 → sAddTo E (nI o) (nI j) 14 (41 * o + i) = sAddTo E (nI o) (nI j) 14 (41 * c + i) := fun i hi => by
        rw [c14 i (by omega), e, xdu_ne _ _ _ (by decide), xdu_self]
        by_cases q : i = k
        · subst q
          rw [upd_self]
          exact hj.symm
        · rw [upd_ne _ _ (by omega)]
          exact h14 i (by omega)
      obtain ⟨f1, f2⟩ := join_copy ho hc hne n (k + 1) (sAddTo E (nI o) (nI j)) hLc' s2 (by rw [e, xdu_self, upd_self]) hcp (by rw [c13]; omega)
      refine ⟨by rw [f1]; congr 1; omega, fun i hi => ?_⟩
      rw [f2 i (by omega), c14 i (by omega)]
/-- what always holds, behind a new thing -/
theorem Iv_new {E E' : xD} (h : Iv E) (hN : LN E') (h14 : A14 E') (e0 : ∀ k, k ≠ 14 → E' 0 k = E 0 k) (ej : ∀ j, j ≠ 0 → (j < 10 ∨ 16 < j) → E' j = E j) (h12 : ∀ t, t < 41 → ¬ E' 12 t = 0 → vp_in (E' 12 t) 7 ∧ t + ix (E' 12 t) ≤ ix (E' 0 14)) (hP : PL E') : Iv E' := by
  have hB := h.1
  refine ⟨⟨⟨by rw [e0 1 (by decide)]; exact hB.n1, by rw [e0 3 (by decide)]; exact hB.n3, by rw [e0 6 (by decide)]; exact hB.n6, by rw [e0 11 (by decide)]; exact hB.n11, hN.1, by rw [e0 27 (by decide)]; exact hB.n27, by rw [e0 29 (by decide)]; exact hB.n29, by rw [e0 41 (by decide)]; exact hB.n41⟩, ?_, ?_, ?_, fun t ht => (hN.2.2 t ht).1.1, h14, hN.2.1, ?_, h12, ?_, ?_⟩, hN, h.2.2.1.same (ej 19 (by decide) (by decide)) (ej 20 (by decide) (by decide)) (ej 21 (by decide) (by decide)), hP⟩
  · rw [ej 2 (by decide) (by decide)]; exact fun t ht => hB.a2 ht
  · rw [ej 4 (by decide) (by decide)]; exact fun t ht => hB.a4 ht
  · rw [ej 8 (by decide) (by decide)]; exact fun t ht => hB.a8 ht
  · rw [ej 19 (by decide) (by decide), ej 20 (by decide) (by decide), ej 21 (by decide) (by decide)]; exact fun t ht => ⟨hB.a19 ht, hB.a20 ht, hB.a21 ht⟩
  · rw [ej 17 (by decide) (by decide), e0 3 (by decide)]; exact fun t ht => hB.a17 ht
  · rw [ej 5 (by decide) (by decide)]; exact fun t ht => hB.a5 ht
/-! ===== the class's side: the relation without what always holds ===== -/
def S0 (D : xD) (R : xR) (G : xG) (E : xD) : Prop := xFix G R ∧ (cA D E ∧ cFl D E ∧ cOu D E ∧ cTr D E) ∧ cDr D R G E ∧ cTx D R G E ∧ cRo D R G E ∧ cAr D R G E ∧ cTh D R G E
theorem Sim.s0 {D : xD} {R : xR} {G : xG} {E : xD} (h : Sim D R G E) : S0 D R G E := ⟨h.X, ⟨h.A, h.fl, h.ou, h.tr⟩, h.dr, h.tx, h.ro, h.ar, h.th⟩
theorem S0.sim {D : xD} {R : xR} {G : xG} {E : xD} (h : S0 D R G E) (hI : Iv E) (hF : Fsh E) : Sim D R G E := ⟨h.1, hI, hF, h.2.1.1, h.2.1.2.1, h.2.1.2.2.1, h.2.1.2.2.2, h.2.2.1, h.2.2.2.1, h.2.2.2.2.1, h.2.2.2.2.2.1, h.2.2.2.2.2.2⟩
theorem S0_grow {n q : Nat} {D D' : xD} {R R' : xR} {G G' : xG} {E : xD} (h : S0 D R G E) (g : Gr n q D D' R R' G G') (hq : G.1 ≤ q) : S0 D' R' G' E ∧ Sam D D' := by
  obtain ⟨hX, ⟨hA, hFl, hOu, hTr⟩, hDr, hTx, hRo, hAr, hTh⟩ := h
  have h47 := hX.1
  have kk : ∀ p, p < G.1 → Kc D D' R R' G G' p := fun p hp => g.kc hq hp
  have d : ∀ p, p < 47 → D' p = D p := fun p hp => (kk p (by omega)).2.2.1
  have r : ∀ p, p < 47 → R' p = R p := fun p hp => (kk p (by omega)).2.2.2
  exact ⟨⟨g.fix hq hX, cFix_k (D' := D') (E' := E) hA hFl hOu hTr (fun p a _ _ _ => d p (by omega)) (fun k _ => by rw [d 0 (by decide)]) (fun _ _ => rfl) (fun _ _ _ => rfl), cDr_k hDr (fun p _ a b => ⟨kk _ a.1, kk _ b.1⟩) rfl rfl (by rw [r 0 (by decide)]) (r 2 (by decide)), cTx_k hTx (fun p t _ _ a b => ⟨kk _ a.1, kk _ b.1⟩) rfl rfl rfl (r 2 (by decide)), cRo_k hRo (fun p a => kk _ a.1) (fun p a => kk _ a.1) rfl rfl rfl rfl rfl (r 3 (by decide)), cAr_k hAr (fun p a => kk _ a.1) (fun p a _ => kk _ a.1) hX rfl rfl rfl (r 4 (by decide)), cTh_k hTh (fun p a => kk _ a.1) (fun p a => kk _ a.1) (fun p a => kk _ a.1) (fun p a _ => kk _ a.1) (fun p a => kk _ a.1) (fun p a => kk _ a.1) hX rfl (fun _ _ _ => rfl) (r 1 (by decide)) (fun _ _ _ _ => by rw [r 2 (by decide)])⟩, fun q a b => d q b⟩
/-- a thing is entered into the table -/
theorem S0_link {D : xD} {R : xR} {G : xG} {E E' : xD} {b n : Nat} (h : S0 D R G E) (hn : E 0 14 = nI n) (n40 : n < 40) (hfr : ∀ v, 1 ≤ v → v ≤ n → ¬ R 1 (v - 1) = some b) (hth : th D R G b E' (n + 1)) (hw : Nw E E' (n + 1)) (e14 : E' 0 14 = nI (n + 1)) (hl : ∀ v, v < 41 → ix (E 13 v) ≤ 41) : S0 (xdu D 0 8 (nI (n + 1))) (xru R 1 n (some b)) G E' ∧ Sam D (xdu D 0 8 (nI (n + 1))) := by
  obtain ⟨hX, ⟨hA, hFl, hOu, hTr⟩, hDr, hTx, hRo, hAr, hTh⟩ := h
  obtain ⟨w1, w2, w3, w4, w5⟩ := hw
  have kk : ∀ p, p ≠ 0 → p ≠ 1 → Kc D (xdu D 0 8 (nI (n + 1))) R (xru R 1 n (some b)) G G p := fun p a c => ⟨id, rfl, xdu_ne _ _ _ a, xr_ne c⟩
  have ki : ∀ p c, c ≠ 9 → c < 16 → xis G p c → Kc D (xdu D 0 8 (nI (n + 1))) R (xru R 1 n (some b)) G G p := fun p c a d hp => kk p (xis_ne hp (fx0 hX) a) (xis_xia hp (fx1 hX) d)
  have kia : ∀ p t m, t < 3 → xia G p t m → Kc D (xdu D 0 8 (nI (n + 1))) R (xru R 1 n (some b)) G G p := fun p t m a hp => kk p (Ne.symm (xis_xia (fx0 hX) hp (by decide))) (xia_ne hp (fx1 hX) (by omega))
  have hXr : xFix G (xru R 1 n (some b)) := ⟨hX.1, hX.2.1, fun w hw => by rw [xr_ne ((show ∀ w ∈ fxR, w.1 ≠ 1 by decide) w hw)]; exact hX.2.2 w hw⟩
  have i1 : ix (nI (n + 1)) = n + 1 := ix_nI (by omega)
  have i0 : ix (E 0 14) = n := by rw [hn, ix_nI (by omega)]
  obtain ⟨a1, a2, a3, a4, a5, a6⟩ := hA
  refine ⟨⟨hXr, ⟨?_, ?_, ?_, ?_⟩, ?_, ?_, ?_, ?_, ?_⟩, Sam.set (by omega)⟩
  · unfold cA
    rw [xdu_self, upd_self, upd_ne _ _ (by decide), upd_ne _ _ (by decide), upd_ne _ _ (by decide), upd_ne _ _ (by decide), upd_ne _ _ (by decide), e14, w1 3 (by decide), w1 6 (by decide), w1 11 (by decide), w1 41 (by decide), w1 42 (by decide)]
    exact ⟨rfl, a2, a3, a4, a5, a6⟩
  · unfold cFl
    rw [xdu_ne _ _ _ (show (13 : Nat) ≠ 0 by decide), xdu_ne _ _ _ (show (14 : Nat) ≠ 0 by decide), xdu_ne _ _ _ (show (15 : Nat) ≠ 0 by decide), xdu_ne _ _ _ (show (16 : Nat) ≠ 0 by decide), w1 0 (by decide), w1 27 (by decide), w2 22 (by decide) (by decide)]
    exact hFl
  · unfold cOu
    rw [xdu_ne _ _ _ (show (9 : Nat) ≠ 0 by decide), xdu_ne _ _ _ (show (10 : Nat) ≠ 0 by decide), w1 29 (by decide), w2 23 (by decide) (by decide)]
    exact hOu
  · unfold cTr
    rw [xdu_ne _ _ _ (show (6 : Nat) ≠ 0 by decide), xdu_ne _ _ _ (show (7 : Nat) ≠ 0 by decide), xdu_ne _ _ _ (show (8 : Nat) ≠ 0 by decide), w2 19 (by decide) (by decide), w2 20 (by decide) (by decide), w2 21 (by decide) (by decide)]
    exact hTr
  · exact cDr_k hDr (fun p _ a c => ⟨ki _ _ (by decide) (by decide) a, kia _ _ _ (by decide) c⟩) (w1 1 (by decide)) (w2 1 (by decide) (by decide)) (by rw [xr_ne (by decide)]) (xr_ne (by decide))
  · exact cTx_k hTx (fun p t _ _ a c => ⟨ki _ _ (by decide) (by decide) a, kia _ _ _ (by decide) c⟩) (w1 3 (by decide)) (w2 2 (by decide) (by decide)) (w2 3 (by decide) (by decide)) (xr_ne (by decide))
  · exact cRo_k hRo (fun p a => ki _ _ (by decide) (by decide) a) (fun p a => kia _ _ _ (by decide) a) (w1 6 (by decide)) (w2 4 (by decide) (by decide)) (w2 5 (by decide) (by decide)) (w2 6 (by decide) (by decide)) (w2 7 (by decide) (by decide)) (xr_ne (by decide))
  · exact cAr_k hAr (fun p a => ki _ _ (by decide) (by decide) a) (fun p a _ => kia _ _ _ (by decide) a) hX (w1 11 (by decide)) (w2 8 (by decide) (by decide)) (w2 9 (by decide) (by decide)) (xr_ne (by decide))
  · obtain ⟨t1, t2⟩ := hTh
    rw [i0] at t1 t2
    have r1 : ∀ v, xru R 1 n (some b) 1 v = if v = n then some b else R 1 v := fun v => by
      rw [xr_self]
      by_cases e : v = n
      · rw [e, va_up_self, if_pos rfl]
      · rw [va_up_ne _ _ e, if_neg e]
    rw [cTh, e14, i1]
    refine ⟨fun v v1 v2 => ?_, fun v v' c v1 v2 v1' v2' h1 h2 => ?_⟩
    · rw [r1]
      by_cases e : v = n + 1
      · subst e
        rw [if_pos (by omega)]
        exact ⟨b, rfl, th_k hth (fun p a => ki _ _ (by decide) (by decide) a) (fun p a => ki _ _ (by decide) (by decide) a) (fun p a => ki _ _ (by decide) (by decide) a) (fun p a _ => kia _ _ _ (by decide) a) (fun p a => kia _ _ _ (by decide) a) (fun p a => kia _ _ _ (by decide) a) hX rfl rfl rfl rfl rfl rfl (fun _ _ => rfl) (fun _ _ => ⟨rfl, fun _ _ => rfl⟩) (fun _ => by rw [xr_ne (by decide)])⟩
      · rw [if_neg (by omega)]
        obtain ⟨c, c1, c2⟩ := t1 v v1 (by omega)
        obtain ⟨x1, x2, x3, x4⟩ := w3 v e (by omega)
        have hlv := hl v (by omega)
        exact ⟨c, c1, th_k c2 (fun p a => ki _ _ (by decide) (by decide) a) (fun p a => ki _ _ (by decide) (by decide) a) (fun p a => ki _ _ (by decide) (by decide) a) (fun p a _ => kia _ _ _ (by decide) a) (fun p a => kia _ _ _ (by decide) a) (fun p a => kia _ _ _ (by decide) a) hX x1 x2 x3 (by rw [w2 17 (by decide) (by decide)]) (by rw [w2 18 (by decide) (by decide)]) x4 (fun k hk => w4 _ (by omega)) (fun m hm => w5 v m e (by omega) hm) (fun _ => by rw [xr_ne (by decide)])⟩
    · rw [r1] at h1 h2
      by_cases e : v - 1 = n
      · rw [if_pos e] at h1
        cases h1
        by_cases e' : v' - 1 = n
        · omega
        · rw [if_neg e'] at h2
          exact absurd h2 (hfr v' v1' (by omega))
      · rw [if_neg e] at h1
        by_cases e' : v' - 1 = n
        · rw [if_pos e'] at h2
          cases h2
          exact absurd h1 (hfr v v1 (by omega))
        · rw [if_neg e'] at h2
          exact t2 v v' c v1 (by omega) v1' (by omega) h1 h2
