/-! ===== texts, routines, arrays are made ===== -/
theorem Gr.fix {n q : Nat} {D D' : xD} {R R' : xR} {G G' : xG} (g : Gr n q D D' R R' G G') (hq : G.1 ≤ q) (hX : xFix G R) : xFix G' R' := by
  refine ⟨by rw [g.1]; have := hX.1; omega, fun p hp => ?_, fun w hw => ?_⟩
  · rw [g.2.1 p (by have := hX.1; omega)]
    exact hX.2.1 p hp
  · have := fxR_47 w hw
    have h47 := hX.1
    rw [(g.2.2 w.1 (by omega) (by omega)).2]
    exact hX.2.2 w hw
theorem Gr.kc {n q p : Nat} {D D' : xD} {R R' : xR} {G G' : xG} (g : Gr n q D D' R R' G G') (hq : G.1 ≤ q) (hp : p < G.1) : Kc D D' R R' G G' p := ⟨fun _ => by rw [g.1]; omega, g.2.1 p hp, (g.2.2 p hp (by omega)).1, (g.2.2 p hp (by omega)).2⟩
theorem Sim_grow {n q : Nat} {D D' : xD} {R R' : xR} {G G' : xG} {E : xD} (h : Sim D R G E) (g : Gr n q D D' R R' G G') (hq : G.1 ≤ q) : Sim D' R' G' E ∧ Sam D D' := by
  have h47 := h.X.1
  have kk : ∀ p, p < G.1 → Kc D D' R R' G G' p := fun p hp => g.kc hq hp
  have d : ∀ p, p < 47 → D' p = D p := fun p hp => (kk p (by omega)).2.2.1
  have r : ∀ p, p < 47 → R' p = R p := fun p hp => (kk p (by omega)).2.2.2
  obtain ⟨f1, f2, f3, f4⟩ := cFix_k (D' := D') (E' := E) h.A h.fl h.ou h.tr (fun p a _ _ _ => d p (by omega)) (fun k _ => by rw [d 0 (by decide)]) (fun _ _ => rfl) (fun _ _ _ => rfl)
  exact ⟨⟨g.fix hq h.X, h.I, h.F, f1, f2, f3, f4, cDr_k h.dr (fun p _ a b => ⟨kk _ a.1, kk _ b.1⟩) rfl rfl (by rw [r 0 (by decide)]) (r 2 (by decide)), cTx_k h.tx (fun p t _ _ a b => ⟨kk _ a.1, kk _ b.1⟩) rfl rfl rfl (r 2 (by decide)), cRo_k h.ro (fun p a => kk _ a.1) (fun p a => kk _ a.1) rfl rfl rfl rfl rfl (r 3 (by decide)), cAr_k h.ar (fun p a => kk _ a.1) (fun p a _ => kk _ a.1) h.X rfl rfl rfl (r 4 (by decide)), cTh_k h.th (fun p a => kk _ a.1) (fun p a => kk _ a.1) (fun p a => kk _ a.1) (fun p a _ => kk _ a.1) (fun p a => kk _ a.1) (fun p a => kk _ a.1) h.X rfl (fun _ _ _ => rfl) (r 1 (by decide)) (fun _ _ _ _ => by rw [r 2 (by decide)])⟩, fun q a b => d q b⟩
/-- a routine is entered into the table -/
theorem Sim_linkRo {D : xD} {R : xR} {G : xG} {E : xD} {b : Nat} (h : Sim D R G E) (h20 : ix (E 0 6) < 20) (hn : ∀ r, r < ix (E 0 6) → ¬ R 3 r = some b) (k0 : xis G b 3) (kr : R b 0 = some (b + 1) ∧ R b 1 = some (b + 2) ∧ R b 2 = some (b + 3)) (ka : xia G (b + 1) 0 8 ∧ xia G (b + 2) 0 8 ∧ xia G (b + 3) 0 8) (kd : D b 3 = 0) : Sim (xdu D 0 10 (E 0 6 + 1)) (xru R 3 (ix (E 0 6)) (some b)) G (xdu E 0 6 (E 0 6 + 1)) ∧ Sam D (xdu D 0 10 (E 0 6 + 1)) := by
  have es := vi_s h.B.n6 (by decide)
  have hX := h.X
  have ej : ∀ j, j ≠ 0 → xdu E 0 6 (E 0 6 + 1) j = E j := fun j a => xdu_ne _ _ _ a
  have e0 : ∀ k, k ≠ 6 → xdu E 0 6 (E 0 6 + 1) 0 k = E 0 k := fun k a => by rw [xdu_self, upd_ne _ _ a]
  have e6 : xdu E 0 6 (E 0 6 + 1) 0 6 = nI (ix (E 0 6) + 1) := by rw [xdu_self, upd_self, es]
  have i6 : ix (nI (ix (E 0 6) + 1)) = ix (E 0 6) + 1 := ix_nI (by omega)
  have kk : ∀ p, p ≠ 0 → p ≠ 3 → Kc D (xdu D 0 10 (E 0 6 + 1)) R (xru R 3 (ix (E 0 6)) (some b)) G G p := fun p a c => ⟨id, rfl, xdu_ne _ _ _ a, xr_ne c⟩
  have ki : ∀ p c, c ≠ 9 → c < 16 → xis G p c → Kc D (xdu D 0 10 (E 0 6 + 1)) R (xru R 3 (ix (E 0 6)) (some b)) G G p := fun p c a d hp => kk p (xis_ne hp (fx0 hX) a) (xis_xia hp (fx3 hX) d)
  have kia : ∀ p t n, t < 5 → xia G p t n → Kc D (xdu D 0 10 (E 0 6 + 1)) R (xru R 3 (ix (E 0 6)) (some b)) G G p := fun p t n a hp => kk p (Ne.symm (xis_xia (fx0 hX) hp (by decide))) (xia_ne hp (fx3 hX) (by omega))
  have hXr : xFix G (xru R 3 (ix (E 0 6)) (some b)) := ⟨hX.1, hX.2.1, fun w hw => by rw [xr_ne ((show ∀ w ∈ fxR, w.1 ≠ 3 by decide) w hw)]; exact hX.2.2 w hw⟩
  obtain ⟨a1, a2, a3, a4, a5, a6⟩ := h.A
  refine ⟨⟨hXr, ?_, ?_, ?_, ?_, ?_, ?_, ?_, ?_, ?_, ?_, ?_⟩, Sam.set (by omega)⟩
  · exact Iv_b h.I ⟨by rw [e0 1 (by decide)]; exact h.B.n1, by rw [e0 3 (by decide)]; exact h.B.n3, by rw [e6]; exact vi_of (by omega) (by decide), by rw [e0 11 (by decide)]; exact h.B.n11, by rw [e0 27 (by decide)]; exact h.B.n27, by rw [e0 29 (by decide)]; exact h.B.n29, by rw [e0 41 (by decide)]; exact h.B.n41⟩ (e0 14 (by decide)) (by rw [ej 2 (by decide)]; exact fun t ht => h.B.a2 ht) (by rw [ej 4 (by decide)]; exact fun t ht => h.B.a4 ht) (by rw [ej 8 (by decide)]; exact fun t ht => h.B.a8 ht) (by rw [ej 5 (by decide)]; exact fun t ht => h.B.a5 ht) (by rw [ej 15 (by decide)]; exact fun t ht => h.B.a15 ht) (by rw [ej 17 (by decide), e0 3 (by decide)]; exact fun t ht => h.B.a17 ht) (ej 10 (by decide)) (ej 12 (by decide)) (ej 13 (by decide)) (ej 14 (by decide)) (ej 19 (by decide)) (ej 20 (by decide)) (ej 21 (by decide))
  · have z := h.F
    unfold Fsh at z ⊢
    rw [e6, i6, e0 11 (by decide), e0 14 (by decide), e0 42 (by decide), e0 0 (by decide), ej 4 (by decide), ej 9 (by decide), ej 10 (by decide), ej 11 (by decide), ej 12 (by decide), ej 15 (by decide), ej 17 (by decide), ej 18 (by decide)]
    exact ⟨fun r a c => z.1 r (by omega) c, z.2⟩
  · unfold cA
    rw [xdu_self, upd_ne _ _ (by decide), upd_ne _ _ (by decide), upd_self, upd_ne _ _ (by decide), upd_ne _ _ (by decide), upd_ne _ _ (by decide), e0 14 (by decide), e0 3 (by decide), e0 11 (by decide), e0 41 (by decide), e0 42 (by decide), xdu_self, upd_self]
    exact ⟨a1, a2, rfl, a4, a5, a6⟩
  · unfold cFl
    rw [xdu_ne _ _ _ (show (13 : Nat) ≠ 0 by decide), xdu_ne _ _ _ (show (14 : Nat) ≠ 0 by decide), xdu_ne _ _ _ (show (15 : Nat) ≠ 0 by decide), xdu_ne _ _ _ (show (16 : Nat) ≠ 0 by decide), e0 0 (by decide), e0 27 (by decide), ej 22 (by decide)]
    exact h.fl
  · unfold cOu
    rw [xdu_ne _ _ _ (show (9 : Nat) ≠ 0 by decide), xdu_ne _ _ _ (show (10 : Nat) ≠ 0 by decide), e0 29 (by decide), ej 23 (by decide)]
    exact h.ou
  · unfold cTr
    rw [xdu_ne _ _ _ (show (6 : Nat) ≠ 0 by decide), xdu_ne _ _ _ (show (7 : Nat) ≠ 0 by decide), xdu_ne _ _ _ (show (8 : Nat) ≠ 0 by decide), ej 19 (by decide), ej 20 (by decide), ej 21 (by decide)]
    exact h.tr
  · exact cDr_k h.dr (fun p _ a c => ⟨ki _ _ (by decide) (by decide) a, kia _ _ _ (by decide) c⟩) (e0 1 (by decide)) (ej 1 (by decide)) (by rw [xr_ne (by decide)]) (xr_ne (by decide))
  · exact cTx_k h.tx (fun p t _ _ a c => ⟨ki _ _ (by decide) (by decide) a, kia _ _ _ (by decide) c⟩) (e0 3 (by decide)) (ej 2 (by decide)) (ej 3 (by decide)) (xr_ne (by decide))
  · obtain ⟨t1, t2⟩ := h.ro
    have r3 : ∀ r, xru R 3 (ix (E 0 6)) (some b) 3 r = if r = ix (E 0 6) then some b else R 3 r := fun r => by
      rw [xr_self]
      by_cases e : r = ix (E 0 6)
      · rw [e, va_up_self, if_pos rfl]
      · rw [va_up_ne _ _ e, if_neg e]
    rw [cRo, e6, i6]
    refine ⟨fun r hr => ?_, fun r r' c hr hr' h1 h2 => ?_⟩
    · rw [r3]
      by_cases e : r = ix (E 0 6)
      · rw [if_pos e]
        refine ⟨b, rfl, k0, ?_, ka, ?_, fun k hk => ?_⟩
        · rw [xr_ne (xis_xia k0 (fx3 hX) (by decide))]
          exact kr
        · rw [xdu_ne _ _ _ (xis_ne k0 (fx0 hX) (by decide)), ej 4 (by decide), kd, e, h.F.1 _ (Nat.le_refl _) h20]
        · rw [ej 4 (by decide), e, h.F.1 _ (Nat.le_refl _) h20] at hk
          exact absurd hk (by show ¬ k < 0; omega)
      · rw [if_neg e]
        obtain ⟨c, c1, c2⟩ := t1 r (by omega)
        exact ⟨c, c1, ro_k c2 (ki _ _ (by decide) (by decide) c2.1) (kia _ _ _ (by decide) c2.2.2.1.1) (kia _ _ _ (by decide) c2.2.2.1.2.1) (kia _ _ _ (by decide) c2.2.2.1.2.2) (by rw [ej 4 (by decide)]) (fun k _ => by rw [ej 5 (by decide), ej 6 (by decide), ej 7 (by decide)]; exact ⟨rfl, rfl, rfl⟩)⟩
    · rw [r3] at h1 h2
      by_cases e : r = ix (E 0 6)
      · rw [if_pos e] at h1
        cases h1
        by_cases e' : r' = ix (E 0 6)
        · omega
        · rw [if_neg e'] at h2
          exact absurd h2 (hn r' (by omega))
      · rw [if_neg e] at h1
        by_cases e' : r' = ix (E 0 6)
        · rw [if_pos e'] at h2
          cases h2
          exact absurd h1 (hn r (by omega))
        · rw [if_neg e'] at h2
          exact t2 r r' c (by omega) (by omega) h1 h2
  · exact cAr_k h.ar (fun p a => ki _ _ (by decide) (by decide) a) (fun p a _ => kia _ _ _ (by decide) a) hX (e0 11 (by decide)) (ej 8 (by decide)) (ej 9 (by decide)) (xr_ne (by decide))
  · exact cTh_k h.th (fun p a => ki _ _ (by decide) (by decide) a) (fun p a => ki _ _ (by decide) (by decide) a) (fun p a => ki _ _ (by decide) (by decide) a) (fun p a _ => kia _ _ _ (by decide) a) (fun p a => kia _ _ _ (by decide) a) (fun p a => kia _ _ _ (by decide) a) hX (e0 14 (by decide)) (fun j a c => ej j (by omega)) (xr_ne (by decide)) (fun _ _ _ _ => by rw [xr_ne (by decide)])
/-- an array is entered into the table -/
theorem Sim_linkAr {D : xD} {R : xR} {G : xG} {E : xD} {b : Nat} {w : Int32} (h : Sim D R G E) (h10 : ix (E 0 11) < 10) (hn : ∀ r, r < ix (E 0 11) → ¬ R 4 r = some b) (k0 : xis G b 8) (kr : R b 0 = some (b + 1)) (ka : xia G (b + 1) 0 10) (kd : D b 1 = w) (kz : D (b + 1) = fun _ => 0) (hw : vp_in w 11) : Sim (xdu D 0 11 (E 0 11 + 1)) (xru R 4 (ix (E 0 11)) (some b)) G (xdu (xdu E 8 (ix (E 0 11)) w) 0 11 (E 0 11 + 1)) ∧ Sam D (xdu D 0 11 (E 0 11 + 1)) := by
  have es := vi_s h.B.n11 (by decide)
  have hX := h.X
  have ej : ∀ j, j ≠ 0 → j ≠ 8 → xdu (xdu E 8 (ix (E 0 11)) w) 0 11 (E 0 11 + 1) j = E j := fun j a c => by rw [xdu_ne _ _ _ a, xdu_ne _ _ _ c]
  have e8 : xdu (xdu E 8 (ix (E 0 11)) w) 0 11 (E 0 11 + 1) 8 = upd (E 8) (ix (E 0 11)) w := by rw [xdu_ne _ _ _ (by decide), xdu_self]
  have e0 : ∀ k, k ≠ 11 → xdu (xdu E 8 (ix (E 0 11)) w) 0 11 (E 0 11 + 1) 0 k = E 0 k := fun k a => by rw [xdu_self, upd_ne _ _ a, xdu_ne _ _ _ (by decide)]
  have e11 : xdu (xdu E 8 (ix (E 0 11)) w) 0 11 (E 0 11 + 1) 0 11 = nI (ix (E 0 11) + 1) := by rw [xdu_self, upd_self, es]
  have i11 : ix (nI (ix (E 0 11) + 1)) = ix (E 0 11) + 1 := ix_nI (by omega)
  have kk : ∀ p, p ≠ 0 → p ≠ 4 → Kc D (xdu D 0 11 (E 0 11 + 1)) R (xru R 4 (ix (E 0 11)) (some b)) G G p := fun p a c => ⟨id, rfl, xdu_ne _ _ _ a, xr_ne c⟩
  have ki : ∀ p c, c ≠ 9 → c < 16 → xis G p c → Kc D (xdu D 0 11 (E 0 11 + 1)) R (xru R 4 (ix (E 0 11)) (some b)) G G p := fun p c a d hp => kk p (xis_ne hp (fx0 hX) a) (xis_xia hp (fx4 hX) d)
  have kia : ∀ p t n, t < 5 → xia G p t n → Kc D (xdu D 0 11 (E 0 11 + 1)) R (xru R 4 (ix (E 0 11)) (some b)) G G p := fun p t n a hp => kk p (Ne.symm (xis_xia (fx0 hX) hp (by decide))) (xia_ne hp (fx4 hX) (by omega))
  have hXr : xFix G (xru R 4 (ix (E 0 11)) (some b)) := ⟨hX.1, hX.2.1, fun w hw => by rw [xr_ne ((show ∀ w ∈ fxR, w.1 ≠ 4 by decide) w hw)]; exact hX.2.2 w hw⟩
  obtain ⟨a1, a2, a3, a4, a5, a6⟩ := h.A
  refine ⟨⟨hXr, ?_, ?_, ?_, ?_, ?_, ?_, ?_, ?_, ?_, ?_, ?_⟩, Sam.set (by omega)⟩
  · refine Iv_b h.I ⟨by rw [e0 1 (by decide)]; exact h.B.n1, by rw [e0 3 (by decide)]; exact h.B.n3, by rw [e0 6 (by decide)]; exact h.B.n6, by rw [e11]; exact vi_of (by omega) (by decide), by rw [e0 27 (by decide)]; exact h.B.n27, by rw [e0 29 (by decide)]; exact h.B.n29, by rw [e0 41 (by decide)]; exact h.B.n41⟩ (e0 14 (by decide)) (by rw [ej 2 (by decide) (by decide)]; exact fun t ht => h.B.a2 ht) (by rw [ej 4 (by decide) (by decide)]; exact fun t ht => h.B.a4 ht) (by rw [e8]; exact vp_upd (fun t ht => h.B.a8 ht) hw) (by rw [ej 5 (by decide) (by decide)]; exact fun t ht => h.B.a5 ht) (by rw [ej 15 (by decide) (by decide)]; exact fun t ht => h.B.a15 ht) (by rw [ej 17 (by decide) (by decide), e0 3 (by decide)]; exact fun t ht => h.B.a17 ht) (ej 10 (by decide) (by decide)) (ej 12 (by decide) (by decide)) (ej 13 (by decide) (by decide)) (ej 14 (by decide) (by decide)) (ej 19 (by decide) (by decide)) (ej 20 (by decide) (by decide)) (ej 21 (by decide) (by decide))
  · have z := h.F
    unfold Fsh at z ⊢
    rw [e11, i11, e0 6 (by decide), e0 14 (by decide), e0 42 (by decide), e0 0 (by decide), ej 4 (by decide) (by decide), ej 9 (by decide) (by decide), ej 10 (by decide) (by decide), ej 11 (by decide) (by decide), ej 12 (by decide) (by decide), ej 15 (by decide) (by decide), ej 17 (by decide) (by decide), ej 18 (by decide) (by decide)]
    exact ⟨z.1, fun r i a c => z.2.1 r i (by omega) c, z.2.2⟩
  · unfold cA
    rw [xdu_self, upd_ne _ _ (by decide), upd_ne _ _ (by decide), upd_ne _ _ (by decide), upd_self, upd_ne _ _ (by decide), upd_ne _ _ (by decide), e0 14 (by decide), e0 3 (by decide), e0 6 (by decide), e0 41 (by decide), e0 42 (by decide), xdu_self, upd_self]
    exact ⟨a1, a2, a3, rfl, a5, a6⟩
  · unfold cFl
    rw [xdu_ne _ _ _ (show (13 : Nat) ≠ 0 by decide), xdu_ne _ _ _ (show (14 : Nat) ≠ 0 by decide), xdu_ne _ _ _ (show (15 : Nat) ≠ 0 by decide), xdu_ne _ _ _ (show (16 : Nat) ≠ 0 by decide), e0 0 (by decide), e0 27 (by decide), ej 22 (by decide) (by decide)]
    exact h.fl
  · unfold cOu
    rw [xdu_ne _ _ _ (show (9 : Nat) ≠ 0 by decide), xdu_ne _ _ _ (show (10 : Nat) ≠ 0 by decide), e0 29 (by decide), ej 23 (by decide) (by decide)]
    exact h.ou
  · unfold cTr
    rw [xdu_ne _ _ _ (show (6 : Nat) ≠ 0 by decide), xdu_ne _ _ _ (show (7 : Nat) ≠ 0 by decide), xdu_ne _ _ _ (show (8 : Nat) ≠ 0 by decide), ej 19 (by decide) (by decide), ej 20 (by decide) (by decide), ej 21 (by decide) (by decide)]
    exact h.tr
  · exact cDr_k h.dr (fun p _ a c => ⟨ki _ _ (by decide) (by decide) a, kia _ _ _ (by decide) c⟩) (e0 1 (by decide)) (ej 1 (by decide) (by decide)) (by rw [xr_ne (by decide)]) (xr_ne (by decide))
  · exact cTx_k h.tx (fun p t _ _ a c => ⟨ki _ _ (by decide) (by decide) a, kia _ _ _ (by decide) c⟩) (e0 3 (by decide)) (ej 2 (by decide) (by decide)) (ej 3 (by decide) (by decide)) (xr_ne (by decide))
  · exact cRo_k h.ro (fun p a => ki _ _ (by decide) (by decide) a) (fun p a => kia _ _ _ (by decide) a) (e0 6 (by decide)) (ej 4 (by decide) (by decide)) (ej 5 (by decide) (by decide)) (ej 6 (by decide) (by decide)) (ej 7 (by decide) (by decide)) (xr_ne (by decide))
  · obtain ⟨t1, t2⟩ := h.ar
    have r3 : ∀ r, xru R 4 (ix (E 0 11)) (some b) 4 r = if r = ix (E 0 11) then some b else R 4 r := fun r => by
      rw [xr_self]
      by_cases e : r = ix (E 0 11)
      · rw [e, va_up_self, if_pos rfl]
      · rw [va_up_ne _ _ e, if_neg e]
    rw [cAr, e11, i11]
    refine ⟨fun r hr => ?_, fun r r' c hr hr' h1 h2 => ?_⟩
    · rw [r3]
      by_cases e : r = ix (E 0 11)
      · rw [if_pos e]
        refine ⟨b, rfl, k0, ?_, ka, ?_, fun i hi => ?_⟩
        · rw [xr_ne (xis_xia k0 (fx4 hX) (by decide))]
          exact kr
        · rw [xdu_ne _ _ _ (xis_ne k0 (fx0 hX) (by decide)), e8, kd, e, upd_self]
        · rw [xdu_ne _ _ _ (by omega), kz, ej 9 (by decide) (by decide), e, h.F.2.1 _ i (Nat.le_refl _) h10 hi]
      · rw [if_neg e]
        obtain ⟨c, c1, c2⟩ := t1 r (by omega)
        exact ⟨c, c1, ar_k c2 (ki _ _ (by decide) (by decide) c2.1) (kia _ _ _ (by decide) c2.2.2.1) (by rw [e8, upd_ne _ _ e]) (fun i _ => by rw [ej 9 (by decide) (by decide)])⟩
    · rw [r3] at h1 h2
      by_cases e : r = ix (E 0 11)
      · rw [if_pos e] at h1
        cases h1
        by_cases e' : r' = ix (E 0 11)
        · omega
        · rw [if_neg e'] at h2
          exact absurd h2 (hn r' (by omega))
      · rw [if_neg e] at h1
        by_cases e' : r' = ix (E 0 11)
        · rw [if_pos e'] at h2
          cases h2
          exact absurd h1 (hn r (by omega))
        · rw [if_neg e'] at h2
          exact t2 r r' c (by omega) (by omega) h1 h2
  · exact cTh_k h.th (fun p a => ki _ _ (by decide) (by decide) a) (fun p a => ki _ _ (by decide) (by decide) a) (fun p a => ki _ _ (by decide) (by decide) a) (fun p a _ => kia _ _ _ (by decide) a) (fun p a => kia _ _ _ (by decide) a) (fun p a => kia _ _ _ (by decide) a) hX (e0 14 (by decide)) (fun j a c => ej j (by omega) (by omega)) (xr_ne (by decide)) (fun _ _ _ _ => by rw [xr_ne (by decide)])
theorem i32_ret {m b : Nat} : nI (b + 1) + nI (m + 1) - 1 = nI b + nI (m + 1) := by
  rw [nI_add, show (1 : Int32) = nI 1 from rfl, pk_sub (by omega), nI_add]
  congr 1
  omega
set_option maxRecDepth 20000 in
set_option maxHeartbeats 1000000 in
theorem c_routine {Γ : xGm} {l : Launch} {f : Nat} {G : xG} {D E : xD} {R : xR} (hf : 2 ≤ f) (hS : Sim D R G E) : Cn Γ l f MX9_routine [.ref 0] G D R 4 28 (Sa D (some (.int (sRoutine E).1)) (sRoutine E).2) := by
  refine cn_of MX9_routine_ok (Nat.le_of_ble_eq_true rfl) ?_
  show Ex Γ l f MX9_routine 0 [some (.ref 0)] [] G D R 4 28 _
  obtain ⟨e6, l6⟩ := vi_n hS.B.n6 (by decide)
  have es := vi_s hS.B.n6 (by decide)
  by_cases h20 : E 0 6 = 20
  · rw [show sRoutine E = (-4, E) from by unfold sRoutine; rw [if_pos h20]]
    refine al0 dX9_routine_0 (by first | nofun | exact xrv_ne _) ?_
    refine gf9_72 rfl dX9_routine_1 (fx0 hS.X) ?_
    rw [hS.A.2.2.1]
    refine ex_if_lt 16 dX9_routine_4 (by decide) (fun h4 => ?_) (fun h4 => ?_)
    · exact absurd (vi_0le hS.B.n6) h4
    · refine al0 dX9_routine_7 (by first | nofun | exact xrv_ne _) ?_
      refine gf9_72 rfl dX9_routine_8 (fx0 hS.X) ?_
      rw [hS.A.2.2.1]
      refine ex_bipush (v := 20) dX9_routine_11 (by decide) ?_
      refine ex_icmp_lt 19 dX9_routine_13 (by decide) (fun h13 => ?_) (fun h13 => ?_)
      · exact absurd (by rw [h20]; decide) h13
      · refine ex_bipush (v := (-4)) dX9_routine_16 (by decide) ?_
        refine ex_iret dX9_routine_18 rfl ?_
        exact ⟨rfl, hS, Sam.rf⟩
  · have hv := vi_ne hS.B.n6 (by decide) h20
    have l20 := (vi_n hv (by decide)).2
    have hlt : ¬ 20 ≤ E 0 6 := vi_not (n := 20) hv (by decide)
    rw [show sRoutine E = (200 + (E 0 6 + 1), xdu E 0 6 (E 0 6 + 1)) from by unfold sRoutine; rw [if_neg h20]]
    refine al0 dX9_routine_0 (by first | nofun | exact xrv_ne _) ?_
    refine gf9_72 rfl dX9_routine_1 (fx0 hS.X) ?_
    rw [hS.A.2.2.1]
    refine ex_if_lt 16 dX9_routine_4 (by decide) (fun h4 => ?_) (fun h4 => ?_)
    · exact absurd (vi_0le hS.B.n6) h4
    · refine al0 dX9_routine_7 (by first | nofun | exact xrv_ne _) ?_
      refine gf9_72 rfl dX9_routine_8 (fx0 hS.X) ?_
      rw [hS.A.2.2.1]
      refine ex_bipush (v := 20) dX9_routine_11 (by decide) ?_
      refine ex_icmp_lt 19 dX9_routine_13 (by decide) (fun h13 => ?_) (fun h13 => ?_)
      · refine al0 dX9_routine_19 (by first | nofun | exact xrv_ne _) ?_
        refine gf9_23 rfl dX9_routine_20 (fr0_2 hS.X) (fx0 hS.X) ?_
        refine al0 dX9_routine_23 (by first | nofun | exact xrv_ne _) ?_
        refine gf9_72 rfl dX9_routine_24 (fx0 hS.X) ?_
        rw [hS.A.2.2.1]
        refine nw9_21 (kc1 := 3) (kw1 := 24) rfl dX9_routine_27 (by omega) (by omega) ?_
        refine ex_dup dX9_routine_30 ?_
        refine cs9_75 (f' := f - 1) rfl dX9_routine_31 (Nat.le_of_ble_eq_true rfl) (by omega) (Nat.le_refl _) (Nat.le_refl _) (c_in3 (by omega) (G := gP G (3, 0)) xis_n) ?_
        rintro v1 G1 D1 R1 ⟨rfl, g, c1, c2, c3, c4, c5, c6, c7, c8⟩
        have g0 := Gr.new (D := D) (R := R) (G := G) (k := (3, 0)) G.1
        have gg := g0.tr g
        obtain ⟨hS1, hM1⟩ := Sim_grow hS gg (Nat.le_refl _)
        have k0 := g.is (xis_n (G := G) (c := 3))
        have r0 : R1 G.1 = va_up (va_up (va_up (fun _ => none) 0 (some (G.1 + 1))) 1 (some (G.1 + 2))) 2 (some (G.1 + 3)) := by
          rw [c5]
          show va_up (va_up (va_up (va_up R G.1 (fun _ => none) G.1) 0 _) 1 _) 2 _ = _
          rw [va_up_self]
        have d0 : D1 G.1 = fun _ => 0 := by
          rw [c1]
          exact va_up_self _ _ _
        have hfr : ∀ r, r < ix (E 0 6) → ¬ R1 3 r = some G.1 := fun r hr q => by
          obtain ⟨b, b1, b2⟩ := hS.ro.1 r hr
          have e3 : R1 3 = R 3 := (gg.2.2 3 (by have := hS.X.1; omega) (by have := hS.X.1; omega)).2
          rw [e3, b1] at q
          cases q
          exact Nat.lt_irrefl _ b2.1.1
        obtain ⟨hS2, hM2⟩ := Sim_linkRo hS1 l20 hfr k0 (by rw [r0]; exact ⟨rfl, rfl, rfl⟩) ⟨c6, c7, c8⟩ (by rw [d0])
        have a10 : D1 0 10 = E 0 6 := hS1.A.2.2.1
        refine ey_aast (c := 3) dX9_routine_34 ((fx3 hS1.X)) (by decide) (by decide) hv rfl (by decide) rfl k0 ?_
        refine al0 dX9_routine_35 (by first | nofun | exact xrv_ne _) ?_
        refine ex_dup dX9_routine_36 ?_
        refine gf9_72 rfl dX9_routine_37 ((fx0 hS1.X)) ?_
        rw [a10]
        refine ex_iconst (v := 1) dX9_routine_40 (by decide) ?_
        refine ex_iadd dX9_routine_41 ?_
        refine pf9_72 rfl dX9_routine_42 ((fx0 hS1.X)) ?_
        refine ex_sipush (v := 201) dX9_routine_45 (by decide) ?_
        refine al0 dX9_routine_48 (by first | nofun | exact xrv_ne _) ?_
        refine gf9_72 rfl dX9_routine_49 ((fx0 hS1.X)) ?_
        refine ex_iadd dX9_routine_52 ?_
        refine ex_iconst (v := 1) dX9_routine_53 (by decide) ?_
        refine ex_isub dX9_routine_54 ?_
        refine ex_iret dX9_routine_55 rfl ?_
        refine ⟨?_, hS2, hM1.tr hM2⟩
        rw [xdu_self, upd_self, es]
        exact congrArg (fun z => some (Value.int z)) (i32_ret (b := 200))
      · exact absurd h13 hlt
set_option maxRecDepth 20000 in
set_option maxHeartbeats 1000000 in
theorem c_array {Γ : xGm} {l : Launch} {f : Nat} {G : xG} {D E : xD} {R : xR} (hf : 2 ≤ f) (hS : Sim D R G E) {w : Int32} : Cn Γ l f MX9_array [.ref 0, .int w] G D R 2 12 (Sa D (some (.int (sArray E w).1)) (sArray E w).2) := by
  refine cn_of MX9_array_ok (Nat.le_of_ble_eq_true rfl) ?_
  show Ex Γ l f MX9_array 0 [some (.ref 0), some (.int w)] [] G D R 2 12 _
  obtain ⟨e6, l6⟩ := vi_n hS.B.n11 (by decide)
  have es := vi_s hS.B.n11 (by decide)
  by_cases hw : sIn w 1 10 = true
  · have hw2 := sIn_t.mp hw
    by_cases h10 : E 0 11 = 10
    · rw [show sArray E w = (-4, E) from by unfold sArray; rw [if_neg (by rw [hw]; decide), if_pos h10]]
      refine il1 dX9_array_0 ?_
      refine ex_iconst (v := 1) dX9_array_1 (by decide) ?_
      refine ex_icmp_lt 11 dX9_array_2 (by decide) (fun h2 => ?_) (fun h2 => ?_)
      · exact absurd hw2.1 h2
      · refine il1 dX9_array_5 ?_
        refine ex_bipush (v := 10) dX9_array_6 (by decide) ?_
        refine ex_icmp_le 14 dX9_array_8 (by decide) (fun h8 => ?_) (fun h8 => ?_)
        · refine al0 dX9_array_14 (by first | nofun | exact xrv_ne _) ?_
          refine gf9_138 rfl dX9_array_15 (fx0 hS.X) ?_
          rw [hS.A.2.2.2.1]
          refine ex_if_lt 30 dX9_array_18 (by decide) (fun h18 => ?_) (fun h18 => ?_)
          · exact absurd (vi_0le hS.B.n11) h18
          · refine al0 dX9_array_21 (by first | nofun | exact xrv_ne _) ?_
            refine gf9_138 rfl dX9_array_22 (fx0 hS.X) ?_
            rw [hS.A.2.2.2.1]
            refine ex_bipush (v := 10) dX9_array_25 (by decide) ?_
            refine ex_icmp_lt 33 dX9_array_27 (by decide) (fun h27 => ?_) (fun h27 => ?_)
            · exact absurd (by rw [h10]; decide) h27
            · refine ex_bipush (v := (-4)) dX9_array_30 (by decide) ?_
              refine ex_iret dX9_array_32 rfl ?_
              exact ⟨rfl, hS, Sam.rf⟩
        · exact absurd hw2.2 h8
    · have hv := vi_ne hS.B.n11 (by decide) h10
      have l10 := (vi_n hv (by decide)).2
      have hlt : ¬ 10 ≤ E 0 11 := vi_not (n := 10) hv (by decide)
      have hw11 : vp_in w 11 := vi_btw (a := 1) (x := 10) (A := 11) (vi_of (n := 10) (by decide) (by decide)) hw2.1 hw2.2 (by decide) (by decide)
      rw [show sArray E w = (300 + (E 0 11 + 1), xdu (xdu E 8 (ix (E 0 11)) w) 0 11 (E 0 11 + 1)) from by unfold sArray; rw [if_neg (by rw [hw]; decide), if_neg h10]]
      refine il1 dX9_array_0 ?_
      refine ex_iconst (v := 1) dX9_array_1 (by decide) ?_
      refine ex_icmp_lt 11 dX9_array_2 (by decide) (fun h2 => ?_) (fun h2 => ?_)
      · exact absurd hw2.1 h2
      · refine il1 dX9_array_5 ?_
        refine ex_bipush (v := 10) dX9_array_6 (by decide) ?_
        refine ex_icmp_le 14 dX9_array_8 (by decide) (fun h8 => ?_) (fun h8 => ?_)
        · refine al0 dX9_array_14 (by first | nofun | exact xrv_ne _) ?_
          refine gf9_138 rfl dX9_array_15 (fx0 hS.X) ?_
          rw [hS.A.2.2.2.1]
          refine ex_if_lt 30 dX9_array_18 (by decide) (fun h18 => ?_) (fun h18 => ?_)
          · exact absurd (vi_0le hS.B.n11) h18
          · refine al0 dX9_array_21 (by first | nofun | exact xrv_ne _) ?_
            refine gf9_138 rfl dX9_array_22 (fx0 hS.X) ?_
            rw [hS.A.2.2.2.1]
            refine ex_bipush (v := 10) dX9_array_25 (by decide) ?_
            refine ex_icmp_lt 33 dX9_array_27 (by decide) (fun h27 => ?_) (fun h27 => ?_)
            · refine al0 dX9_array_33 (by first | nofun | exact xrv_ne _) ?_
              refine gf9_29 rfl dX9_array_34 (fr0_3 hS.X) (fx0 hS.X) ?_
              refine al0 dX9_array_37 (by first | nofun | exact xrv_ne _) ?_
              refine gf9_138 rfl dX9_array_38 (fx0 hS.X) ?_
              rw [hS.A.2.2.2.1]
              refine nw9_27 (kc1 := 1) (kw1 := 10) rfl dX9_array_41 (by omega) (by omega) ?_
              refine ex_dup dX9_array_44 ?_
              refine il1 dX9_array_45 ?_
              refine cs9_141 (f' := f - 1) rfl dX9_array_46 (Nat.le_of_ble_eq_true rfl) (by omega) (Nat.le_refl _) (Nat.le_refl _) (c_in8 (by omega) (G := gP G (8, 0)) xis_n) ?_
              rintro v1 G1 D1 R1 ⟨rfl, g, c1, c2, c3, c4⟩
              have g0 := Gr.new (D := D) (R := R) (G := G) (k := (8, 0)) G.1
              have gg := g0.tr g
              obtain ⟨hS1, hM1⟩ := Sim_grow hS gg (Nat.le_refl _)
              have k0 := g.is (xis_n (G := G) (c := 8))
              have r0 : R1 G.1 = va_up (fun _ => none) 0 (some (G.1 + 1)) := by
                rw [c3]
                show va_up (va_up R G.1 (fun _ => none) G.1) 0 _ = _
                rw [va_up_self]
              have d0 : D1 G.1 1 = w := by
                rw [c1, upd_self]
              have hfr : ∀ r, r < ix (E 0 11) → ¬ R1 4 r = some G.1 := fun r hr q => by
                obtain ⟨b, b1, b2⟩ := hS.ar.1 r hr
                have e3 : R1 4 = R 4 := (gg.2.2 4 (by have := hS.X.1; omega) (by have := hS.X.1; omega)).2
                rw [e3, b1] at q
                cases q
                exact Nat.lt_irrefl _ b2.1.1
              obtain ⟨hS2, hM2⟩ := Sim_linkAr hS1 l10 hfr k0 (by rw [r0]; rfl) c4 d0 c2 hw11
              have a11 : D1 0 11 = E 0 11 := hS1.A.2.2.2.1
              refine ey_aast (c := 8) dX9_array_49 ((fx4 hS1.X)) (by decide) (by decide) hv rfl (by decide) rfl k0 ?_
              refine al0 dX9_array_50 (by first | nofun | exact xrv_ne _) ?_
              refine ex_dup dX9_array_51 ?_
              refine gf9_138 rfl dX9_array_52 ((fx0 hS1.X)) ?_
              rw [a11]
              refine ex_iconst (v := 1) dX9_array_55 (by decide) ?_
              refine ex_iadd dX9_array_56 ?_
              refine pf9_138 rfl dX9_array_57 ((fx0 hS1.X)) ?_
              refine ex_sipush (v := 301) dX9_array_60 (by decide) ?_
              refine al0 dX9_array_63 (by first | nofun | exact xrv_ne _) ?_
              refine gf9_138 rfl dX9_array_64 ((fx0 hS1.X)) ?_
              refine ex_iadd dX9_array_67 ?_
              refine ex_iconst (v := 1) dX9_array_68 (by decide) ?_
              refine ex_isub dX9_array_69 ?_
              refine ex_iret dX9_array_70 rfl ?_
              refine ⟨?_, hS2, hM1.tr hM2⟩
              rw [xdu_self, upd_self, es]
              exact congrArg (fun z => some (Value.int z)) (i32_ret (b := 300))
            · exact absurd h27 hlt
        · exact absurd hw2.2 h8
  · rw [show sArray E w = (-3, E) from by unfold sArray; rw [if_pos (nb hw)]]
    refine il1 dX9_array_0 ?_
    refine ex_iconst (v := 1) dX9_array_1 (by decide) ?_
    refine ex_icmp_lt 11 dX9_array_2 (by decide) (fun h2 => ?_) (fun h2 => ?_)
    · refine ex_bipush (v := (-3)) dX9_array_11 (by decide) ?_
      refine ex_iret dX9_array_13 rfl ?_
      exact ⟨rfl, hS, Sam.rf⟩
    · refine il1 dX9_array_5 ?_
      refine ex_bipush (v := 10) dX9_array_6 (by decide) ?_
      refine ex_icmp_le 14 dX9_array_8 (by decide) (fun h8 => ?_) (fun h8 => ?_)
      · exact absurd (sIn_t.mpr ⟨h2, h8⟩) hw
      · refine ex_bipush (v := (-3)) dX9_array_11 (by decide) ?_
        refine ex_iret dX9_array_13 rfl ?_
        exact ⟨rfl, hS, Sam.rf⟩
