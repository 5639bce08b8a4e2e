theorem sCopy_d {m : Nat} (hm : m < 20) : ∀ (n k : Nat) (E : xD), E 0 3 = nI m → k + n ≤ 20 → (∀ j, j ≠ 3 → sCopy E (nI k) n j = E j) ∧ (∀ i, k ≤ i → i < k + n → sCopy E (nI k) n 3 (20 * m + i) = E 1 i) ∧ ∀ i, (i < 20 * m + k ∨ 20 * m + k + n ≤ i) → sCopy E (nI k) n 3 i = E 3 i
  | 0, k, E, _, _ => ⟨fun _ _ => rfl, fun i a b => by omega, fun _ _ => rfl⟩
  | n + 1, k, E, h3, hk => by
    have e : ix (20 * E 0 3 + nI k) = 20 * m + k := by
      rw [h3, show (20 : Int32) = nI 20 from rfl, pk_mul, nI_add, ix_nI (by omega)]
    rw [sCopy, e, ix_nI (by omega), show nI k + 1 = nI (k + 1) from nI_1 k]
    obtain ⟨f1, f2, f3⟩ := sCopy_d hm n (k + 1) (xdu E 3 (20 * m + k) (E 1 k)) (by rw [xdu_ne _ _ _ (by decide)]; exact h3) (by omega)
    refine ⟨fun j hj => by rw [f1 j hj, xdu_ne _ _ _ hj], fun i a b => ?_, fun i a => ?_⟩
    · by_cases q : i = k
      · subst q
        rw [f3 _ (by omega), xdu_self, upd_self]
      · rw [f2 i (by omega) (by omega), xdu_ne _ _ _ (by decide)]
    · rw [f3 i (by omega), xdu_self, upd_ne _ _ (by omega)]
theorem Sim_text {D D' : xD} {R R' : xR} {G G' : xG} {E : xD} {d : Nat} (h : Sim D R G E) (h20 : ix (E 0 3) < 20) (hd : R 0 7 = some d) (gn : G'.1 = G.1 + 2) (gk : ∀ p, p < G.1 → G'.2 p = G.2 p) (gD : ∀ p, p < G.1 → p ≠ 0 → D' p = D p) (gR : ∀ p, p < G.1 → p ≠ 0 → p ≠ 2 → R' p = R p) (d0 : D' 0 = upd (D 0) 9 (E 0 3 + 1)) (r0 : R' 0 = va_up (R 0) 7 (some G.1)) (r2 : R' 2 = va_up (R 2) (ix (E 0 3)) (some d)) (k5 : xis G' G.1 5) (k20 : xia G' (G.1 + 1) 1 20) (rq : R' G.1 0 = some (G.1 + 1)) (dq : D' G.1 1 = 0) : Sim D' R' G' (sText E).2 ∧ Sam D D' := by
  have h47 := h.X.1
  have l1 := (vi_n h.B.n1 (by decide)).2
  obtain ⟨e3, -⟩ := vi_n h.B.n3 (by decide)
  have es := vi_s h.B.n3 (by decide)
  have hne : ¬ E 0 3 = 20 := fun q => by
    rw [q] at h20
    exact absurd h20 (by decide)
  rw [show (sText E).2 = xdu (xdu (xdu (sCopy E 0 (ix (E 0 1))) 2 (ix (E 0 3)) (E 0 1)) 0 1 0) 0 3 (E 0 3 + 1) from by unfold sText; rw [if_neg hne]]
  generalize hm : ix (E 0 3) = m at *
  obtain ⟨f1, f2, f3⟩ := sCopy_d h20 (ix (E 0 1)) 0 E e3 (by omega)
  change ∀ j, j ≠ 3 → sCopy E 0 (ix (E 0 1)) j = E j at f1
  change ∀ i, 0 ≤ i → i < 0 + ix (E 0 1) → sCopy E 0 (ix (E 0 1)) 3 (20 * m + i) = E 1 i at f2
  change ∀ i, (i < 20 * m + 0 ∨ 20 * m + 0 + ix (E 0 1) ≤ i) → sCopy E 0 (ix (E 0 1)) 3 i = E 3 i at f3
  generalize sCopy E 0 (ix (E 0 1)) = F at *
  generalize hE' : xdu (xdu (xdu F 2 m (E 0 1)) 0 1 0) 0 3 (E 0 3 + 1) = E'
  have ej : ∀ j, j ≠ 0 → j ≠ 2 → j ≠ 3 → E' j = E j := fun j a b c => by rw [← hE', xdu_ne _ _ _ a, xdu_ne _ _ _ a, xdu_ne _ _ _ b, f1 j c]
  have f0 : F 0 = E 0 := f1 0 (by decide)
  have e0 : ∀ k, k ≠ 1 → k ≠ 3 → E' 0 k = E 0 k := fun k a b => by rw [← hE', xdu_self, upd_ne _ _ b, xdu_self, upd_ne _ _ a, xdu_ne _ _ _ (by decide), f0]
  have e01 : E' 0 1 = 0 := by rw [← hE', xdu_self, upd_ne _ _ (by decide), xdu_self, upd_self]
  have e03 : E' 0 3 = nI (m + 1) := by rw [← hE', xdu_self, upd_self, es]
  have i03 : ix (nI (m + 1)) = m + 1 := ix_nI (by omega)
  have e2 : E' 2 = upd (E 2) m (E 0 1) := by rw [← hE', xdu_ne _ _ _ (by decide), xdu_ne _ _ _ (by decide), xdu_self, f1 2 (by decide)]
  have e3' : E' 3 = F 3 := by rw [← hE', xdu_ne _ _ _ (by decide), xdu_ne _ _ _ (by decide), xdu_ne _ _ _ (by decide)]
  have hX := h.X
  have kk : ∀ p, p < G.1 → p ≠ 0 → p ≠ 2 → Kc D D' R R' G G' p := fun p hp a c => ⟨fun _ => by rw [gn]; omega, gk p hp, gD p hp a, gR p hp a c⟩
  have ki : ∀ p c, c ≠ 9 → c < 16 → xis G p c → Kc D D' R R' G G' p := fun p c a b hp => kk p hp.1 (xis_ne hp (fx0 hX) a) (xis_xia hp (fx2 hX) b)
  have kia : ∀ p t n, t < 4 → xia G p t n → Kc D D' R R' G G' p := fun p t n a hp => kk p hp.1 (Ne.symm (xis_xia (fx0 hX) hp (by decide))) (xia_ne hp (fx2 hX) (by omega))
  have hXr : xFix G' R' := by
    refine ⟨by rw [gn]; omega, fun p hp => by rw [gk p (by omega)]; exact hX.2.1 p hp, fun w hw => ?_⟩
    have w47 := fxR_47 w hw
    have := hX.2.2 w hw
    by_cases z : w.1 = 0
    · rw [z, r0, va_up_ne _ _ ((show ∀ w ∈ fxR, w.1 = 0 → w.2.1 ≠ 7 by decide) w hw z), ← z]
      exact this
    · rw [gR w.1 (by omega) z ((show ∀ w ∈ fxR, w.1 ≠ 2 by decide) w hw)]
      exact this
  obtain ⟨dd, dd1, dd2, dd3⟩ := h.dr
  rw [hd] at dd1
  cases dd1
  have r2t : ∀ t, R' 2 t = if t = m then some d else R 2 t := fun t => by
    rw [r2]
    by_cases e : t = m
    · rw [e, va_up_self, if_pos rfl]
    · rw [va_up_ne _ _ e, if_neg e]
  obtain ⟨a1, a2, a3, a4, a5, a6⟩ := h.A
  refine ⟨⟨hXr, ?_, ?_, ?_, ?_, ?_, ?_, ?_, ?_, ?_, ?_, ?_⟩, fun q a b => gD q (by omega) (by omega)⟩
  · refine Iv_b h.I ⟨by rw [e01]; exact vi_of (n := 0) (by decide) (by decide), by rw [e03]; exact vi_of (by omega) (by decide), by rw [e0 6 (by decide) (by decide)]; exact h.B.n6, by rw [e0 11 (by decide) (by decide)]; exact h.B.n11, by rw [e0 27 (by decide) (by decide)]; exact h.B.n27, by rw [e0 29 (by decide) (by decide)]; exact h.B.n29, by rw [e0 41 (by decide) (by decide)]; exact h.B.n41⟩ (e0 14 (by decide) (by decide)) (by rw [e2]; exact vp_upd (fun t ht => h.B.a2 ht) h.B.n1) (by rw [ej 4 (by decide) (by decide) (by decide)]; exact fun t ht => h.B.a4 ht) (by rw [ej 8 (by decide) (by decide) (by decide)]; exact fun t ht => h.B.a8 ht) (by rw [ej 5 (by decide) (by decide) (by decide)]; exact fun t ht => h.B.a5 ht) (by rw [ej 15 (by decide) (by decide) (by decide)]; exact fun t ht => h.B.a15 ht) ?_ (ej 10 (by decide) (by decide) (by decide)) (ej 12 (by decide) (by decide) (by decide)) (ej 13 (by decide) (by decide) (by decide)) (ej 14 (by decide) (by decide) (by decide)) (ej 19 (by decide) (by decide) (by decide)) (ej 20 (by decide) (by decide) (by decide)) (ej 21 (by decide) (by decide) (by decide))
    rw [ej 17 (by decide) (by decide) (by decide), e03]
    intro t ht
    rcases h.B.a17 ht with z | ⟨z1, z2⟩
    · exact Or.inl z
    · refine Or.inr ⟨z1, Int32.le_trans z2 ?_⟩
      rw [e3, show (100 : Int32) = nI 100 from rfl, nI_add, nI_add]
      exact nI_le (by omega) (by omega)
  · exact Fsh_f h.F ⟨e0 6 (by decide) (by decide), e0 11 (by decide) (by decide), e0 14 (by decide) (by decide), e0 42 (by decide) (by decide), e0 0 (by decide) (by decide)⟩ (ej 4 (by decide) (by decide) (by decide)) (ej 9 (by decide) (by decide) (by decide)) (ej 10 (by decide) (by decide) (by decide)) (ej 11 (by decide) (by decide) (by decide)) (ej 12 (by decide) (by decide) (by decide)) (ej 15 (by decide) (by decide) (by decide)) (ej 17 (by decide) (by decide) (by decide)) (ej 18 (by decide) (by decide) (by decide))
  · unfold cA
    rw [d0, upd_ne _ _ (by decide), upd_self, upd_ne _ _ (by decide), upd_ne _ _ (by decide), upd_ne _ _ (by decide), upd_ne _ _ (by decide), e0 14 (by decide) (by decide), e0 6 (by decide) (by decide), e0 11 (by decide) (by decide), e0 41 (by decide) (by decide), e0 42 (by decide) (by decide), e03]
    exact ⟨a1, es, a3, a4, a5, a6⟩
  · unfold cFl
    rw [gD 13 (by omega) (by decide), gD 14 (by omega) (by decide), gD 15 (by omega) (by decide), gD 16 (by omega) (by decide), e0 0 (by decide) (by decide), e0 27 (by decide) (by decide), ej 22 (by decide) (by decide) (by decide)]
    exact h.fl
  · unfold cOu
    rw [gD 9 (by omega) (by decide), gD 10 (by omega) (by decide), e0 29 (by decide) (by decide), ej 23 (by decide) (by decide) (by decide)]
    exact h.ou
  · unfold cTr
    rw [gD 6 (by omega) (by decide), gD 7 (by omega) (by decide), gD 8 (by omega) (by decide), ej 19 (by decide) (by decide) (by decide), ej 20 (by decide) (by decide) (by decide), ej 21 (by decide) (by decide) (by decide)]
    exact h.tr
  · refine ⟨G.1, by rw [r0, va_up_self], ⟨k5, rq, k20, by rw [dq, e01], by rw [e01]; exact vi_of (n := 0) (by decide) (by decide), fun k hk => by rw [e01] at hk; exact absurd hk (by show ¬ k < 0; omega)⟩, fun t ht q => ?_⟩
    rw [r2t] at q
    by_cases e : t = m
    · rw [if_pos e] at q
      cases q
      exact Nat.lt_irrefl _ dd2.1.1
    · rw [if_neg e] at q
      by_cases e2 : t < m
      · obtain ⟨b, b1, b2⟩ := h.tx.1 t (by rw [hm]; exact e2)
        rw [b1] at q
        cases q
        exact Nat.lt_irrefl _ b2.1.1
      · rw [h.tx.2 t (by rw [hm]; omega) ht] at q
        cases q
  · rw [cTx, e03, i03]
    refine ⟨fun t ht => ?_, fun t a c => by rw [r2t, if_neg (by omega)]; exact h.tx.2 t (by rw [hm]; omega) c⟩
    rw [r2t]
    by_cases e : t = m
    · subst e
      rw [if_pos rfl]
      refine ⟨d, rfl, ?_⟩
      have z := tx_k dd2 (ki _ _ (by decide) (by decide) dd2.1) (kia _ _ _ (by decide) dd2.2.2.1)
      rw [e2, upd_self, e3']
      obtain ⟨g1, g2, g3, g4, g5, g6⟩ := z
      refine ⟨g1, g2, g3, g4, g5, fun k hk => ?_⟩
      have := f2 k (Nat.zero_le _) (by omega)
      show D' (d + 1) k = F 3 (20 * t + k) ∧ 32 ≤ F 3 (20 * t + k) ∧ F 3 (20 * t + k) ≤ 126
      rw [this]
      exact g6 k hk
    · rw [if_neg e]
      obtain ⟨b, b1, b2⟩ := h.tx.1 t (by rw [hm]; omega)
      refine ⟨b, b1, ?_⟩
      have z := tx_k b2 (ki _ _ (by decide) (by decide) b2.1) (kia _ _ _ (by decide) b2.2.2.1)
      rw [e2, upd_ne _ _ e, e3']
      obtain ⟨g1, g2, g3, g4, g5, g6⟩ := z
      refine ⟨g1, g2, g3, g4, g5, fun k hk => ?_⟩
      have l := (vi_n g5 (by decide)).2
      have := f3 (20 * t + k) (by omega)
      show D' (b + 1) k = F 3 (20 * t + k) ∧ 32 ≤ F 3 (20 * t + k) ∧ F 3 (20 * t + k) ≤ 126
      rw [this]
      exact g6 k hk
  · exact cRo_k h.ro (fun p a => ki _ _ (by decide) (by decide) a) (fun p a => kia _ _ _ (by decide) a) (e0 6 (by decide) (by decide)) (ej 4 (by decide) (by decide) (by decide)) (ej 5 (by decide) (by decide) (by decide)) (ej 6 (by decide) (by decide) (by decide)) (ej 7 (by decide) (by decide) (by decide)) (gR 3 (by omega) (by decide) (by decide))
  · exact cAr_k h.ar (fun p a => ki _ _ (by decide) (by decide) a) (fun p a _ => kia _ _ _ (by decide) a) hX (e0 11 (by decide) (by decide)) (ej 8 (by decide) (by decide) (by decide)) (ej 9 (by decide) (by decide) (by decide)) (gR 4 (by omega) (by decide) (by decide))
  · refine cTh_k h.th (fun p a => ki _ _ (by decide) (by decide) a) (fun p a => ki _ _ (by decide) (by decide) a) (fun p a => ki _ _ (by decide) (by decide) a) (fun p a _ => kia _ _ _ (by decide) a) (fun p a => kia _ _ _ (by decide) a) (fun p a => kia _ _ _ (by decide) a) hX (e0 14 (by decide) (by decide)) (fun j a c => ej j (by omega) (by omega) (by omega)) (gR 1 (by omega) (by decide) (by decide)) (fun v v1 v2 v0 => ?_)
    have l14 := (vi_n h.B.n14 (by decide)).2
    obtain ⟨t, -, -, -, tlt, ti, -⟩ := sim_text h ((h.B.a17 (show v < 41 by omega)).resolve_left v0)
    rw [ti, r2t, if_neg (by omega)]
set_option maxRecDepth 20000 in
set_option maxHeartbeats 1000000 in
theorem c_text {Γ : xGm} {l : Launch} {f : Nat} {G : xG} {D E : xD} {R : xR} (hf : 2 ≤ f) (hS : Sim D R G E) : Cn Γ l f MX9_text [.ref 0] G D R 2 22 (Sa D (some (.int (sText E).1)) (sText E).2) := by
  refine cn_of MX9_text_ok (Nat.le_of_ble_eq_true rfl) ?_
  show Ex Γ l f MX9_text 0 [some (.ref 0)] [] G D R 2 22 _
  obtain ⟨e6, l6⟩ := vi_n hS.B.n3 (by decide)
  have es := vi_s hS.B.n3 (by decide)
  obtain ⟨d, hd, hdt, -⟩ := hS.dr
  have h47 := hS.X.1
  by_cases h20 : E 0 3 = 20
  · rw [show sText E = (-4, E) from by unfold sText; rw [if_pos h20]]
    refine al0 dX9_text_0 (by first | nofun | exact xrv_ne _) ?_
    refine gf9_69 rfl dX9_text_1 (fx0 hS.X) ?_
    rw [hS.A.2.1]
    refine ex_if_lt 16 dX9_text_4 (by decide) (fun h4 => ?_) (fun h4 => ?_)
    · exact absurd (vi_0le hS.B.n3) h4
    · refine al0 dX9_text_7 (by first | nofun | exact xrv_ne _) ?_
      refine gf9_69 rfl dX9_text_8 (fx0 hS.X) ?_
      rw [hS.A.2.1]
      refine ex_bipush (v := 20) dX9_text_11 (by decide) ?_
      refine ex_icmp_lt 19 dX9_text_13 (by decide) (fun h13 => ?_) (fun h13 => ?_)
      · exact absurd (by rw [h20]; decide) h13
      · refine ex_bipush (v := (-4)) dX9_text_16 (by decide) ?_
        refine ex_iret dX9_text_18 rfl ?_
        exact ⟨rfl, hS, Sam.rf⟩
  · have hv := vi_ne hS.B.n3 (by decide) h20
    have l20 := (vi_n hv (by decide)).2
    have hlt : ¬ 20 ≤ E 0 3 := vi_not (n := 20) hv (by decide)
    rw [show (sText E).1 = 100 + (E 0 3 + 1) from by unfold sText; rw [if_neg h20]]
    refine al0 dX9_text_0 (by first | nofun | exact xrv_ne _) ?_
    refine gf9_69 rfl dX9_text_1 (fx0 hS.X) ?_
    rw [hS.A.2.1]
    refine ex_if_lt 16 dX9_text_4 (by decide) (fun h4 => ?_) (fun h4 => ?_)
    · exact absurd (vi_0le hS.B.n3) h4
    · refine al0 dX9_text_7 (by first | nofun | exact xrv_ne _) ?_
      refine gf9_69 rfl dX9_text_8 (fx0 hS.X) ?_
      rw [hS.A.2.1]
      refine ex_bipush (v := 20) dX9_text_11 (by decide) ?_
      refine ex_icmp_lt 19 dX9_text_13 (by decide) (fun h13 => ?_) (fun h13 => ?_)
      · refine al0 dX9_text_19 (by first | nofun | exact xrv_ne _) ?_
        refine gf9_17 rfl dX9_text_20 (fr0_1 hS.X) (fx0 hS.X) ?_
        refine al0 dX9_text_23 (by first | nofun | exact xrv_ne _) ?_
        refine gf9_69 rfl dX9_text_24 (fx0 hS.X) ?_
        rw [hS.A.2.1]
        refine al0 dX9_text_27 (by first | nofun | exact xrv_ne _) ?_
        refine gf9_48 rfl dX9_text_28 (hd) (fx0 hS.X) ?_
        refine ey_aast (c := 5) dX9_text_31 (fx2 hS.X) (by decide) (by decide) hv rfl (by decide) rfl hdt.1 ?_
        refine al0 dX9_text_32 (by first | nofun | exact xrv_ne _) ?_
        refine nw9_15 (kc1 := 1) (kw1 := 20) rfl dX9_text_33 (by omega) (by omega) ?_
        refine ex_dup dX9_text_36 ?_
        refine cs9_47 (f' := f - 1) rfl dX9_text_37 (Nat.le_of_ble_eq_true rfl) (by omega) (Nat.le_refl _) (Nat.le_refl _) (c_in5 (by omega) (G := gP G (5, 0)) xis_n) ?_
        rintro v1 G1 D1 R1 ⟨rfl, g, c1, c2, c3, c4⟩
        have g0 := Gr.new (D := D) (R := xru R 2 (ix (E 0 3)) (some d)) (G := G) (k := (5, 0)) G.1
        have gg := g0.tr g
        have k0 := g.is (xis_n (G := G) (c := 5))
        have hXg : xis G1 0 9 := gg.is (fx0 hS.X)
        have d1 : ∀ p, p < G.1 → D1 p = D p := fun p hp => (gg.2.2 p hp (by omega)).1
        have r1 : ∀ p, p < G.1 → R1 p = xru R 2 (ix (E 0 3)) (some d) p := fun p hp => (gg.2.2 p hp (by omega)).2
        have a9 : D1 0 9 = E 0 3 := by rw [d1 0 (by omega)]; exact hS.A.2.1
        have r0 : R1 G.1 0 = some (G.1 + 1) := by rw [c3, va_up_self]
        have dq : D1 G.1 = fun _ => 0 := by
          rw [c1]
          exact va_up_self _ _ _
        refine pf9_48 (some G.1) rfl dX9_text_40 rfl (fun r hr => by cases hr; exact k0.1) (hXg) ?_
        refine al0 dX9_text_43 (by first | nofun | exact xrv_ne _) ?_
        refine ex_dup dX9_text_44 ?_
        refine gf9_69 rfl dX9_text_45 (hXg) ?_
        rw [a9]
        refine ex_iconst (v := 1) dX9_text_48 (by decide) ?_
        refine ex_iadd dX9_text_49 ?_
        refine pf9_69 rfl dX9_text_50 (hXg) ?_
        refine ex_bipush (v := 101) dX9_text_53 (by decide) ?_
        refine al0 dX9_text_55 (by first | nofun | exact xrv_ne _) ?_
        refine gf9_69 rfl dX9_text_56 (hXg) ?_
        refine ex_iadd dX9_text_59 ?_
        refine ex_iconst (v := 1) dX9_text_60 (by decide) ?_
        refine ex_isub dX9_text_61 ?_
        refine ex_iret dX9_text_62 rfl ?_
        obtain ⟨hS2, hM2⟩ := Sim_text (D' := xdu D1 0 9 (E 0 3 + 1)) (R' := xru R1 0 7 (some G.1)) (G' := G1) hS l20 hd gg.1 gg.2.1 (fun p hp p0 => by rw [xdu_ne _ _ _ p0]; exact d1 p hp) (fun p hp p0 p2 => by rw [xr_ne p0, r1 p hp, xr_ne p2]) (by rw [xdu_self, d1 0 (by omega)]) (by rw [xr_self, r1 0 (by omega), xr_ne (by decide)]) (by rw [xr_ne (by decide), r1 2 (by omega), xr_self]) k0 c4 (by rw [xr_ne (by omega)]; exact r0) (by rw [xdu_ne _ _ _ (by omega), dq])
        refine ⟨?_, hS2, hM2⟩
        rw [xdu_self, upd_self, es]
        exact congrArg (fun z => some (Value.int z)) (i32_ret (b := 100))
      · exact absurd h13 hlt
