theorem Gr.tr2 {n m q q2 : Nat} {D D1 D2 : xD} {R R1 R2 : xR} {G G1 G2 : xG} (h : Gr n q D D1 R R1 G G1) (h2 : Gr m q2 D1 D2 R1 R2 G1 G2) (hq : G.1 ≤ q2) : Gr (n + m) q D D2 R R2 G G2 := ⟨by rw [h2.1, h.1]; omega, fun p hp => (h2.2.1 p (by rw [h.1]; omega)).trans (h.2.1 p hp), fun p hp hq => ⟨(h2.2.2 p (by rw [h.1]; omega) (by omega)).1.trans (h.2.2 p hp hq).1, (h2.2.2 p (by rw [h.1]; omega) (by omega)).2.trans (h.2.2 p hp hq).2⟩⟩
theorem ln_gr {m p q v : Nat} {D D' F : xD} {R R' : xR} {G G' : xG} (h : ln D R G q F v) (g : Gr m p D D' R R' G G') (hp : G.1 ≤ p) : ln D' R' G' q F v := by
  have a := h.1.1
  have b := h.2.2.1.1
  refine ⟨g.is h.1, by rw [(g.2.2 q a (by omega)).2]; exact h.2.1, g.ia h.2.2.1, ?_⟩
  rw [(g.2.2 q a (by omega)).1, (g.2.2 (q + 1) b (by omega)).1]
  exact h.2.2.2
/-- what always holds, behind one new thing with no pool -/
theorem Iv_one {E E' : xD} {n : Nat} (h : Iv E) (hn : E 0 14 = nI n) (n40 : n < 40) (hw : Nw E E' (n + 1)) (hN : LN E') (h14 : A14 E') (e14 : E' 0 14 = nI (n + 1)) (e12 : E' 12 (n + 1) = 0) : Iv E' := by
  have i14 : ix (E 0 14) = n := by rw [hn, ix_nI (by omega)]
  refine Iv_new h hN h14 hw.1 hw.2.1 (fun t ht hz => ?_) (fun c hc i i1 i2 hz => ?_)
  · have ne : t ≠ n + 1 := fun q => hz (by rw [q]; exact e12)
    rw [(hw.2.2.1 t ne ht).2.2.1] at hz ⊢
    obtain ⟨a, b⟩ := h.1.a12 ht hz
    exact ⟨a, by rw [e14, ix_nI (by omega)]; omega⟩
  · have ne : c ≠ n + 1 := fun q => hz (by rw [q]; exact e12)
    rw [(hw.2.2.1 c ne hc).2.2.1] at hz i2
    obtain ⟨a, b⟩ := h.1.a12 hc hz
    rw [(hw.2.2.1 (c + i) (by omega) (by omega)).1]
    exact h.2.2.2 c hc i i1 i2 hz
theorem noc_t {E : xD} {a : Int32} (h : a = 0 ∨ sIsClass E a = true) : (decide (a = 0) || sIsClass E a) = true := by
  rcases h with h | h
  · rw [h]; rfl
  · rw [h, Bool.or_true]
theorem noc_f {E : xD} {a : Int32} (h : ¬ (a = 0 ∨ sIsClass E a = true)) : (decide (a = 0) || sIsClass E a) = false ∧ ¬ a = 0 ∧ sIsClass E a = false := by
  have h1 : ¬ a = 0 := fun q => h (Or.inl q)
  have h2 : sIsClass E a = false := nb (fun q => h (Or.inr q))
  exact ⟨by rw [h2, decide_eq_false h1]; rfl, h1, h2⟩
theorem noc_C {E : xD} {a : Int32} (h : a = 0 ∨ sIsClass E a = true) : a = 0 ∨ isC E a := h.imp id isC_iff.mp
theorem noc_not {E : xD} {a b : Int32} (ha : a = 0 ∨ sIsClass E a = true) (hb : b = 0 ∨ sIsClass E b = true) : ¬ ((¬ a = 0 ∧ sIsClass E a = false) ∨ (¬ b = 0 ∧ sIsClass E b = false)) := by
  rintro (⟨q1, q2⟩ | ⟨q1, q2⟩)
  · rw [q2] at ha
    exact ha.elim q1 nofun
  · rw [q2] at hb
    exact hb.elim q1 nofun
/-- the line of a thing that is about to be made -/
theorem al_new {D1 E F : xD} {R1 : xR} {G G1 : xG} {n : Nat} (hN : LN F) (f14 : F 0 14 = nI (n + 1)) (f13 : F 13 = E 13) (fl : F 14 = E 14) (z : E 13 (n + 1) = 0) (k1 : xis G1 G.1 1) (r0 : R1 G.1 0 = some (G.1 + 1)) (c4 : xia G1 (G.1 + 1) 0 40) (d0 : D1 G.1 1 = 0) : AL D1 R1 G1 E F (n + 1) G.1 := ⟨hN, f14, fun v _ => by rw [f13], fun i _ => by rw [fl], k1, r0, c4, by rw [f13, d0, z], fun k hk => by rw [f13, z] at hk; exact absurd hk (by show ¬ k < 0; omega)⟩
theorem fr_new {m : Nat} {D D1 E : xD} {R R1 : xR} {G G1 : xG} (h : S0 D R G E) (g : Gr m G.1 D D1 R R1 G G1) : ∀ v b q2, 1 ≤ v → v ≤ ix (E 0 14) → R1 1 (v - 1) = some b → R1 b 1 = some q2 → q2 ≠ G.1 := fun v b q2 v1 v2 h1 h2 => by
  have h47 := h.1.1
  obtain ⟨c, c1, c2⟩ := h.2.2.2.2.2.2.1 v v1 v2
  rw [(g.2.2 1 (by omega) (by omega)).2, c1] at h1
  have ec : c = b := Option.some.inj h1
  subst ec
  obtain ⟨q, q1, q2'⟩ := c2.2.2.2.1
  have lt := c2.1.1.1
  rw [(g.2.2 c lt (by omega)).2, q1] at h2
  have eq2 : q = q2 := Option.some.inj h2
  have := q2'.1.1
  omega
/-- object: the reference's side -/
theorem ob_ref {E : xD} {n ga gb : Nat} (h : Iv E) (hF : Fsh E) (hn : E 0 14 = nI n) (n40 : n < 40) (hga : ga < 41) (hgb : gb < 41) (na : ga ≠ n + 1) (nb : gb ≠ n + 1) : ∃ F0 F2 : xD, F0 = xdu (sNew E 0) 11 (n + 1) 1 ∧ F2 = sJoin (sJoin F0 (nI (n + 1)) (nI ga)) (nI (n + 1)) (nI gb) ∧ LN F0 ∧ F0 0 14 = nI (n + 1) ∧ F0 13 = E 13 ∧ F0 14 = E 14 ∧ E 13 (n + 1) = 0 ∧ LN F2 ∧ F2 0 14 = nI (n + 1) ∧ Nw E F2 (n + 1) ∧ F2 10 (n + 1) = 0 ∧ F2 11 (n + 1) = 1 ∧ F2 12 (n + 1) = 0 ∧ F2 15 = E 15 ∧ F2 16 = E 16 ∧ A14 F2 := by
  have i14 : ix (E 0 14) = n := by rw [hn, ix_nI (by omega)]
  have hL := h.2.1
  obtain ⟨n1, n2, n3⟩ := sNew_LN (b := 0) hL (by omega)
  have w0 := Nw.new (b := 0) hL (by omega)
  rw [i14] at n2 n3 w0
  obtain ⟨F0, e0⟩ : ∃ F0, F0 = xdu (sNew E 0) 11 (n + 1) 1 := ⟨_, rfl⟩
  have l0 : LN F0 := by
    rw [e0]
    exact n1.same (by rw [xdu_ne _ _ _ (by decide)]) (xdu_ne _ _ _ (by decide)) (xdu_ne _ _ _ (by decide)) (xdu_ne _ _ _ (by decide)) (by rw [xdu_ne _ _ _ (by decide)]; exact n1.2.1)
  have w1 : Nw E F0 (n + 1) := by rw [e0]; exact w0.tr (Nw.set (Or.inl rfl))
  have ej : ∀ j, j ≠ 0 → j ≠ 10 → j ≠ 11 → F0 j = E j := fun j a b c => by rw [e0, xdu_ne _ _ _ c, n2, xdu_ne _ _ _ b, xdu_ne _ _ _ a]
  have f14 : F0 0 14 = nI (n + 1) := by rw [e0, xdu_ne _ _ _ (by decide)]; exact n3
  have i0 : ix (F0 0 14) = n + 1 := by rw [f14, ix_nI (by omega)]
  obtain ⟨j1, j2⟩ := sJoin_LN (t := n + 1) (g := ga) l0 (by omega) hga (Ne.symm na)
  have g0 : sJoin F0 (nI (n + 1)) (nI ga) 0 = F0 0 := j2.1 0 (by decide) (by decide)
  obtain ⟨j3, j4⟩ := sJoin_LN (t := n + 1) (g := gb) j1 (by rw [g0]; omega) hgb (Ne.symm nb)
  have a0 : A14 F0 := by
    unfold A14
    rw [ej 14 (by decide) (by decide) (by decide)]
    exact fun i hi => h.1.a14 hi
  have a1 := A14.join (t := nI (n + 1)) a0 hga (l0.2.2 ga hga).1
  have a2 := A14.join (t := nI (n + 1)) a1 hgb (j1.2.2 gb hgb).1
  have kj : ∀ j, j ≠ 13 → j ≠ 14 → sJoin (sJoin F0 (nI (n + 1)) (nI ga)) (nI (n + 1)) (nI gb) j = F0 j := fun j a b => (j4.1 j a b).trans (j2.1 j a b)
  refine ⟨F0, _, e0, rfl, l0, f14, ej 13 (by decide) (by decide) (by decide), ej 14 (by decide) (by decide) (by decide), (hL.2.2 (n + 1) (by omega)).2.2 (by omega), j3, by rw [kj 0 (by decide) (by decide)]; exact f14, (w1.tr (Nw.line j2)).tr (Nw.line j4), ?_, ?_, ?_, ?_, ?_, a2⟩
  · rw [kj 10 (by decide) (by decide), e0, xdu_ne _ _ _ (by decide), n2, xdu_self, upd_self]
  · rw [kj 11 (by decide) (by decide), e0, xdu_self, upd_self]
  · rw [kj 12 (by decide) (by decide), ej 12 (by decide) (by decide) (by decide)]
    exact (hF.2.2.1 (n + 1) (by omega) (by omega)).2.1
  · rw [kj 15 (by decide) (by decide), ej 15 (by decide) (by decide) (by decide)]
  · rw [kj 16 (by decide) (by decide), ej 16 (by decide) (by decide) (by decide)]
theorem okc2 {E : xD} (hN : LN E) {a : Int32} {n : Nat} (hn : E 0 14 = nI n) (n40 : n < 40) (h : a = 0 ∨ isC E a) : ∃ g, a = nI g ∧ g < 41 ∧ g ≠ n + 1 := by
  rcases h with h | h
  · exact ⟨0, h, by decide, by omega⟩
  · obtain ⟨e, a1, a2, a3⟩ := isC_n hN.1 h
    rw [hn, ix_nI (by omega)] at a2
    exact ⟨ix a, e, by omega, by omega⟩
set_option maxRecDepth 20000 in
set_option maxHeartbeats 1000000 in
theorem c_object {Γ : xGm} {l : Launch} {f : Nat} {G : xG} {D E : xD} {R : xR} (hf : 7 ≤ f) (hS : Sim D R G E) {a b : Int32} : Cn Γ l f MX9_object [.ref 0, .int a, .int b] G D R 6 111 (Sa D (some (.int (sObject E a b).1)) (sObject E a b).2) := by
  refine cn_of MX9_object_ok (Nat.le_of_ble_eq_true rfl) ?_
  show Ex Γ l f MX9_object 0 [some (.ref 0), some (.int a), some (.int b), none, none] [] G D R 6 111 _
  by_cases ha : a = 0 ∨ sIsClass E a = true
  · have ta := noc_t ha
    by_cases hb : b = 0 ∨ sIsClass E b = true
    · have tb := noc_t hb
      have hna := noc_not ha hb
      by_cases h40 : E 0 14 = 40
      · rw [show sObject E a b = (-4, E) from by unfold sObject; rw [if_neg hna, if_pos h40]]
        refine al0 dX9_object_0 (by first | nofun | exact xrv_ne _) ?_
        refine il1 dX9_object_1 ?_
        refine cd9_84 (f' := f - 1) rfl dX9_object_2 (Nat.le_of_ble_eq_true rfl) (fx0 hS.X) (by omega) (c_noc (by omega) hS) ?_
        refine ex_if_eq 16 dX9_object_5 (by decide) (fun h5 => ?_) (fun h5 => ?_)
        · exact absurd (bi_0.mp h5) (by rw [ta]; decide)
        · simp only [bi_0, Bool.not_eq_false] at h5
          refine al0 dX9_object_8 (by first | nofun | exact xrv_ne _) ?_
          refine il2 dX9_object_9 ?_
          refine cd9_84 (f' := f - 1) rfl dX9_object_10 (Nat.le_of_ble_eq_true rfl) (fx0 hS.X) (by omega) (c_noc (by omega) hS) ?_
          refine ex_if_ne 19 dX9_object_13 (by decide) (fun h13 => ?_) (fun h13 => ?_)
          · simp only [bi_0, Bool.not_eq_false] at h13
            refine al0 dX9_object_19 (by first | nofun | exact xrv_ne _) ?_
            refine gf9_88 rfl dX9_object_20 (fx0 hS.X) ?_
            refine ex_bipush (v := 40) dX9_object_23 (by decide) ?_
            rw [hS.A.1]
            refine ex_icmp_lt 31 dX9_object_25 (by decide) (fun h25 => ?_) (fun h25 => ?_)
            · exact absurd (by rw [h40]; decide) h25
            · refine ex_bipush (v := (-4)) dX9_object_28 (by decide) ?_
              refine ex_iret dX9_object_30 rfl ?_
              exact ⟨rfl, hS, Sam.rf⟩
          · exact absurd (bi_0.mp h13) (by rw [tb]; decide)
      · have hv := vi_ne hS.B.n14 (by decide) h40
        obtain ⟨hn, n40⟩ := vi_n hv (by decide)
        have hT := nI_T hS.I.2.1
        have hlt : ¬ 40 ≤ E 0 14 := vi_not (n := 40) hv (by decide)
        have hN := hS.I.2.1
        have h47 := hS.X.1
        generalize hnn : ix (E 0 14) = n at *
        obtain ⟨ga, ea, ga41, nga⟩ := okc2 hN hn n40 (noc_C ha)
        obtain ⟨gb, eb, gb41, ngb⟩ := okc2 hN hn n40 (noc_C hb)
        obtain ⟨F0, F2, e0, e2, l0, f14, f13, fl, z13, l2, g14, w2, g10, g11, g12, g15, g16, a14⟩ := ob_ref hS.I hS.F hn n40 ga41 gb41 nga ngb
        rw [← ea, ← eb] at e2
        rw [show sObject E a b = (nI (n + 1), sRows F2 (nI (n + 1))) from by unfold sObject; rw [if_neg hna, if_neg h40, hT, ix_nI (by omega), ← e0, ← e2]]
        refine al0 dX9_object_0 (by first | nofun | exact xrv_ne _) ?_
        refine il1 dX9_object_1 ?_
        refine cd9_84 (f' := f - 1) rfl dX9_object_2 (Nat.le_of_ble_eq_true rfl) (fx0 hS.X) (by omega) (c_noc (by omega) hS) ?_
        refine ex_if_eq 16 dX9_object_5 (by decide) (fun h5 => ?_) (fun h5 => ?_)
        · exact absurd (bi_0.mp h5) (by rw [ta]; decide)
        · simp only [bi_0, Bool.not_eq_false] at h5
          refine al0 dX9_object_8 (by first | nofun | exact xrv_ne _) ?_
          refine il2 dX9_object_9 ?_
          refine cd9_84 (f' := f - 1) rfl dX9_object_10 (Nat.le_of_ble_eq_true rfl) (fx0 hS.X) (by omega) (c_noc (by omega) hS) ?_
          refine ex_if_ne 19 dX9_object_13 (by decide) (fun h13 => ?_) (fun h13 => ?_)
          · simp only [bi_0, Bool.not_eq_false] at h13
            refine al0 dX9_object_19 (by first | nofun | exact xrv_ne _) ?_
            refine gf9_88 rfl dX9_object_20 (fx0 hS.X) ?_
            refine ex_bipush (v := 40) dX9_object_23 (by decide) ?_
            rw [hS.A.1]
            refine ex_icmp_lt 31 dX9_object_25 (by decide) (fun h25 => ?_) (fun h25 => ?_)
            · refine nw9_91 (kc1 := 5) (kw1 := 109) rfl dX9_object_31 (by omega) (by omega) ?_
              refine ex_dup dX9_object_34 ?_
              refine cs9_93 (f' := f - 1) rfl dX9_object_35 (Nat.le_of_ble_eq_true rfl) (by omega) (by omega) (by omega) (c_in1 (by omega) (G := gP G (1, 0)) xis_n) ?_
              rintro v1 G1 D1 R1 ⟨rfl, g, c1, c2, c3, c4⟩
              have gg := (Gr.new (D := D) (R := R) (G := G) (k := (1, 0)) G.1).tr g
              obtain ⟨hS1, hM1⟩ := S0_grow hS.s0 gg (Nat.le_refl _)
              have k1 := g.is (xis_n (G := G) (c := 1))
              have r0 : R1 G.1 0 = some (G.1 + 1) := by
                rw [c3]
                exact va_up_self _ _ _
              have d0 : D1 G.1 1 = 0 := by
                rw [c1]
                show va_up D G.1 (fun _ => 0) G.1 1 = 0
                rw [va_up_self]
              have hal := al_new (E := E) (F := F0) (n := n) l0 f14 f13 fl z13 k1 r0 c4 d0
              refine as3 dX9_object_38 (by first | nofun | exact xrv_ne _) ?_
              refine al0 dX9_object_39 (by first | nofun | exact xrv_ne _) ?_
              refine al3 dX9_object_40 (by first | nofun | exact xrv_ne _) ?_
              refine il1 dX9_object_41 ?_
              refine il2 dX9_object_42 ?_
              refine cs9_97 (f' := f - 1) rfl dX9_object_43 (Nat.le_of_ble_eq_true rfl) ((fx0 hS1.1)) (by omega) (Nat.zero_le _) (Nat.zero_le _) (c_addLines (by omega) hS1 hN hal (by omega) (by omega) h47 (fr_new hS.s0 gg) (noc_C ha) (noc_C hb)) ?_
              rintro v2 G2 D2 R2 ⟨rfl, rfl, rfl, hd2, hal2⟩
              rw [← e2] at hal2
              have g2 := gg.set (D2 := D2) (R2 := R2) (fun p hp => hd2 p (by omega) (by omega)) (fun _ _ => rfl)
              refine nw9_9 (kc1 := 3) (kw1 := 62) rfl dX9_object_46 (by omega) (by omega) ?_
              refine ex_dup dX9_object_49 ?_
              refine ex_iconst (v := 0) dX9_object_50 (by decide) ?_
              refine al3 dX9_object_51 (by first | nofun | exact xrv_ne _) ?_
              refine ex_iconst (v := 0) dX9_object_52 (by decide) ?_
              refine cs9_101 (f' := f - 1) rfl dX9_object_53 (Nat.le_of_ble_eq_true rfl) (by omega) (by omega) (by omega) (c_in6 (by omega) (G := gP G2 (6, 0)) xis_n (show G.1 < G2.1 + 1 by have := hal2.2.2.2.2.1.1; omega) (Or.inl rfl)) ?_
              rintro v3 G3 D3 R3 ⟨rfl, g3, c31, c32, c33, c34, c35⟩
              have h3 := (Gr.new (D := D2) (R := R2) (G := G2) (k := (6, 0)) G2.1).tr g3
              have hG2 : G2.1 = G.1 + 2 := g2.1
              have g4 := g2.tr2 h3 (by omega)
              have k6 := g3.is (xis_n (G := G2) (c := 6))
              have r6 : R3 G2.1 = va_up (va_up (fun _ => none) 3 (some (G2.1 + 1))) 1 (some G.1) := by
                rw [c32]
                show va_up (va_up (va_up R2 G2.1 (fun _ => none) G2.1) 3 _) 1 _ = _
                rw [va_up_self]
              have d6 : D3 G2.1 = upd (upd (fun _ => 0) 0 0) 2 0 := by
                rw [c31]
                show upd (upd (va_up D2 G2.1 (fun _ => 0) G2.1) 0 0) 2 0 = _
                rw [va_up_self]
              have g5 := g4.set (D2 := xdu D3 G2.1 4 1) (R2 := R3) (fun p hp => xdu_ne _ _ _ (by omega)) (fun _ _ => rfl)
              have hl3 := (ln_gr hal2.2.2.2.2 h3 (Nat.le_refl _))
              have lt3 := hal2.2.2.2.2.2.2.1.1
              have hl4 : ln (xdu D3 G2.1 4 1) R3 G3 G.1 F2 (n + 1) := hl3.same (xdu_ne _ _ _ (by omega)) (xdu_ne _ _ _ (by omega)) rfl (fun _ _ => rfl) (Nat.le_trans (l2.2.2 _ (by omega)).1.le (by decide))
              obtain ⟨D5, hc, d58, hS5, hM5, hD5, l5, w5, fr5, j5⟩ := mk_take (Γ := Γ) (l := l) (f := f - 1) (b := G2.1) (by omega) hS.s0 hN hS.F g5 hn n40 l2 g14 w2 g10 (Or.inr g11) g12 g15 g16 (by omega) k6 (by rw [r6]; rfl) (by rw [r6, va_up_self]) (by rw [r6]; rfl) c33 (by rw [xdu_self, d6]; rfl) (by rw [xdu_self, d6]; rfl) (by rw [xdu_self, upd_self, g11]) (by rw [xdu_self, d6]; rfl) hl4
              have hX5 := (S0_grow hS.s0 g5 (Nat.le_refl _)).1.1
              have iv5 := Iv_one hS.I hn n40 w5 l5 (by unfold A14; rw [j5 14 (by decide) (by decide)]; exact a14) (by rw [j5 0 (by decide) (by decide)]; exact g14) (by rw [j5 12 (by decide) (by decide)]; exact g12)
              refine as4 dX9_object_56 (by first | nofun | exact xrv_ne _) ?_
              refine al4 dX9_object_58 (by first | nofun | exact xrv_ne _) ?_
              refine ex_iconst (v := 1) dX9_object_60 (by decide) ?_
              refine pf9_111 rfl dX9_object_61 (by decide) k6 ?_
              refine al0 dX9_object_64 (by first | nofun | exact xrv_ne _) ?_
              refine al4 dX9_object_65 (by first | nofun | exact xrv_ne _) ?_
              refine cd9_108 (f' := f - 1) rfl dX9_object_67 (Nat.le_of_ble_eq_true rfl) ((fx0 hX5)) (by omega) (hc) ?_
              refine al0 dX9_object_70 (by first | nofun | exact xrv_ne _) ?_
              refine al4 dX9_object_71 (by first | nofun | exact xrv_ne _) ?_
              refine cd9_104 (f' := f - 1) rfl dX9_object_73 (Nat.le_of_ble_eq_true rfl) ((fx0 hX5)) (by omega) (c_addThing hX5 d58 n40 k6) ?_
              refine al0 dX9_object_76 (by first | nofun | exact xrv_ne _) ?_
              refine gf9_88 rfl dX9_object_77 ((fx0 hX5)) ?_
              refine ex_iret dX9_object_80 rfl ?_
              refine ⟨?_, hS5.sim iv5 fr5, hM5⟩
              rw [xdu_self, upd_self]
            · exact absurd h25 hlt
          · exact absurd (bi_0.mp h13) (by rw [tb]; decide)
    · obtain ⟨tb, nb1, nb2⟩ := noc_f hb
      rw [show sObject E a b = (-2, E) from by unfold sObject; rw [if_pos (Or.inr ⟨nb1, nb2⟩)]]
      refine al0 dX9_object_0 (by first | nofun | exact xrv_ne _) ?_
      refine il1 dX9_object_1 ?_
      refine cd9_84 (f' := f - 1) rfl dX9_object_2 (Nat.le_of_ble_eq_true rfl) (fx0 hS.X) (by omega) (c_noc (by omega) hS) ?_
      refine ex_if_eq 16 dX9_object_5 (by decide) (fun h5 => ?_) (fun h5 => ?_)
      · exact absurd (bi_0.mp h5) (by rw [ta]; decide)
      · simp only [bi_0, Bool.not_eq_false] at h5
        refine al0 dX9_object_8 (by first | nofun | exact xrv_ne _) ?_
        refine il2 dX9_object_9 ?_
        refine cd9_84 (f' := f - 1) rfl dX9_object_10 (Nat.le_of_ble_eq_true rfl) (fx0 hS.X) (by omega) (c_noc (by omega) hS) ?_
        refine ex_if_ne 19 dX9_object_13 (by decide) (fun h13 => ?_) (fun h13 => ?_)
        · exact absurd (bi_0.mpr tb) h13
        · simp only [bi_0, Bool.not_eq_false] at h13
          refine ex_bipush (v := (-2)) dX9_object_16 (by decide) ?_
          refine ex_iret dX9_object_18 rfl ?_
          exact ⟨rfl, hS, Sam.rf⟩
  · obtain ⟨ta, na1, na2⟩ := noc_f ha
    rw [show sObject E a b = (-2, E) from by unfold sObject; rw [if_pos (Or.inl ⟨na1, na2⟩)]]
    refine al0 dX9_object_0 (by first | nofun | exact xrv_ne _) ?_
    refine il1 dX9_object_1 ?_
    refine cd9_84 (f' := f - 1) rfl dX9_object_2 (Nat.le_of_ble_eq_true rfl) (fx0 hS.X) (by omega) (c_noc (by omega) hS) ?_
    refine ex_if_eq 16 dX9_object_5 (by decide) (fun h5 => ?_) (fun h5 => ?_)
    · simp only [bi_0, Bool.not_eq_false] at h5
      refine ex_bipush (v := (-2)) dX9_object_16 (by decide) ?_
      refine ex_iret dX9_object_18 rfl ?_
      exact ⟨rfl, hS, Sam.rf⟩
    · exact absurd (bi_0.mpr ta) h5
