/-- group: the reference's side -/
theorem gr_ref {E : xD} {n ga gb p : Nat} (h : Iv E) (hF : Fsh E) (hn : E 0 14 = nI n) (n40 : n < 40) (hga : ga < 41) (hgb : gb < 41) (na : ga ≠ n + 1) (nb : gb ≠ n + 1) : ∃ N F0 F2 F3 : xD, N = sNew E 1 ∧ F0 = sAddTo N (nI (n + 1)) (nI (n + 1)) ∧ F2 = sJoin (sJoin F0 (nI (n + 1)) (nI ga)) (nI (n + 1)) (nI gb) ∧ F3 = xdu F2 12 (n + 1) (nI p) ∧ (Lnp N (n + 1) ∧ N 13 = E 13 ∧ N 14 = E 14 ∧ E 13 (n + 1) = 0) ∧ (LN F0 ∧ F0 0 14 = nI (n + 1) ∧ (∀ v, v ≠ n + 1 → F0 13 v = E 13 v) ∧ ∀ i, (i < 41 * (n + 1) ∨ 41 * (n + 1) + 41 ≤ i) → F0 14 i = E 14 i) ∧ LN F3 ∧ F3 0 14 = nI (n + 1) ∧ Nw E F3 (n + 1) ∧ F3 10 = upd (E 10) (n + 1) 1 ∧ F3 11 = E 11 ∧ F3 12 = upd (E 12) (n + 1) (nI p) ∧ F3 15 = E 15 ∧ A14 F3 ∧ F3 13 = F2 13 ∧ F3 14 = F2 14 := by
  have i14 : ix (E 0 14) = n := by rw [hn, ix_nI (by omega)]
  have hL := h.2.1
  obtain ⟨n1, n2, n3⟩ := sNew_LN (b := 1) hL (by omega)
  have w0 := Nw.new (b := 1) hL (by omega)
  rw [i14] at n2 n3 w0
  have i0 : ix (sNew E 1 0 14) = n + 1 := by rw [n3, ix_nI (by omega)]
  have ej : ∀ j, j ≠ 0 → j ≠ 10 → sNew E 1 j = E j := fun j a b => by rw [n2, xdu_ne _ _ _ b, xdu_ne _ _ _ a]
  have e10 : sNew E 1 10 = upd (E 10) (n + 1) 1 := by rw [n2, xdu_self, xdu_ne _ _ _ (by decide)]
  have hC : isC (sNew E 1) (nI (n + 1)) := by
    refine ⟨?_, ?_⟩
    · rw [n3]
      exact sIn_t.mpr ⟨nI_le (a := 1) (by omega) (by omega), Int32.le_refl _⟩
    · rw [ix_nI (by omega), e10, upd_self]
      decide
  obtain ⟨s1, s2⟩ := sAddTo_LN (t := n + 1) (j := n + 1) n1 (by omega) hC (by omega)
  obtain ⟨F0, e0⟩ : ∃ F0, F0 = sAddTo (sNew E 1) (nI (n + 1)) (nI (n + 1)) := ⟨_, rfl⟩
  rw [← e0] at s1 s2
  have g00 : F0 0 = sNew E 1 0 := s2.1 0 (by decide) (by decide)
  obtain ⟨j1, j2⟩ := sJoin_LN (t := n + 1) (g := ga) s1 (by rw [g00]; omega) hga (Ne.symm na)
  have g0 : sJoin F0 (nI (n + 1)) (nI ga) 0 = F0 0 := j2.1 0 (by decide) (by decide)
  obtain ⟨j3, j4⟩ := sJoin_LN (t := n + 1) (g := gb) j1 (by rw [g0, g00]; omega) hgb (Ne.symm nb)
  obtain ⟨F2, e2⟩ : ∃ F2, F2 = sJoin (sJoin F0 (nI (n + 1)) (nI ga)) (nI (n + 1)) (nI gb) := ⟨_, rfl⟩
  have a0 : A14 F0 := by
    rw [e0]
    refine A14.add ?_ (vi_of (by omega) (by decide))
    unfold A14
    rw [ej 14 (by decide) (by decide)]
    exact fun i hi => h.1.a14 hi
  have a1 := A14.join (t := nI (n + 1)) a0 hga (s1.2.2 ga hga).1
  have a2 := A14.join (t := nI (n + 1)) a1 hgb (j1.2.2 gb hgb).1
  rw [← e2] at j3 j4 a2
  have kj : ∀ j, j ≠ 13 → j ≠ 14 → F2 j = sNew E 1 j := fun j a b => ((j4.1 j a b).trans (j2.1 j a b)).trans (s2.1 j a b)
  have k0 : ∀ j, j ≠ 12 → xdu F2 12 (n + 1) (nI p) j = F2 j := fun j a => xdu_ne _ _ _ a
  refine ⟨sNew E 1, F0, F2, _, rfl, e0, e2, rfl, ⟨(n1.2.2 (n + 1) (by omega)).1, ej 13 (by decide) (by decide), ej 14 (by decide) (by decide), (hL.2.2 (n + 1) (by omega)).2.2 (by omega)⟩, ⟨s1, by rw [g00]; exact n3, fun v hv => by rw [s2.2.1 v hv, ej 13 (by decide) (by decide)], fun i hi => by rw [s2.2.2 i hi, ej 14 (by decide) (by decide)]⟩, ?_, ?_, ?_, ?_, ?_, ?_, ?_, ?_, k0 13 (by decide), k0 14 (by decide)⟩
  · exact j3.same (by rw [k0 0 (by decide)]) (k0 10 (by decide)) (k0 13 (by decide)) (k0 14 (by decide)) (by rw [k0 15 (by decide)]; exact j3.2.1)
  · rw [k0 0 (by decide), kj 0 (by decide) (by decide)]
    exact n3
  · exact (((w0.tr (Nw.line s2)).tr (Nw.line j2)).tr (Nw.line j4)).tr (Nw.set (Or.inr rfl))
  · rw [k0 10 (by decide), kj 10 (by decide) (by decide)]
    exact e10
  · rw [k0 11 (by decide), kj 11 (by decide) (by decide), ej 11 (by decide) (by decide)]
  · rw [xdu_self, kj 12 (by decide) (by decide), ej 12 (by decide) (by decide)]
  · rw [k0 15 (by decide), kj 15 (by decide) (by decide), ej 15 (by decide) (by decide)]
  · unfold A14
    rw [k0 14 (by decide)]
    exact a2
theorem i32_p {p : Int32} (h : sIn p 0 6 = true) : ∃ q : Nat, p = nI q ∧ q ≤ 6 ∧ ix p = q := by
  have h2 := sIn_t.mp h
  have hv : vp_in p 7 := vi_btw (a := 0) (x := 6) (A := 7) (vi_of (n := 6) (by decide) (by decide)) h2.1 h2.2 (by decide) (by decide)
  obtain ⟨e, l⟩ := vi_n hv (by decide)
  exact ⟨ix p, e, by omega, rfl⟩
set_option maxRecDepth 20000 in
set_option maxHeartbeats 1000000 in
theorem c_group {Γ : xGm} {l : Launch} {f : Nat} {G : xG} {D E : xD} {R : xR} (hf : 8 ≤ f) (hS : Sim D R G E) {a b p : Int32} : Cn Γ l f MX9_group [.ref 0, .int a, .int b, .int p] G D R 30 525 (Sa D (some (.int (sGroup E a b p).1)) (sGroup E a b p).2) := by
  refine cn_of MX9_group_ok (Nat.le_of_ble_eq_true rfl) ?_
  show Ex Γ l f MX9_group 0 [some (.ref 0), some (.int a), some (.int b), some (.int p), none, none, none, none] [] G D R 30 525 _
  by_cases ha : a = 0 ∨ sIsClass E a = true
  · have ta := noc_t ha
    by_cases hb : b = 0 ∨ sIsClass E b = true
    · have tb := noc_t hb
      have hna := noc_not ha hb
      by_cases hp : sIn p 0 6 = true
      · have hp2 := sIn_t.mp hp
        obtain ⟨q, ep, q6, iq⟩ := i32_p hp
        have hpn : ¬ sIn p 0 6 = false := by rw [hp]; decide
        have hT := nI_T hS.I.2.1
        have hn := (vi_n hS.B.n14 (by decide)).1
        have n41 := (vi_n hS.B.n14 (by decide)).2
        have hN := hS.I.2.1
        have h47 := hS.X.1
        have hF := hS.F
        generalize hnn : ix (E 0 14) = n at *
        have esum : E 0 14 + 1 + p = nI (n + 1 + q) := by rw [hT, ep, nI_add]
        by_cases h40 : n + 1 + q ≤ 40
        · have hs40 : E 0 14 + 1 + p ≤ 40 := by rw [esum]; exact nI_le (b := 40) h40 (by decide)
          obtain ⟨ga, ea, ga41, nga⟩ := okc2 hN hn (by omega) (noc_C ha)
          obtain ⟨gb, eb, gb41, ngb⟩ := okc2 hN hn (by omega) (noc_C hb)
          obtain ⟨N, F0, F2, F3, eN, e0, e2, e3, ⟨nL, n13, n14, z13⟩, ⟨l0, f14, f13, fl⟩, l3, g14, w3, g10, g11, g12, g15, a14, gg13, gg14⟩ := gr_ref (p := q) hS.I hS.F hn (by omega) ga41 gb41 nga ngb
          rw [← ea, ← eb] at e2
          rw [show sGroup E a b p = (nI (n + 1), sPool F3 (nI (n + 1)) q) from by unfold sGroup; rw [if_neg hna, if_neg hpn, if_neg (fun z => z hs40), hT, ix_nI (by omega), ← eN, ← e0, ← e2, iq, ep, ← e3]]
          refine al0 dX9_group_0 (by first | nofun | exact xrv_ne _) ?_
          refine il1 dX9_group_1 ?_
          refine cd9_84 (f' := f - 1) rfl dX9_group_2 (Nat.le_of_ble_eq_true rfl) (fx0 hS.X) (by omega) (c_noc (by omega) hS) ?_
          refine ex_if_eq 16 dX9_group_5 (by decide) (fun h5 => ?_) (fun h5 => ?_)
          · exact absurd (bi_0.mp h5) (by rw [ta]; decide)
          · simp only [bi_0, Bool.not_eq_false] at h5
            refine al0 dX9_group_8 (by first | nofun | exact xrv_ne _) ?_
            refine il2 dX9_group_9 ?_
            refine cd9_84 (f' := f - 1) rfl dX9_group_10 (Nat.le_of_ble_eq_true rfl) (fx0 hS.X) (by omega) (c_noc (by omega) hS) ?_
            refine ex_if_ne 19 dX9_group_13 (by decide) (fun h13 => ?_) (fun h13 => ?_)
            · simp only [bi_0, Bool.not_eq_false] at h13
              refine il3 dX9_group_19 ?_
              refine ex_if_lt 29 dX9_group_20 (by decide) (fun h20 => ?_) (fun h20 => ?_)
              · exact absurd hp2.1 h20
              · refine il3 dX9_group_23 ?_
                refine ex_bipush (v := 6) dX9_group_24 (by decide) ?_
                refine ex_icmp_le 32 dX9_group_26 (by decide) (fun h26 => ?_) (fun h26 => ?_)
                · refine al0 dX9_group_32 (by first | nofun | exact xrv_ne _) ?_
                  refine gf9_88 rfl dX9_group_33 (fx0 hS.X) ?_
                  refine ex_iconst (v := 1) dX9_group_36 (by decide) ?_
                  refine ex_iadd dX9_group_37 ?_
                  refine il3 dX9_group_38 ?_
                  refine ex_iadd dX9_group_39 ?_
                  refine ex_bipush (v := 40) dX9_group_40 (by decide) ?_
                  rw [hS.A.1]
                  refine ex_icmp_le 48 dX9_group_42 (by decide) (fun h42 => ?_) (fun h42 => ?_)
                  · refine al0 dX9_group_48 (by first | nofun | exact xrv_ne _) ?_
                    refine gf9_88 rfl dX9_group_49 (fx0 hS.X) ?_
                    refine ex_iconst (v := 1) dX9_group_52 (by decide) ?_
                    refine ex_iadd dX9_group_53 ?_
                    rw [hS.A.1, hT]
                    refine is4 dX9_group_54 ?_
                    refine nw9_91 (kc1 := 29) (kw1 := 523) rfl dX9_group_56 (by omega) (by omega) ?_
                    refine ex_dup dX9_group_59 ?_
                    refine cs9_93 (f' := f - 1) rfl dX9_group_60 (Nat.le_of_ble_eq_true rfl) (by omega) (by omega) (by omega) (c_in1 (by omega) (G := gP G (1, 0)) xis_n) ?_
                    rintro v1 G1 D1 R1 ⟨rfl, g, c1, c2, c3, c4⟩
                    have gg := (Gr.new (D := D) (R := R) (G := G) (k := (1, 0)) G.1).tr g
                    obtain ⟨hS1, hM1⟩ := S0_grow hS.s0 gg (Nat.le_refl _)
                    have k1 := g.is (xis_n (G := G) (c := 1))
                    have r0 : R1 G.1 0 = some (G.1 + 1) := by
                      rw [c3]
                      exact va_up_self _ _ _
                    have d0 : D1 G.1 1 = 0 := by
                      rw [c1]
                      show va_up D G.1 (fun _ => 0) G.1 1 = 0
                      rw [va_up_self]
                    have alN : ln D1 R1 G1 G.1 N (n + 1) := ⟨k1, r0, c4, by rw [d0, n13, z13], fun k hk => by rw [n13, z13] at hk; exact absurd hk (by show ¬ k < 0; omega)⟩
                    have aln := ln_add alN nL (show n + 1 < 41 by omega) (show 1 ≤ n + 1 by omega) (show n + 1 ≤ 40 by omega)
                    rw [← e0] at aln
                    have gL := gg.set (D2 := cLadd D1 G.1 (nI (n + 1)) N (n + 1)) (R2 := R1) (fun p hp => cLadd_ne (by omega) (by omega)) (fun _ _ => rfl)
                    obtain ⟨hSL, hML⟩ := S0_grow hS.s0 gL (Nat.le_refl _)
                    have hal : AL (cLadd D1 G.1 (nI (n + 1)) N (n + 1)) R1 G1 E F0 (n + 1) G.1 := ⟨l0, f14, f13, fl, aln⟩
                    refine as5 dX9_group_63 (by first | nofun | exact xrv_ne _) ?_
                    refine al5 dX9_group_65 (by first | nofun | exact xrv_ne _) ?_
                    refine il4 dX9_group_67 ?_
                    refine cd9_94 (f' := f - 1) rfl dX9_group_69 (Nat.le_of_ble_eq_true rfl) k1 (by omega) (c_ladd (by omega) alN nL (by omega) (by omega) (by omega)) ?_
                    refine al0 dX9_group_72 (by first | nofun | exact xrv_ne _) ?_
                    refine al5 dX9_group_73 (by first | nofun | exact xrv_ne _) ?_
                    refine il1 dX9_group_75 ?_
                    refine il2 dX9_group_76 ?_
                    refine cs9_97 (f' := f - 1) rfl dX9_group_77 (Nat.le_of_ble_eq_true rfl) ((fx0 hSL.1)) (by omega) (Nat.zero_le _) (Nat.zero_le _) (c_addLines (by omega) hSL hN hal (by omega) (by omega) h47 (fr_new hS.s0 gL) (noc_C ha) (noc_C hb)) ?_
                    rintro v2 G2 D2 R2 ⟨rfl, rfl, rfl, hd2, hal2⟩
                    rw [← e2] at hal2
                    have g2 := gL.set (D2 := D2) (R2 := R2) (fun p hp => hd2 p (by omega) (by omega)) (fun _ _ => rfl)
                    refine al0 dX9_group_80 (by first | nofun | exact xrv_ne _) ?_
                    refine nw9_9 (kc1 := 27) (kw1 := 476) rfl dX9_group_81 (by omega) (by omega) ?_
                    refine ex_dup dX9_group_84 ?_
                    refine ex_iconst (v := 1) dX9_group_85 (by decide) ?_
                    refine al5 dX9_group_86 (by first | nofun | exact xrv_ne _) ?_
                    refine il3 dX9_group_88 ?_
                    refine cs9_101 (f' := f - 1) rfl dX9_group_89 (Nat.le_of_ble_eq_true rfl) (by omega) (by omega) (by omega) (c_in6 (by omega) (G := gP G2 (6, 0)) xis_n (show G.1 < G2.1 + 1 by have := hal2.2.2.2.2.1.1; omega) (Or.inr rfl)) ?_
                    rintro v3 G3 D3 R3 ⟨rfl, g3, c31, c32, c33, c34, c35⟩
                    have h3 := (Gr.new (D := D2) (R := R2) (G := G2) (k := (6, 0)) G2.1).tr g3
                    have hG2 : G2.1 = G.1 + 2 := g2.1
                    have g4 := g2.tr2 h3 (by omega)
                    have k6 := g3.is (xis_n (G := G2) (c := 6))
                    have r6 : R3 G2.1 = va_up (va_up (fun _ => none) 3 (some (G2.1 + 1))) 1 (some G.1) := by
                      rw [c32]
                      show va_up (va_up (va_up R2 G2.1 (fun _ => none) G2.1) 3 _) 1 _ = _
                      rw [va_up_self]
                    have d6 : D3 G2.1 = upd (upd (fun _ => 0) 0 1) 2 (nI q) := by
                      rw [c31]
                      show upd (upd (va_up D2 G2.1 (fun _ => 0) G2.1) 0 1) 2 _ = _
                      rw [va_up_self, ep]
                    obtain ⟨hS4, hM4⟩ := S0_grow hS.s0 g4 (Nat.le_refl _)
                    have hl3 := ln_gr hal2.2.2.2.2 h3 (Nat.le_refl _)
                    have hl4 : ln D3 R3 G3 G.1 F3 (n + 1) := hl3.same rfl rfl (by rw [gg13]) (fun k _ => by rw [gg14]) (by rw [← gg13]; exact Nat.le_trans (l3.2.2 _ (by omega)).1.le (by decide))
                    obtain ⟨z1, z2, z3, z4, z5⟩ := hF.2.2.1 (n + 1) (by omega) (by omega)
                    have hth : th D3 R3 G3 G2.1 F3 (n + 1) := by
                      refine ⟨⟨k6, by rw [r6]; rfl⟩, ?_, Or.inl ⟨by rw [w3.2.1 17 (by decide) (by decide)]; exact z3, by rw [r6]; rfl⟩, ⟨G.1, by rw [r6, va_up_self], hl4⟩, ⟨c33.1, c33.2.1, c33.2.2.1, c33.2.2.2.1, c33.2.2.2.2, fun i hi => ?_⟩⟩
                      · exact ⟨by rw [d6, g10, upd_self]; rfl, by rw [d6, g12, upd_self, upd_self], by rw [d6, g11, z1]; rfl, by rw [d6, w3.2.1 18 (by decide) (by decide), z4]; rfl⟩
                      · rw [g15, z5 i hi]
                        exact ⟨by rw [show D3 (G2.1 + 2) = fun _ => 0 from c34], fun j hj => absurd hj (by show ¬ j < 0; omega)⟩
                    have hfr : ∀ v, 1 ≤ v → v ≤ n → ¬ R3 1 (v - 1) = some G2.1 := fun v v1 v2 e => by
                      obtain ⟨c, cc1, cc2⟩ := hS.th.1 v v1 (by omega)
                      rw [(g4.2.2 1 (by omega) (by omega)).2, cc1] at e
                      cases e
                      have := cc2.1.1.1
                      omega
                    obtain ⟨hS5, hM5⟩ := S0_link hS4 hn (by omega) hfr hth w3 g14 (fun v hv => Nat.le_trans (hN.2.2 v hv).1.le (by decide))
                    have hX5 := hS4.1
                    have d58 : D3 0 8 = nI n := by rw [hS4.2.1.1.1]; exact hn
                    have fr5 := hF.nw w3 (by omega) (by omega) g14 (by rw [g10, upd_self]; exact Or.inr rfl) (by rw [g11, z1]; exact Or.inl rfl)
                    have pi5 : Pi E F3 (n + 1) (n + 1 + 0) q := by
                      refine ⟨⟨l3, fr5, a14⟩, g14, w3.1, w3.2.1, fun v hv => ?_, by rw [g12, upd_self], fun v v1 v2 => ?_, fun v v1 v2 => by omega⟩
                      · rw [g12, g10, upd_ne _ _ (by omega), upd_ne _ _ (by omega)]
                        exact ⟨rfl, rfl⟩
                      · rw [g12, upd_ne _ _ (by omega)]
                        exact (hF.2.2.1 v (by omega) v2).2.1
                    have hl5 : ln (xdu D3 0 8 (nI (n + 1))) (xru R3 1 n (some G2.1)) G3 G.1 F3 (n + 1) := by
                      obtain ⟨y1, y2, y3, y4, y5⟩ := hl4
                      refine ⟨y1, by rw [xr_ne (xis_xia y1 (fx1 hX5) (by decide))]; exact y2, y3, ?_, ?_⟩
                      · rw [xdu_ne _ _ _ (by omega)]
                        exact y4
                      · rw [xdu_ne _ _ _ (by omega)]
                        exact y5
                    refine cd9_104 (f' := f - 1) rfl dX9_group_92 (Nat.le_of_ble_eq_true rfl) ((fx0 hX5)) (by omega) (c_addThing hX5 d58 (by omega) k6) ?_
                    refine ex_iconst (v := 0) dX9_group_95 (by decide) ?_
                    refine is6 dX9_group_96 ?_
                    rw [ep]
                    refine ex_mono (c_pool_lp (by omega) (by omega) q6 h40 q 0 G3 _ _ _ _ _ none hS5 pi5 hl5 (by omega) Sam.rf (by omega) (by omega)) ?_
                    rintro v' G' D' R' ⟨rfl, hSe, hPe, hMe⟩
                    exact ⟨rfl, hSe.sim (hPe.iv hS.I (by omega) q6 h40) hPe.1.2.1, (hM4.tr hM5).tr hMe⟩
                  · exact absurd hs40 h42
                · exact absurd hp2.2 h26
            · exact absurd (bi_0.mp h13) (by rw [tb]; decide)
        · have hs40 : ¬ E 0 14 + 1 + p ≤ 40 := by rw [esum]; exact fun z => h40 ((nI_leI (b := 40) (by omega) (by decide)).mp z)
          rw [show sGroup E a b p = (-4, E) from by unfold sGroup; rw [if_neg hna, if_neg hpn, if_pos hs40]]
          refine al0 dX9_group_0 (by first | nofun | exact xrv_ne _) ?_
          refine il1 dX9_group_1 ?_
          refine cd9_84 (f' := f - 1) rfl dX9_group_2 (Nat.le_of_ble_eq_true rfl) (fx0 hS.X) (by omega) (c_noc (by omega) hS) ?_
          refine ex_if_eq 16 dX9_group_5 (by decide) (fun h5 => ?_) (fun h5 => ?_)
          · exact absurd (bi_0.mp h5) (by rw [ta]; decide)
          · simp only [bi_0, Bool.not_eq_false] at h5
            refine al0 dX9_group_8 (by first | nofun | exact xrv_ne _) ?_
            refine il2 dX9_group_9 ?_
            refine cd9_84 (f' := f - 1) rfl dX9_group_10 (Nat.le_of_ble_eq_true rfl) (fx0 hS.X) (by omega) (c_noc (by omega) hS) ?_
            refine ex_if_ne 19 dX9_group_13 (by decide) (fun h13 => ?_) (fun h13 => ?_)
            · simp only [bi_0, Bool.not_eq_false] at h13
              refine il3 dX9_group_19 ?_
              refine ex_if_lt 29 dX9_group_20 (by decide) (fun h20 => ?_) (fun h20 => ?_)
              · exact absurd hp2.1 h20
              · refine il3 dX9_group_23 ?_
                refine ex_bipush (v := 6) dX9_group_24 (by decide) ?_
                refine ex_icmp_le 32 dX9_group_26 (by decide) (fun h26 => ?_) (fun h26 => ?_)
                · refine al0 dX9_group_32 (by first | nofun | exact xrv_ne _) ?_
                  refine gf9_88 rfl dX9_group_33 (fx0 hS.X) ?_
                  refine ex_iconst (v := 1) dX9_group_36 (by decide) ?_
                  refine ex_iadd dX9_group_37 ?_
                  refine il3 dX9_group_38 ?_
                  refine ex_iadd dX9_group_39 ?_
                  refine ex_bipush (v := 40) dX9_group_40 (by decide) ?_
                  rw [hS.A.1]
                  refine ex_icmp_le 48 dX9_group_42 (by decide) (fun h42 => ?_) (fun h42 => ?_)
                  · exact absurd h42 hs40
                  · refine ex_bipush (v := (-4)) dX9_group_45 (by decide) ?_
                    refine ex_iret dX9_group_47 rfl ?_
                    exact ⟨rfl, hS, Sam.rf⟩
                · exact absurd hp2.2 h26
            · exact absurd (bi_0.mp h13) (by rw [tb]; decide)
      · rw [show sGroup E a b p = (-3, E) from by unfold sGroup; rw [if_neg hna, if_pos (nb hp)]]
        refine al0 dX9_group_0 (by first | nofun | exact xrv_ne _) ?_
        refine il1 dX9_group_1 ?_
        refine cd9_84 (f' := f - 1) rfl dX9_group_2 (Nat.le_of_ble_eq_true rfl) (fx0 hS.X) (by omega) (c_noc (by omega) hS) ?_
        refine ex_if_eq 16 dX9_group_5 (by decide) (fun h5 => ?_) (fun h5 => ?_)
        · exact absurd (bi_0.mp h5) (by rw [ta]; decide)
        · simp only [bi_0, Bool.not_eq_false] at h5
          refine al0 dX9_group_8 (by first | nofun | exact xrv_ne _) ?_
          refine il2 dX9_group_9 ?_
          refine cd9_84 (f' := f - 1) rfl dX9_group_10 (Nat.le_of_ble_eq_true rfl) (fx0 hS.X) (by omega) (c_noc (by omega) hS) ?_
          refine ex_if_ne 19 dX9_group_13 (by decide) (fun h13 => ?_) (fun h13 => ?_)
          · simp only [bi_0, Bool.not_eq_false] at h13
            refine il3 dX9_group_19 ?_
            refine ex_if_lt 29 dX9_group_20 (by decide) (fun h20 => ?_) (fun h20 => ?_)
            · refine ex_bipush (v := (-3)) dX9_group_29 (by decide) ?_
              refine ex_iret dX9_group_31 rfl ?_
              exact ⟨rfl, hS, Sam.rf⟩
            · refine il3 dX9_group_23 ?_
              refine ex_bipush (v := 6) dX9_group_24 (by decide) ?_
              refine ex_icmp_le 32 dX9_group_26 (by decide) (fun h26 => ?_) (fun h26 => ?_)
              · exact absurd (sIn_t.mpr ⟨h20, h26⟩) hp
              · refine ex_bipush (v := (-3)) dX9_group_29 (by decide) ?_
                refine ex_iret dX9_group_31 rfl ?_
                exact ⟨rfl, hS, Sam.rf⟩
          · exact absurd (bi_0.mp h13) (by rw [tb]; decide)
    · obtain ⟨tb, nb1, nb2⟩ := noc_f hb
      rw [show sGroup E a b p = (-2, E) from by unfold sGroup; rw [if_pos (Or.inr ⟨nb1, nb2⟩)]]
      refine al0 dX9_group_0 (by first | nofun | exact xrv_ne _) ?_
      refine il1 dX9_group_1 ?_
      refine cd9_84 (f' := f - 1) rfl dX9_group_2 (Nat.le_of_ble_eq_true rfl) (fx0 hS.X) (by omega) (c_noc (by omega) hS) ?_
      refine ex_if_eq 16 dX9_group_5 (by decide) (fun h5 => ?_) (fun h5 => ?_)
      · exact absurd (bi_0.mp h5) (by rw [ta]; decide)
      · simp only [bi_0, Bool.not_eq_false] at h5
        refine al0 dX9_group_8 (by first | nofun | exact xrv_ne _) ?_
        refine il2 dX9_group_9 ?_
        refine cd9_84 (f' := f - 1) rfl dX9_group_10 (Nat.le_of_ble_eq_true rfl) (fx0 hS.X) (by omega) (c_noc (by omega) hS) ?_
        refine ex_if_ne 19 dX9_group_13 (by decide) (fun h13 => ?_) (fun h13 => ?_)
        · exact absurd (bi_0.mpr tb) h13
        · simp only [bi_0, Bool.not_eq_false] at h13
          refine ex_bipush (v := (-2)) dX9_group_16 (by decide) ?_
          refine ex_iret dX9_group_18 rfl ?_
          exact ⟨rfl, hS, Sam.rf⟩
  · obtain ⟨ta, na1, na2⟩ := noc_f ha
    rw [show sGroup E a b p = (-2, E) from by unfold sGroup; rw [if_pos (Or.inl ⟨na1, na2⟩)]]
    refine al0 dX9_group_0 (by first | nofun | exact xrv_ne _) ?_
    refine il1 dX9_group_1 ?_
    refine cd9_84 (f' := f - 1) rfl dX9_group_2 (Nat.le_of_ble_eq_true rfl) (fx0 hS.X) (by omega) (c_noc (by omega) hS) ?_
    refine ex_if_eq 16 dX9_group_5 (by decide) (fun h5 => ?_) (fun h5 => ?_)
    · simp only [bi_0, Bool.not_eq_false] at h5
      refine ex_bipush (v := (-2)) dX9_group_16 (by decide) ?_
      refine ex_iret dX9_group_18 rfl ?_
      exact ⟨rfl, hS, Sam.rf⟩
    · exact absurd (bi_0.mpr ta) h5
