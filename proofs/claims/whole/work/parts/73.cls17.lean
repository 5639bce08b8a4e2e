/-! ===== what is built, without new cells ===== -/
theorem vp_upd {f : Nat → Int32} {N M k : Nat} {x : Int32} (h : ∀ t, t < N → vp_in (f t) M) (hx : vp_in x M) : ∀ t, t < N → vp_in (upd f k x t) M := fun t ht => by
  unfold upd
  split
  · exact hx
  · exact h t ht
theorem Iv_b {E E' : xD} (h : Iv E) (hf : vp_in (E' 0 1) 21 ∧ vp_in (E' 0 3) 21 ∧ vp_in (E' 0 6) 21 ∧ vp_in (E' 0 11) 11 ∧ vp_in (E' 0 27) 31 ∧ vp_in (E' 0 29) 401 ∧ vp_in (E' 0 41) 201) (e014 : E' 0 14 = E 0 14) (h2 : ∀ t, t < 20 → vp_in (E' 2 t) 21) (h4 : ∀ t, t < 20 → vp_in (E' 4 t) 9) (h8 : ∀ t, t < 10 → vp_in (E' 8 t) 11) (h5 : ∀ t, t < 160 → vp_in (E' 5 t) 15) (h15 : ∀ t, t < 492 → vp_in (E' 15 t) 5) (h17 : ∀ t, t < 41 → E' 17 t = 0 ∨ (101 ≤ E' 17 t ∧ E' 17 t ≤ 100 + E' 0 3)) (e10 : E' 10 = E 10) (e12 : E' 12 = E 12) (e13 : E' 13 = E 13) (e14 : E' 14 = E 14) (e19 : E' 19 = E 19) (e20 : E' 20 = E 20) (e21 : E' 21 = E 21) : Iv E' := by
  obtain ⟨hB, hN, hF, hP⟩ := h
  refine ⟨⟨⟨hf.1, hf.2.1, hf.2.2.1, hf.2.2.2.1, by rw [e014]; exact hB.n14, hf.2.2.2.2.1, hf.2.2.2.2.2.1, hf.2.2.2.2.2.2⟩, h2, h4, h8, ?_, ?_, h15, ?_, ?_, h17, h5⟩, hN.same e014 e10 e13 e14 h15, hF.same e19 e20 e21, ?_⟩
  · rw [e13]; exact fun t ht => hB.a13 ht
  · rw [e14]; exact fun t ht => hB.a14 ht
  · rw [e19, e20, e21]; exact fun t ht => ⟨hB.a19 ht, hB.a20 ht, hB.a21 ht⟩
  · rw [e12, e014]; exact fun t ht h0 => hB.a12 ht h0
  · unfold PL
    rw [e10, e12]
    exact hP
theorem Fsh_f {E E' : xD} (h : Fsh E) (h0 : E' 0 6 = E 0 6 ∧ E' 0 11 = E 0 11 ∧ E' 0 14 = E 0 14 ∧ E' 0 42 = E 0 42 ∧ E' 0 0 = E 0 0) (h4 : E' 4 = E 4) (h9 : E' 9 = E 9) (h10 : E' 10 = E 10) (h11 : E' 11 = E 11) (h12 : E' 12 = E 12) (h15 : E' 15 = E 15) (h17 : E' 17 = E 17) (h18 : E' 18 = E 18) : Fsh E' := by
  unfold Fsh at h ⊢
  rw [h0.1, h0.2.1, h0.2.2.1, h0.2.2.2.1, h0.2.2.2.2, h4, h9, h10, h11, h12, h15, h17, h18]
  exact h
def Sa (D : xD) (v : Option Value) (E' : xD) : Option Value → xG → xD → xR → Prop := fun v' G' D' R' => v' = v ∧ Sim D' R' G' E' ∧ Sam D D'
theorem Sim_letter {D : xD} {R : xR} {G : xG} {E : xD} {d : Nat} {c : Int32} (h : Sim D R G E) (hd : R 0 7 = some d) (hc : 32 ≤ c ∧ c ≤ 126) (h20 : ¬ 20 ≤ E 0 1) : Sim (xdu (xdu D (d + 1) (ix (E 0 1)) c) d 1 (E 0 1 + 1)) R G (xdu (xdu E 1 (ix (E 0 1)) c) 0 1 (E 0 1 + 1)) ∧ Sam D (xdu (xdu D (d + 1) (ix (E 0 1)) c) d 1 (E 0 1 + 1)) := by
  obtain ⟨d', d1, d2, d3⟩ := h.dr
  rw [hd] at d1
  cases d1
  have hn := h.B.n1
  have hlt := vi_lt hn (B := 20) (by decide) h20
  have es := vi_s hn (by decide)
  have el := (vi_n hlt (by decide)).2
  have e0 : ∀ k, k ≠ 1 → xdu (xdu E 1 (ix (E 0 1)) c) 0 1 (E 0 1 + 1) 0 k = E 0 k := fun k hk => by rw [xdu_self, upd_ne _ _ hk, xdu_ne _ _ _ (by decide)]
  have ej : ∀ j, j ≠ 0 → j ≠ 1 → xdu (xdu E 1 (ix (E 0 1)) c) 0 1 (E 0 1 + 1) j = E j := fun j a b => by rw [xdu_ne _ _ _ a, xdu_ne _ _ _ b]
  have kk : ∀ p, p ≠ d → p ≠ d + 1 → Kc D (xdu (xdu D (d + 1) (ix (E 0 1)) c) d 1 (E 0 1 + 1)) R R G G p := fun p a b => ⟨id, rfl, by rw [xdu_ne _ _ _ a, xdu_ne _ _ _ b], rfl⟩
  have ki : ∀ p c', c' < 16 → c' ≠ 5 → xis G p c' → Kc D (xdu (xdu D (d + 1) (ix (E 0 1)) c) d 1 (E 0 1 + 1)) R R G G p := fun p c' a b hp => kk p (xis_ne hp d2.1 b) (xis_xia hp d2.2.2.1 a)
  have ka : ∀ p t n, (t ≠ 1 ∨ n ≠ 20) → xia G p t n → Kc D (xdu (xdu D (d + 1) (ix (E 0 1)) c) d 1 (E 0 1 + 1)) R R G G p := fun p t n b hp => kk p (Ne.symm (xis_xia d2.1 hp (by decide))) (xia_ne hp d2.2.2.1 b)
  have hfx : ∀ p, p < 47 → p ≠ 11 → p ≠ 12 → p ≠ d ∧ p ≠ d + 1 := fun p hp a b => ⟨fun q => by
      subst q
      exact (show ∀ p, p < 47 → (p = 11 ∨ fxK p ≠ (5, 0)) by decide) p hp |>.elim a (fun z => z ((h.X.2.1 p hp).symm.trans d2.1.2)), fun q => by
      subst q
      exact (show ∀ p, p < 47 → (p = 12 ∨ fxK p ≠ (17, 20)) by decide) (d + 1) hp |>.elim b (fun z => z ((h.X.2.1 (d + 1) hp).symm.trans d2.2.2.1.2))⟩
  obtain ⟨f1, f2, f3, f4⟩ := cFix_k (D' := xdu (xdu D (d + 1) (ix (E 0 1)) c) d 1 (E 0 1 + 1)) (E' := xdu (xdu E 1 (ix (E 0 1)) c) 0 1 (E 0 1 + 1)) h.A h.fl h.ou h.tr (fun p q _ a b => by rw [xdu_ne _ _ _ (hfx p (by omega) a b).1, xdu_ne _ _ _ (hfx p (by omega) a b).2]) (fun k _ => by rw [xdu_ne _ _ _ (hfx 0 (by decide) (by decide) (by decide)).1, xdu_ne _ _ _ (hfx 0 (by decide) (by decide) (by decide)).2]) (fun k hk => e0 k (by omega)) (fun j a b => ej j (by omega) (by omega))
  refine ⟨⟨h.X, (h.I.free (by decide)).n1 (by rw [es]; exact vi_of (by omega) (by decide)), Fsh_f h.F ⟨e0 6 (by decide), e0 11 (by decide), e0 14 (by decide), e0 42 (by decide), e0 0 (by decide)⟩ (ej 4 (by decide) (by decide)) (ej 9 (by decide) (by decide)) (ej 10 (by decide) (by decide)) (ej 11 (by decide) (by decide)) (ej 12 (by decide) (by decide)) (ej 15 (by decide) (by decide)) (ej 17 (by decide) (by decide)) (ej 18 (by decide) (by decide)), f1, f2, f3, f4, ?_, ?_, ?_, ?_, ?_⟩, fun q a b => by rw [xdu_ne _ _ _ (hfx q b (by omega) (by omega)).1, xdu_ne _ _ _ (hfx q b (by omega) (by omega)).2]⟩
  · refine ⟨d, hd, ?_, d3⟩
    obtain ⟨g1, g2, g3, g4, g5, g6⟩ := d2
    refine ⟨g1, g2, g3, ?_, ?_, fun k hk => ?_⟩
    · rw [xdu_self, upd_self, xdu_self, upd_self]
    · rw [xdu_self, upd_self, es]
      exact vi_of (by omega) (by decide)
    · rw [xdu_self, upd_self, es, ix_nI (by omega)] at hk
      rw [xdu_ne _ _ _ (by omega), xdu_self, xdu_ne _ _ _ (by decide), xdu_self]
      by_cases z : k = ix (E 0 1)
      · subst z
        rw [upd_self, upd_self]
        exact ⟨rfl, hc⟩
      · rw [upd_ne _ _ z, upd_ne _ _ z]
        exact g6 k (by omega)
  · exact cTx_k h.tx (fun p t ht hp a b => by
      have l20 := (vi_n h.B.n3 (by decide)).2
      have hpd : p ≠ d := fun q => d3 t (by omega) (by rw [hp, q])
      exact ⟨kk p hpd (xis_xia a d2.2.2.1 (by decide)), kk _ (Ne.symm (xis_xia d2.1 b (by decide))) (by omega)⟩) (e0 3 (by decide)) (ej 2 (by decide) (by decide)) (ej 3 (by decide) (by decide)) rfl
  · exact cRo_k h.ro (fun p q => ki _ _ (by decide) (by decide) q) (fun p q => ka _ _ _ (by omega) q) (e0 6 (by decide)) (ej 4 (by decide) (by decide)) (ej 5 (by decide) (by decide)) (ej 6 (by decide) (by decide)) (ej 7 (by decide) (by decide)) rfl
  · exact cAr_k h.ar (fun p q => ki _ _ (by decide) (by decide) q) (fun p q _ => ka _ _ _ (by omega) q) h.X (e0 11 (by decide)) (ej 8 (by decide) (by decide)) (ej 9 (by decide) (by decide)) rfl
  · exact cTh_k h.th (fun p q => ki _ _ (by decide) (by decide) q) (fun p q => ki _ _ (by decide) (by decide) q) (fun p q => ki _ _ (by decide) (by decide) q) (fun p q _ => ka _ _ _ (by omega) q) (fun p q => ka _ _ _ (by omega) q) (fun p q => ka _ _ _ (by omega) q) h.X (e0 14 (by decide)) (fun j a b => ej j (by omega) (by omega)) rfl (fun _ _ _ _ => rfl)
set_option maxRecDepth 20000 in
set_option maxHeartbeats 1000000 in
theorem c_letter {Γ : xGm} {l : Launch} {f : Nat} {G : xG} {D E : xD} {R : xR} (hf : 1 ≤ f) (hS : Sim D R G E) {c : Int32} : Cn Γ l f MX9_letter [.ref 0, .int c] G D R 0 0 (Sq G R D (some (.int (sLetter E c).1)) (sLetter E c).2) := by
  refine cn_of MX9_letter_ok (Nat.le_of_ble_eq_true rfl) ?_
  show Ex Γ l f MX9_letter 0 [some (.ref 0), some (.int c)] [] G D R 0 0 _
  obtain ⟨d, hd0, hdt, -⟩ := hS.dr
  have hd1 : D d 1 = E 0 1 := hdt.2.2.2.1
  by_cases hi : sIn c 32 126 = true
  · have hc := sIn_t.mp hi
    by_cases h20 : E 0 1 = 20
    · rw [show sLetter E c = (-4, E) from by unfold sLetter; rw [if_neg (by rw [hi]; decide), if_pos h20]]
      refine il1 dX9_letter_0 ?_
      refine ex_bipush (v := 32) dX9_letter_1 (by decide) ?_
      refine ex_icmp_lt 12 dX9_letter_3 (by decide) (fun h3 => ?_) (fun h3 => ?_)
      · exact absurd hc.1 h3
      · refine il1 dX9_letter_6 ?_
        refine ex_bipush (v := 126) dX9_letter_7 (by decide) ?_
        refine ex_icmp_le 15 dX9_letter_9 (by decide) (fun h9 => ?_) (fun h9 => ?_)
        · refine al0 dX9_letter_15 (by first | nofun | exact xrv_ne _) ?_
          refine gf9_48 rfl dX9_letter_16 (hd0) (fx0 hS.X) ?_
          refine gf9_61 rfl dX9_letter_19 hdt.1 ?_
          rw [hd1]
          refine ex_bipush (v := 20) dX9_letter_22 (by decide) ?_
          refine ex_icmp_lt 30 dX9_letter_24 (by decide) (fun h24 => ?_) (fun h24 => ?_)
          · exact absurd (by rw [h20]; decide) h24
          · refine ex_bipush (v := (-4)) dX9_letter_27 (by decide) ?_
            refine ex_iret dX9_letter_29 rfl ?_
            exact ⟨rfl, rfl, rfl, hS, Sam.rf⟩
        · exact absurd hc.2 h9
    · have hl : ¬ 20 ≤ E 0 1 := vi_not (n := 20) (vi_ne hS.B.n1 (by decide) h20) (by decide)
      obtain ⟨hS1, hM1⟩ := Sim_letter hS hd0 hc hl
      rw [show sLetter E c = (E 0 1 + 1, xdu (xdu E 1 (ix (E 0 1)) c) 0 1 (E 0 1 + 1)) from by unfold sLetter; rw [if_neg (by rw [hi]; decide), if_neg h20]]
      refine il1 dX9_letter_0 ?_
      refine ex_bipush (v := 32) dX9_letter_1 (by decide) ?_
      refine ex_icmp_lt 12 dX9_letter_3 (by decide) (fun h3 => ?_) (fun h3 => ?_)
      · exact absurd hc.1 h3
      · refine il1 dX9_letter_6 ?_
        refine ex_bipush (v := 126) dX9_letter_7 (by decide) ?_
        refine ex_icmp_le 15 dX9_letter_9 (by decide) (fun h9 => ?_) (fun h9 => ?_)
        · refine al0 dX9_letter_15 (by first | nofun | exact xrv_ne _) ?_
          refine gf9_48 rfl dX9_letter_16 (hd0) (fx0 hS.X) ?_
          refine gf9_61 rfl dX9_letter_19 hdt.1 ?_
          rw [hd1]
          refine ex_bipush (v := 20) dX9_letter_22 (by decide) ?_
          refine ex_icmp_lt 30 dX9_letter_24 (by decide) (fun h24 => ?_) (fun h24 => ?_)
          · refine al0 dX9_letter_30 (by first | nofun | exact xrv_ne _) ?_
            refine gf9_48 rfl dX9_letter_31 (hd0) (fx0 hS.X) ?_
            refine il1 dX9_letter_34 ?_
            refine ex_i2b dX9_letter_35 ?_
            rw [chr_b (chr_32 hc)]
            refine cd9_65 (f' := f - 1) rfl dX9_letter_36 (Nat.le_of_ble_eq_true rfl) hdt.1 (by omega) (c_tadd hdt (chr_32 hc) hl) ?_
            refine al0 dX9_letter_39 (by first | nofun | exact xrv_ne _) ?_
            refine gf9_48 rfl dX9_letter_40 (hd0) (fx0 hS.X) ?_
            refine gf9_61 rfl dX9_letter_43 hdt.1 ?_
            refine ex_iret dX9_letter_46 rfl ?_
            refine ⟨?_, rfl, rfl, hS1, hM1⟩
            rw [xdu_self, upd_self]
          · exact absurd h24 hl
        · exact absurd hc.2 h9
  · rw [show sLetter E c = (-3, E) from by unfold sLetter; rw [if_pos (nb hi)]]
    refine il1 dX9_letter_0 ?_
    refine ex_bipush (v := 32) dX9_letter_1 (by decide) ?_
    refine ex_icmp_lt 12 dX9_letter_3 (by decide) (fun h3 => ?_) (fun h3 => ?_)
    · refine ex_bipush (v := (-3)) dX9_letter_12 (by decide) ?_
      refine ex_iret dX9_letter_14 rfl ?_
      exact ⟨rfl, rfl, rfl, hS, Sam.rf⟩
    · refine il1 dX9_letter_6 ?_
      refine ex_bipush (v := 126) dX9_letter_7 (by decide) ?_
      refine ex_icmp_le 15 dX9_letter_9 (by decide) (fun h9 => ?_) (fun h9 => ?_)
      · exact absurd (sIn_t.mpr ⟨h3, h9⟩) hi
      · refine ex_bipush (v := (-3)) dX9_letter_12 (by decide) ?_
        refine ex_iret dX9_letter_14 rfl ?_
        exact ⟨rfl, rfl, rfl, hS, Sam.rf⟩
theorem Sim_actR {D : xD} {R : xR} {G : xG} {E : xD} {r b : Nat} {w x y : Int32} (h : Sim D R G E) (hr : r < ix (E 0 6)) (hb : R 3 r = some b) (hro : ro D R G b E r) (hw : vp_in w 15) (h8 : ¬ 8 ≤ E 4 r) : Sim (xdu (xdu (xdu (xdu D (b + 1) (ix (E 4 r)) w) (b + 2) (ix (E 4 r)) x) (b + 3) (ix (E 4 r)) y) b 3 (E 4 r + 1)) R G (xdu (xdu (xdu (xdu E 5 (8 * r + ix (E 4 r)) w) 6 (8 * r + ix (E 4 r)) x) 7 (8 * r + ix (E 4 r)) y) 4 r (E 4 r + 1)) ∧ Sam D (xdu (xdu (xdu (xdu D (b + 1) (ix (E 4 r)) w) (b + 2) (ix (E 4 r)) x) (b + 3) (ix (E 4 r)) y) b 3 (E 4 r + 1)) := by
  have l6 := (vi_n h.B.n6 (by decide)).2
  have hn := h.B.a4 (show r < 20 by omega)
  have hlt := vi_lt hn (B := 8) (by decide) h8
  have es := vi_s hn (by decide)
  have el := (vi_n hlt (by decide)).2
  generalize hm : ix (E 4 r) = m at *
  have ej : ∀ j, j ≠ 4 → j ≠ 5 → j ≠ 6 → j ≠ 7 → xdu (xdu (xdu (xdu E 5 (8 * r + m) w) 6 (8 * r + m) x) 7 (8 * r + m) y) 4 r (E 4 r + 1) j = E j := fun j a b c d => by rw [xdu_ne _ _ _ a, xdu_ne _ _ _ d, xdu_ne _ _ _ c, xdu_ne _ _ _ b]
  have e4 : xdu (xdu (xdu (xdu E 5 (8 * r + m) w) 6 (8 * r + m) x) 7 (8 * r + m) y) 4 r (E 4 r + 1) 4 = upd (E 4) r (E 4 r + 1) := by rw [xdu_self, xdu_ne _ _ _ (by decide), xdu_ne _ _ _ (by decide), xdu_ne _ _ _ (by decide)]
  have e5 : xdu (xdu (xdu (xdu E 5 (8 * r + m) w) 6 (8 * r + m) x) 7 (8 * r + m) y) 4 r (E 4 r + 1) 5 = upd (E 5) (8 * r + m) w := by rw [xdu_ne _ _ _ (by decide), xdu_ne _ _ _ (by decide), xdu_ne _ _ _ (by decide), xdu_self]
  have e6 : xdu (xdu (xdu (xdu E 5 (8 * r + m) w) 6 (8 * r + m) x) 7 (8 * r + m) y) 4 r (E 4 r + 1) 6 = upd (E 6) (8 * r + m) x := by rw [xdu_ne _ _ _ (by decide), xdu_ne _ _ _ (by decide), xdu_self, xdu_ne _ _ _ (by decide)]
  have e7 : xdu (xdu (xdu (xdu E 5 (8 * r + m) w) 6 (8 * r + m) x) 7 (8 * r + m) y) 4 r (E 4 r + 1) 7 = upd (E 7) (8 * r + m) y := by rw [xdu_ne _ _ _ (by decide), xdu_self, xdu_ne _ _ _ (by decide), xdu_ne _ _ _ (by decide)]
  obtain ⟨g1, g2, g3, g4, g5⟩ := hro
  rw [hm] at g5
  have kk : ∀ p, p ≠ b → p ≠ b + 1 → p ≠ b + 2 → p ≠ b + 3 → Kc D (xdu (xdu (xdu (xdu D (b + 1) m w) (b + 2) m x) (b + 3) m y) b 3 (E 4 r + 1)) R R G G p := fun p a c d e => ⟨id, rfl, by rw [xdu_ne _ _ _ a, xdu_ne _ _ _ e, xdu_ne _ _ _ d, xdu_ne _ _ _ c], rfl⟩
  have ki : ∀ p c', c' < 16 → c' ≠ 3 → xis G p c' → Kc D (xdu (xdu (xdu (xdu D (b + 1) m w) (b + 2) m x) (b + 3) m y) b 3 (E 4 r + 1)) R R G G p := fun p c' a c hp => kk p (xis_ne hp g1 c) (xis_xia hp g3.1 a) (xis_xia hp g3.2.1 a) (xis_xia hp g3.2.2 a)
  have ka : ∀ p t n, (t ≠ 0 ∨ n ≠ 8) → xia G p t n → Kc D (xdu (xdu (xdu (xdu D (b + 1) m w) (b + 2) m x) (b + 3) m y) b 3 (E 4 r + 1)) R R G G p := fun p t n c hp => kk p (Ne.symm (xis_xia g1 hp (by decide))) (xia_ne hp g3.1 c) (xia_ne hp g3.2.1 c) (xia_ne hp g3.2.2 c)
  have hb47 : 47 ≤ b := by
    by_cases q : b < 47
    · exact absurd ((h.X.2.1 b q).symm.trans g1.2) ((show ∀ p, p < 47 → fxK p ≠ (3, 0) by decide) b q)
    · omega
  have hfx : ∀ p, p < 47 → (xdu (xdu (xdu (xdu D (b + 1) m w) (b + 2) m x) (b + 3) m y) b 3 (E 4 r + 1)) p = D p := fun p hp => (kk p (by omega) (by omega) (by omega) (by omega)).2.2.1
  have e0 := ej 0 (by decide) (by decide) (by decide) (by decide)
  obtain ⟨f1, f2, f3, f4⟩ := cFix_k (D' := xdu (xdu (xdu (xdu D (b + 1) m w) (b + 2) m x) (b + 3) m y) b 3 (E 4 r + 1)) (E' := xdu (xdu (xdu (xdu E 5 (8 * r + m) w) 6 (8 * r + m) x) 7 (8 * r + m) y) 4 r (E 4 r + 1)) h.A h.fl h.ou h.tr (fun p q _ _ _ => hfx p (by omega)) (fun k _ => by rw [hfx 0 (by decide)]) (fun k _ => by rw [e0]) (fun j a c => ej j (by omega) (by omega) (by omega) (by omega))
  refine ⟨⟨h.X, ?_, ?_, f1, f2, f3, f4, ?_, ?_, ?_, ?_, ?_⟩, fun q _ c => hfx q c⟩
  · refine Iv_b h.I (by rw [e0]; exact ⟨h.B.n1, h.B.n3, h.B.n6, h.B.n11, h.B.n27, h.B.n29, h.B.n41⟩) (by rw [e0]) (by rw [ej 2 (by decide) (by decide) (by decide) (by decide)]; exact fun t ht => h.B.a2 ht) ?_ (by rw [ej 8 (by decide) (by decide) (by decide) (by decide)]; exact fun t ht => h.B.a8 ht) ?_ (by rw [ej 15 (by decide) (by decide) (by decide) (by decide)]; exact fun t ht => h.B.a15 ht) (by rw [ej 17 (by decide) (by decide) (by decide) (by decide), e0]; exact fun t ht => h.B.a17 ht) (ej 10 (by decide) (by decide) (by decide) (by decide)) (ej 12 (by decide) (by decide) (by decide) (by decide)) (ej 13 (by decide) (by decide) (by decide) (by decide)) (ej 14 (by decide) (by decide) (by decide) (by decide)) (ej 19 (by decide) (by decide) (by decide) (by decide)) (ej 20 (by decide) (by decide) (by decide) (by decide)) (ej 21 (by decide) (by decide) (by decide) (by decide))
    · rw [e4]
      exact vp_upd (fun t ht => h.B.a4 ht) (by rw [es]; exact vi_of (by omega) (by decide))
    · rw [e5]
      exact vp_upd (fun t ht => h.B.a5 ht) hw
  · have z := h.F
    unfold Fsh at z ⊢
    rw [e0, e4, ej 9 (by decide) (by decide) (by decide) (by decide), ej 10 (by decide) (by decide) (by decide) (by decide), ej 11 (by decide) (by decide) (by decide) (by decide), ej 12 (by decide) (by decide) (by decide) (by decide), ej 15 (by decide) (by decide) (by decide) (by decide), ej 17 (by decide) (by decide) (by decide) (by decide), ej 18 (by decide) (by decide) (by decide) (by decide)]
    exact ⟨fun t a c => by rw [upd_ne _ _ (by omega)]; exact z.1 t a c, z.2⟩
  · exact cDr_k h.dr (fun p _ q s => ⟨ki _ _ (by decide) (by decide) q, ka _ _ _ (by omega) s⟩) (by rw [e0]) (ej 1 (by decide) (by decide) (by decide) (by decide)) rfl rfl
  · exact cTx_k h.tx (fun p t _ _ q s => ⟨ki _ _ (by decide) (by decide) q, ka _ _ _ (by omega) s⟩) (by rw [e0]) (ej 2 (by decide) (by decide) (by decide) (by decide)) (ej 3 (by decide) (by decide) (by decide) (by decide)) rfl
  · obtain ⟨t1, t2⟩ := h.ro
    rw [cRo, e0]
    refine ⟨fun t ht => ?_, t2⟩
    obtain ⟨c, c1, c2⟩ := t1 t ht
    refine ⟨c, c1, ?_⟩
    by_cases e : t = r
    · subst e
      rw [hb] at c1
      cases c1
      refine ⟨g1, g2, g3, ?_, fun k hk => ?_⟩
      · rw [xdu_self, upd_self, e4, upd_self]
      · rw [e4, upd_self, es, ix_nI (by omega)] at hk
        rw [xdu_ne _ _ _ (show b + 1 ≠ b by omega), xdu_ne _ _ _ (show b + 2 ≠ b by omega), xdu_ne _ _ _ (show b + 3 ≠ b by omega), xdu_ne _ _ _ (show b + 1 ≠ b + 3 by omega), xdu_ne _ _ _ (show b + 2 ≠ b + 3 by omega), xdu_ne _ _ _ (show b + 1 ≠ b + 2 by omega), xdu_self, xdu_self, xdu_self, xdu_ne _ _ _ (show b + 2 ≠ b + 1 by omega), xdu_ne _ _ _ (show b + 3 ≠ b + 2 by omega), xdu_ne _ _ _ (show b + 3 ≠ b + 1 by omega), e5, e6, e7]
        by_cases z : k = m
        · subst z
          rw [upd_self, upd_self, upd_self, upd_self, upd_self, upd_self]
          exact ⟨rfl, rfl, rfl⟩
        · rw [upd_ne _ _ z, upd_ne _ _ z, upd_ne _ _ z, upd_ne _ _ (by omega), upd_ne _ _ (by omega), upd_ne _ _ (by omega)]
          exact g5 k (by omega)
    · have cb : c ≠ b := fun q => e (t2 t r c ht hr c1 (by rw [q]; exact hb))
      have q1 := xis_xia c2.1 g3.1 (by decide)
      have q2 := xis_xia c2.1 g3.2.1 (by decide)
      have q3 := xis_xia c2.1 g3.2.2 (by decide)
      have s1 := xis_xia g1 c2.2.2.1.1 (by decide)
      have s2 := xis_xia g1 c2.2.2.1.2.1 (by decide)
      have s3 := xis_xia g1 c2.2.2.1.2.2 (by decide)
      have l4 := (vi_n (h.B.a4 (show t < 20 by omega)) (by decide)).2
      refine ro_k c2 (kk _ cb q1 q2 q3) (kk _ (by omega) (by omega) (by omega) (by omega)) (kk _ (by omega) (by omega) (by omega) (by omega)) (kk _ (by omega) (by omega) (by omega) (by omega)) (by rw [e4, upd_ne _ _ e]) (fun k hk => ?_)
      rw [e5, e6, e7, upd_ne _ _ (by omega), upd_ne _ _ (by omega), upd_ne _ _ (by omega)]
      exact ⟨rfl, rfl, rfl⟩
  · exact cAr_k h.ar (fun p q => ki _ _ (by decide) (by decide) q) (fun p q _ => ka _ _ _ (by omega) q) h.X (by rw [e0]) (ej 8 (by decide) (by decide) (by decide) (by decide)) (ej 9 (by decide) (by decide) (by decide) (by decide)) rfl
  · exact cTh_k h.th (fun p q => ki _ _ (by decide) (by decide) q) (fun p q => ki _ _ (by decide) (by decide) q) (fun p q => ki _ _ (by decide) (by decide) q) (fun p q _ => ka _ _ _ (by omega) q) (fun p q => ka _ _ _ (by omega) q) (fun p q => ka _ _ _ (by omega) q) h.X (by rw [e0]) (fun j a c => ej j (by omega) (by omega) (by omega) (by omega)) rfl (fun _ _ _ _ => rfl)
theorem act_in {E : xD} (hB : RB E) {r : Int32} : sIn (r - 201) 0 (E 0 6 - 1) = true ↔ sIn r 201 (200 + E 0 6) = true := by
  obtain ⟨e6, l6⟩ := vi_n hB.n6 (by decide)
  rw [sIn_lt hB.n6 (by decide)]
  constructor
  · intro ⟨h1, h2⟩
    have hv := vi_btw2 hB.n6 h1 h2 (M := 20) (by decide)
    obtain ⟨e, l⟩ := vi_n hv (by decide)
    have er : r = nI (201 + ix (r - 201)) := by
      have z : nI 201 + (r - 201) = r := by rw [Int32.add_comm]; exact Int32.sub_add_cancel r 201
      rw [e, nI_add] at z
      exact z.symm
    rw [e, e6] at h2
    have h3 : ix (r - 201) < ix (E 0 6) := by
      by_cases q : ix (r - 201) < ix (E 0 6)
      · exact q
      · exact absurd (nI_le (by omega) (by omega)) h2
    rw [er, e6, show (200 : Int32) = nI 200 from rfl, nI_add]
    exact sIn_t.mpr ⟨nI_le (a := 201) (by omega) (by omega), nI_le (by omega) (by omega)⟩
  · intro h
    obtain ⟨h1, h2, h3⟩ := sIn_b (b := 200) h hB.n6 (by decide) (by decide)
    refine ⟨vi_0le h1, vi_nle hB.n6 (by decide) ?_⟩
    have hh : vp_in (r - nI (200 + 1)) (ix (E 0 6)) := by
      rw [(vi_n h1 (by decide)).1]
      exact vi_of h2 (by omega)
    exact hh
set_option maxRecDepth 20000 in
set_option maxHeartbeats 1000000 in
theorem c_act {Γ : xGm} {l : Launch} {f : Nat} {G : xG} {D E : xD} {R : xR} (hf : 1 ≤ f) (hS : Sim D R G E) {r w x y : Int32} : Cn Γ l f MX9_act [.ref 0, .int r, .int w, .int x, .int y] G D R 0 0 (Sq G R D (some (.int (sAct E r w x y).1)) (sAct E r w x y).2) := by
  refine cn_of MX9_act_ok (Nat.le_of_ble_eq_true rfl) ?_
  show Ex Γ l f MX9_act 0 [some (.ref 0), some (.int r), some (.int w), some (.int x), some (.int y), none] [] G D R 0 0 _
  by_cases hv3 : sIn r 201 (200 + E 0 6) = true
  · obtain ⟨b, hb, hro, r20, hv20⟩ := sim_ro hS hv3
    have hq := hro.1
    have hlt := (sIn_b (b := 200) hv3 hS.B.n6 (by decide) (by decide)).2.1
    have h4 := hS.B.a4 r20
    have hin := (act_in hS.B).mpr hv3
    have el : D b 3 = E 4 (ix (r - 201)) := hro.2.2.2.1
    by_cases hw : sIn w 0 14 = true
    · have hw2 := sIn_t.mp hw
      by_cases h8 : E 4 (ix (r - 201)) = 8
      · rw [show sAct E r w x y = (-4, E) from by unfold sAct; rw [if_neg (by rw [hin]; decide), if_neg (by rw [hw]; decide), if_pos h8]]
        refine al0 dX9_act_0 (by first | nofun | exact xrv_ne _) ?_
        refine il1 dX9_act_1 ?_
        refine cd9_76 (f' := f - 1) rfl dX9_act_2 (Nat.le_of_ble_eq_true rfl) (fx0 hS.X) (by omega) (c_routine_y hS.X hS.n10 (by rw [hS.A.2.2.1]; exact hv3) hb) ?_
        refine as5 dX9_act_5 (by first | nofun | exact xrv_ne _) ?_
        refine al5 dX9_act_7 (by first | nofun | exact xrv_ne _) ?_
        refine ex_ifnonnull 15 dX9_act_9 (by decide) ?_
        refine il2 dX9_act_15 ?_
        refine ex_if_lt 25 dX9_act_16 (by decide) (fun h16 => ?_) (fun h16 => ?_)
        · exact absurd hw2.1 h16
        · refine il2 dX9_act_19 ?_
          refine ex_bipush (v := 14) dX9_act_20 (by decide) ?_
          refine ex_icmp_le 28 dX9_act_22 (by decide) (fun h22 => ?_) (fun h22 => ?_)
          · refine al5 dX9_act_28 (by first | nofun | exact xrv_ne _) ?_
            refine gf9_80 rfl dX9_act_30 hq ?_
            rw [el]
            refine ex_bipush (v := 8) dX9_act_33 (by decide) ?_
            refine ex_icmp_lt 41 dX9_act_35 (by decide) (fun h35 => ?_) (fun h35 => ?_)
            · exact absurd (by rw [h8]; decide) h35
            · refine ex_bipush (v := (-4)) dX9_act_38 (by decide) ?_
              refine ex_iret dX9_act_40 rfl ?_
              exact ⟨rfl, rfl, rfl, hS, Sam.rf⟩
          · exact absurd hw2.2 h22
      · have hl : ¬ 8 ≤ E 4 (ix (r - 201)) := vi_not (n := 8) (vi_ne h4 (by decide) h8) (by decide)
        have hw15 : vp_in w 15 := vi_btw (a := 0) (x := 14) (A := 15) (vi_of (n := 14) (by decide) (by decide)) hw2.1 hw2.2 (by decide) (by decide)
        obtain ⟨hS1, hM1⟩ := Sim_actR (w := w) (x := x) (y := y) hS hlt hb hro hw15 hl
        have l4 := (vi_n (vi_lt h4 (B := 8) (by decide) hl) (by decide)).2
        have e8 : ix (8 * (r - 201) + E 4 (ix (r - 201))) = 8 * ix (r - 201) + ix (E 4 (ix (r - 201))) := (vi_ln (N := 200) 8 hv20 h4 (by decide) (by decide) (by decide) (by decide)).2
        rw [show sAct E r w x y = (E 4 (ix (r - 201)) + 1, xdu (xdu (xdu (xdu E 5 (8 * ix (r - 201) + ix (E 4 (ix (r - 201)))) w) 6 (8 * ix (r - 201) + ix (E 4 (ix (r - 201)))) x) 7 (8 * ix (r - 201) + ix (E 4 (ix (r - 201)))) y) 4 (ix (r - 201)) (E 4 (ix (r - 201)) + 1)) from by unfold sAct; rw [if_neg (by rw [hin]; decide), if_neg (by rw [hw]; decide), if_neg h8, e8]]
        refine al0 dX9_act_0 (by first | nofun | exact xrv_ne _) ?_
        refine il1 dX9_act_1 ?_
        refine cd9_76 (f' := f - 1) rfl dX9_act_2 (Nat.le_of_ble_eq_true rfl) (fx0 hS.X) (by omega) (c_routine_y hS.X hS.n10 (by rw [hS.A.2.2.1]; exact hv3) hb) ?_
        refine as5 dX9_act_5 (by first | nofun | exact xrv_ne _) ?_
        refine al5 dX9_act_7 (by first | nofun | exact xrv_ne _) ?_
        refine ex_ifnonnull 15 dX9_act_9 (by decide) ?_
        refine il2 dX9_act_15 ?_
        refine ex_if_lt 25 dX9_act_16 (by decide) (fun h16 => ?_) (fun h16 => ?_)
        · exact absurd hw2.1 h16
        · refine il2 dX9_act_19 ?_
          refine ex_bipush (v := 14) dX9_act_20 (by decide) ?_
          refine ex_icmp_le 28 dX9_act_22 (by decide) (fun h22 => ?_) (fun h22 => ?_)
          · refine al5 dX9_act_28 (by first | nofun | exact xrv_ne _) ?_
            refine gf9_80 rfl dX9_act_30 hq ?_
            rw [el]
            refine ex_bipush (v := 8) dX9_act_33 (by decide) ?_
            refine ex_icmp_lt 41 dX9_act_35 (by decide) (fun h35 => ?_) (fun h35 => ?_)
            · refine al5 dX9_act_41 (by first | nofun | exact xrv_ne _) ?_
              refine il2 dX9_act_43 ?_
              refine il3 dX9_act_44 ?_
              refine il4 dX9_act_45 ?_
              refine cd9_81 (f' := f - 1) rfl dX9_act_47 (Nat.le_of_ble_eq_true rfl) hq (by omega) (c_radd hro h4 hl) ?_
              refine al5 dX9_act_50 (by first | nofun | exact xrv_ne _) ?_
              refine gf9_80 rfl dX9_act_52 hq ?_
              refine ex_iret dX9_act_55 rfl ?_
              refine ⟨?_, rfl, rfl, hS1, hM1⟩
              rw [xdu_self, upd_self]
            · exact absurd h35 hl
          · exact absurd hw2.2 h22
    · rw [show sAct E r w x y = (-3, E) from by unfold sAct; rw [if_neg (by rw [hin]; decide), if_pos (nb hw)]]
      refine al0 dX9_act_0 (by first | nofun | exact xrv_ne _) ?_
      refine il1 dX9_act_1 ?_
      refine cd9_76 (f' := f - 1) rfl dX9_act_2 (Nat.le_of_ble_eq_true rfl) (fx0 hS.X) (by omega) (c_routine_y hS.X hS.n10 (by rw [hS.A.2.2.1]; exact hv3) hb) ?_
      refine as5 dX9_act_5 (by first | nofun | exact xrv_ne _) ?_
      refine al5 dX9_act_7 (by first | nofun | exact xrv_ne _) ?_
      refine ex_ifnonnull 15 dX9_act_9 (by decide) ?_
      refine il2 dX9_act_15 ?_
      refine ex_if_lt 25 dX9_act_16 (by decide) (fun h16 => ?_) (fun h16 => ?_)
      · refine ex_bipush (v := (-3)) dX9_act_25 (by decide) ?_
        refine ex_iret dX9_act_27 rfl ?_
        exact ⟨rfl, rfl, rfl, hS, Sam.rf⟩
      · refine il2 dX9_act_19 ?_
        refine ex_bipush (v := 14) dX9_act_20 (by decide) ?_
        refine ex_icmp_le 28 dX9_act_22 (by decide) (fun h22 => ?_) (fun h22 => ?_)
        · exact absurd (sIn_t.mpr ⟨h16, h22⟩) hw
        · refine ex_bipush (v := (-3)) dX9_act_25 (by decide) ?_
          refine ex_iret dX9_act_27 rfl ?_
          exact ⟨rfl, rfl, rfl, hS, Sam.rf⟩
  · have hv3 := nb hv3
    have hin : sIn (r - 201) 0 (E 0 6 - 1) = false := by
      cases q : sIn (r - 201) 0 (E 0 6 - 1)
      · rfl
      · rw [(act_in hS.B).mp q] at hv3
        cases hv3
    rw [show sAct E r w x y = (-2, E) from by unfold sAct; rw [if_pos hin]]
    refine al0 dX9_act_0 (by first | nofun | exact xrv_ne _) ?_
    refine il1 dX9_act_1 ?_
    refine cd9_76 (f' := f - 1) rfl dX9_act_2 (Nat.le_of_ble_eq_true rfl) (fx0 hS.X) (by omega) (c_routine_n hS.X hS.n10 (by rw [hS.A.2.2.1]; exact hv3)) ?_
    refine as5 dX9_act_5 (by first | nofun | exact xrv_ne _) ?_
    refine al5 dX9_act_7 (by first | nofun | exact xrv_ne _) ?_
    refine ex_ifnonnullN dX9_act_9 ?_
    refine ex_bipush (v := (-2)) dX9_act_12 (by decide) ?_
    refine ex_iret dX9_act_14 rfl ?_
    exact ⟨rfl, rfl, rfl, hS, Sam.rf⟩
