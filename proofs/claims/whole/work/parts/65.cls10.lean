/-! ===== rows are taken of a line ===== -/
def rl (len val : Nat → Int32) (s : Nat) : List Int32 := (List.range (ix (len s))).map (fun i => val (4 * s + i))
theorem rs_mk {len val : Nat → Int32} {s : Nat} (h : vp_in (len s) 5) : rs len val s (rl len val s) := by
  obtain ⟨e, l⟩ := vi_n h (by decide)
  refine ⟨by simp [rl]; exact e, by simp [rl]; omega, fun i hi => ?_⟩
  simp [rl] at hi
  simp [rl, List.getD_eq_getElem?_getD, hi]
/-- the classes of o's line: their numbers gs, their cells bs -/
def Src (D : xD) (R : xR) (G : xG) (E : xD) (o b : Nat) (gs bs : Nat → Nat) : Prop := ∀ j, j < ix (E 13 o) → E 14 (41 * o + j) = nI (gs j) ∧ 1 ≤ gs j ∧ gs j < 41 ∧ gs j ≠ o ∧ sIn (nI (gs j)) 1 (D 0 8) = true ∧ R 1 (gs j - 1) = some (bs j) ∧ xis G (bs j) 6 ∧ R (bs j) 3 = some (bs j + 1) ∧ rw_ D R G (bs j) E (gs j) ∧ bs j ≠ b
theorem rw_rs {D E : xD} {R : xR} {G : xG} {b v n : Nat} {l : List Int32} (h : rw_ D R G b E v) (hn : n < 12) (hl : rs (E 15) (E 16) (12 * v + n) l) : rs (D (b + 2)) (D (b + 3)) n l := by
  obtain ⟨-, -, -, -, -, r6⟩ := h
  refine ⟨(r6 n hn).1.trans hl.1, hl.2.1, fun i hi => ?_⟩
  rw [(r6 n hn).2 i (by rw [rs_len hl]; exact hi)]
  exact hl.2.2 i hi
theorem rw_of {D E : xD} {R : xR} {G : xG} {b v : Nat} (hk : rk R G (b + 1)) (h : ∀ n, n < 12 → ∃ l, rs (D (b + 2)) (D (b + 3)) n l ∧ rs (E 15) (E 16) (12 * v + n) l) : rw_ D R G b E v := by
  refine ⟨hk.1, hk.2.1, hk.2.2.1, hk.2.2.2.1, hk.2.2.2.2, fun n hn => ?_⟩
  obtain ⟨l, h1, h2⟩ := h n hn
  refine ⟨h1.1.trans h2.1.symm, fun i hi => ?_⟩
  rw [rs_len h2] at hi
  rw [h1.2.2 i hi, h2.2.2 i hi]
theorem take_rw {D E : xD} {R : xR} {G : xG} {o b : Nat} {gs bs : Nat → Nat} (hk : rk R G (b + 1)) (hs : Src D R G E o b gs bs) (ho : o < 41) (hL : Lnp E o) (h15 : ∀ t, t < 492 → vp_in (E 15 t) 5) : rw_ (cTk (xfz D (b + 2) 12) (b + 1) (fun j => bs j + 1) 0 (ix (E 13 o))) R G b (sRows E (nI o)) o ∧ ∀ t l, (t < 12 * o ∨ 12 * o + 12 ≤ t) → rs (E 15) (E 16) t l → rs (sRows E (nI o) 15) (sRows E (nI o) 16) t l := by
  have hz : ∀ j, j < ix (E 13 o) → bs j + 1 + 1 ≠ b + 1 + 1 ∧ bs j + 1 + 1 ≠ b + 1 + 2 ∧ bs j + 1 + 2 ≠ b + 1 + 1 ∧ bs j + 1 + 2 ≠ b + 1 + 2 := fun j hj => by
    obtain ⟨-, -, -, -, -, -, -, -, h9, h10⟩ := hs j hj
    exact rk_ne hk (rw_rk h9) (by omega)
  have hle := hL.le
  obtain ⟨f1, f2⟩ := sRowN_rs (o := o) (N := ix (E 13 o)) (gs := gs) (S := fun j n => rl (E 15) (E 16) (12 * gs j + n)) ho hle (lk 12) 0 E (vi_n hL.1 (by decide)).1 (fun j hj => ⟨(hs j hj).1, (hs j hj).2.2.1, (hs j hj).2.2.2.1⟩) h15 hL (fun j n hj hn => rs_mk (h15 _ (by have := (hs j hj).2.2.1; omega))) (by rw [lk_eq])
  refine ⟨rw_of hk (fun n hn => ⟨_, ?_, f1 n (Nat.zero_le _) hn⟩), fun t l ht z => f2 t l (by omega) z⟩
  refine cTk_rs (c := b + 1) (N := ix (E 13 o)) (S := fun j n => rl (E 15) (E 16) (12 * gs j + n)) hz (ix (E 13 o)) 0 (xfz D (b + 2) 12) (fun _ => []) (fun n hn => ⟨xfz_self hn, by simp, fun i hi => by simp at hi⟩) (fun j hj n hn => ?_) (by omega) n hn
  obtain ⟨-, -, g41, -, -, -, -, -, h9, -⟩ := hs j hj
  obtain ⟨y1, y2, y3, y4⟩ := hz j hj
  show rs (xfz D (b + 2) 12 (bs j + 2)) (xfz D (b + 2) 12 (bs j + 3)) n _
  rw [xfz_ne y1, xfz_ne y3]
  exact rw_rs h9 hn (rs_mk (h15 _ (by omega)))
set_option maxRecDepth 20000 in
set_option maxHeartbeats 1000000 in
theorem c_take_lp {Γ : xGm} {l : Launch} {f : Nat} {G : xG} {R : xR} (hf : 6 ≤ f) (hX : xFix G R) {o b q : Nat} {gs bs : Nat → Nat} {D E : xD} (hn : vp_in (D 0 8) 41) (hq : xis G b 6) (h3 : R b 3 = some (b + 1)) (hlq : R b 1 = some q) (hln : ln D R G q E o) (hL : Lnp E o) (ho : o < 41) (hk : rk R G (b + 1)) (hs : Src D R G E o b gs bs) (h15 : ∀ t, t < 492 → vp_in (E 15 t) 5) : ∀ (m k : Nat) (D1 : xD) (z : Option Value), (∀ p, p ≠ b + 2 → p ≠ b + 3 → D1 p = D p) → Rv D1 (b + 1) → k + m = ix (E 13 o) → Ex Γ l f MX9_takeRowsOfLine 9 [some (.ref 0), some (.ref b), some (.int (nI k)), z] [] G D1 R 0 0 (xdet none G (cTk D1 (b + 1) (fun j => bs j + 1) k m) R) := by
  have hle := hL.le
  have e := vi_n hL.1 (by decide)
  intro m
  induction m with
  | zero =>
    intro k D1 z hD hR hkm
    have hkm : k = ix (E 13 o) := by omega
    subst hkm
    have hD0 : D1 0 = D 0 := hD 0 (fx_n12 hX (by decide) hk.2.2.2.1) (fx_n48 hX (by decide) hk.2.2.2.2)
    have hln1 : ln D1 R G q E o := hln.same (hD q (xis_xia hln.1 hk.2.2.2.1 (by decide)) (xis_xia hln.1 hk.2.2.2.2 (by decide))) (hD (q + 1) (xia_ne hln.2.2.1 hk.2.2.2.1 (by omega)) (xia_ne hln.2.2.1 hk.2.2.2.2 (by omega))) rfl (fun _ _ => rfl) (by omega)
    refine il2 dX9_takeRowsOfLine_9 ?_
    refine al1 dX9_takeRowsOfLine_10 (by first | nofun | exact xrv_ne _) ?_
    refine gf9_210 rfl dX9_takeRowsOfLine_11 (hlq) hq ?_
    refine gf9_261 rfl dX9_takeRowsOfLine_14 hln.1 ?_
    rw [hln1.2.2.2.1]
    refine ex_icmp_ge 54 dX9_takeRowsOfLine_17 (by decide) (fun h17 => ?_) (fun h17 => ?_)
    · refine ex_vret dX9_takeRowsOfLine_54 rfl ?_
      exact ⟨rfl, rfl, rfl, rfl⟩
    · exact absurd (by rw [← e.1]; exact Int32.le_refl _) h17
  | succ m ih =>
    intro k D1 z hD hR hkm
    have hD0 : D1 0 = D 0 := hD 0 (fx_n12 hX (by decide) hk.2.2.2.1) (fx_n48 hX (by decide) hk.2.2.2.2)
    have hln1 : ln D1 R G q E o := hln.same (hD q (xis_xia hln.1 hk.2.2.2.1 (by decide)) (xis_xia hln.1 hk.2.2.2.2 (by decide))) (hD (q + 1) (xia_ne hln.2.2.1 hk.2.2.2.1 (by omega)) (xia_ne hln.2.2.1 hk.2.2.2.2 (by omega))) rfl (fun _ _ => rfl) (by omega)
    obtain ⟨e14, g1, g41, gne, hin, hbs, hb6, hb3, hbw, hbb⟩ := hs k (by omega)
    obtain ⟨y1, y2, y3, y4⟩ := rk_ne hk (rw_rk hbw) (by omega)
    have hRb : Rv D1 (bs k + 1) := fun n hn => by
      rw [hD _ y1 y2]
      exact rw_Rv hbw h15 g41 n hn
    refine il2 dX9_takeRowsOfLine_9 ?_
    refine al1 dX9_takeRowsOfLine_10 (by first | nofun | exact xrv_ne _) ?_
    refine gf9_210 rfl dX9_takeRowsOfLine_11 (hlq) hq ?_
    refine gf9_261 rfl dX9_takeRowsOfLine_14 hln.1 ?_
    rw [hln1.2.2.2.1]
    refine ex_icmp_ge 54 dX9_takeRowsOfLine_17 (by decide) (fun h17 => ?_) (fun h17 => ?_)
    · exact absurd (by rw [e.1] at h17; exact h17) (nI_ge (a := k) (b := ix (E 13 o)) (by omega) (by omega))
    · refine al0 dX9_takeRowsOfLine_20 (by first | nofun | exact xrv_ne _) ?_
      refine al1 dX9_takeRowsOfLine_21 (by first | nofun | exact xrv_ne _) ?_
      refine gf9_210 rfl dX9_takeRowsOfLine_22 (hlq) hq ?_
      refine il2 dX9_takeRowsOfLine_25 ?_
      refine cd9_262 (f' := f - 1) rfl dX9_takeRowsOfLine_26 (Nat.le_of_ble_eq_true rfl) hln.1 (by omega) (c_lat hln1 hL (vi_of (n := k) (by omega) (by omega))) ?_
      rw [ix_nI (show k < 2 ^ 31 by omega), e14]
      refine cd9_115 (f' := f - 1) rfl dX9_takeRowsOfLine_29 (Nat.le_of_ble_eq_true rfl) (fx0 hX) (by omega) (c_thing_y hX (by rw [hD0]; exact hn) (by rw [hD0]; exact hin) (by rw [ix_nI (by omega)]; exact hbs)) ?_
      refine as3 dX9_takeRowsOfLine_32 (by first | nofun | exact xrv_ne _) ?_
      refine al3 dX9_takeRowsOfLine_33 (by first | nofun | exact xrv_ne _) ?_
      refine ex_ifnull dX9_takeRowsOfLine_34 ?_
      refine al1 dX9_takeRowsOfLine_37 (by first | nofun | exact xrv_ne _) ?_
      refine gf9_124 rfl dX9_takeRowsOfLine_38 (h3) hq ?_
      refine al3 dX9_takeRowsOfLine_41 (by first | nofun | exact xrv_ne _) ?_
      refine gf9_124 rfl dX9_takeRowsOfLine_42 (hb3) hb6 ?_
      refine cd9_263 (f' := f - 1) rfl dX9_takeRowsOfLine_45 (Nat.le_of_ble_eq_true rfl) hk.1 (by omega) (c_inh (by omega) hk (rw_rk hbw) (by omega) hR hRb) ?_
      refine ic2 (nI (k + 1)) dX9_takeRowsOfLine_48 (nI_1 k) ?_
      refine ex_goto 9 dX9_takeRowsOfLine_51 (by decide) ?_
      exact ih (k + 1) _ _ (fun p p2 p3 => by rw [cInh_ne p2 p3]; exact hD p p2 p3) (cInh_Rv _ _ _ (by rw [lk_eq]) hR) (by omega)
set_option maxRecDepth 20000 in
set_option maxHeartbeats 1000000 in
theorem c_take {Γ : xGm} {l : Launch} {f : Nat} {G : xG} {R : xR} (hf : 6 ≤ f) (hX : xFix G R) {o b q : Nat} {gs bs : Nat → Nat} {D E : xD} (hn : vp_in (D 0 8) 41) (hq : xis G b 6) (h3 : R b 3 = some (b + 1)) (hlq : R b 1 = some q) (hln : ln D R G q E o) (hL : Lnp E o) (ho : o < 41) (hk : rk R G (b + 1)) (hs : Src D R G E o b gs bs) (h15 : ∀ t, t < 492 → vp_in (E 15 t) 5) : Cn Γ l f MX9_takeRowsOfLine [.ref 0, .ref b] G D R 0 0 (xdet none G (cTk (xfz D (b + 2) 12) (b + 1) (fun j => bs j + 1) 0 (ix (E 13 o))) R) := by
  refine cn_of MX9_takeRowsOfLine_ok (Nat.le_of_ble_eq_true rfl) ?_
  show Ex Γ l f MX9_takeRowsOfLine 0 [some (.ref 0), some (.ref b), none, none] [] G D R 0 0 _
  refine al1 dX9_takeRowsOfLine_0 (by first | nofun | exact xrv_ne _) ?_
  refine gf9_124 rfl dX9_takeRowsOfLine_1 (h3) hq ?_
  refine cd9_258 (f' := f - 1) rfl dX9_takeRowsOfLine_4 (Nat.le_of_ble_eq_true rfl) hk.1 (by omega) (c_clear (by omega) hk) ?_
  refine ex_iconst (v := 0) dX9_takeRowsOfLine_7 (by decide) ?_
  refine is2 dX9_takeRowsOfLine_8 ?_
  exact c_take_lp hf hX hn hq h3 hlq hln hL ho hk hs h15 (ix (E 13 o)) 0 _ none (fun p p2 _ => xfz_ne p2) (fun n hn => by rw [xfz_self hn]; exact vi_of (n := 0) (by decide) (by decide)) (by omega)
theorem Sim_Src {D E : xD} {R : xR} {G : xG} (h : Sim D R G E) {o b : Nat} (o1 : 1 ≤ o) (o2 : o ≤ ix (E 0 14)) (hb : R 1 (o - 1) = some b) (h10 : E 10 o = 0) : Src D R G E o b (fun j => ix (E 14 (41 * o + j))) (fun j => (R 1 (ix (E 14 (41 * o + j)) - 1)).getD 0) := fun j hj => by
  have o41 : o < 41 := by have := (vi_n h.B.n14 (by decide)).2; omega
  have hc := (h.I.2.1.2.2 o o41).2.1 j hj
  obtain ⟨e, g1, g2, g3⟩ := isC_n h.B.n14 hc
  have hgo : ix (E 14 (41 * o + j)) ≠ o := fun q => hc.2 (by rw [q]; exact h10)
  obtain ⟨c, c1, c2⟩ := h.th.1 _ g1 g2
  have ec : (fun j => (R 1 (ix (E 14 (41 * o + j)) - 1)).getD 0) j = c := by
    show (R 1 (ix (E 14 (41 * o + j)) - 1)).getD 0 = c
    rw [c1]
    rfl
  rw [ec]
  have g41 : ix (E 14 (41 * o + j)) < 41 := by omega
  exact ⟨e, g1, g41, hgo, by rw [h.A.1, ← e]; exact hc.1, c1, c2.1.1, c2.1.2, c2.2.2.2.2, fun q => by
    subst q
    exact hgo (h.th.2 _ _ c g1 g2 o1 o2 c1 hb)⟩
theorem Sim_rows {D E : xD} {R : xR} {G : xG} (h : Sim D R G E) {o b : Nat} (o1 : 1 ≤ o) (o2 : o ≤ ix (E 0 14)) (hb : R 1 (o - 1) = some b) (hth : th D R G b E o) {D' : xD} (hD : ∀ p, p ≠ b + 2 → p ≠ b + 3 → D' p = D p) (hrw : rw_ D' R G b (sRows E (nI o)) o) (hoth : ∀ t l, (t < 12 * o ∨ 12 * o + 12 ≤ t) → rs (E 15) (E 16) t l → rs (sRows E (nI o) 15) (sRows E (nI o) 16) t l) : Sim D' R G (sRows E (nI o)) ∧ Sam D D' := by
  have o41 : o < 41 := by have := (vi_n h.B.n14 (by decide)).2; omega
  have hI := h.I.rows (o := o) o41
  obtain ⟨hLN, hj⟩ := sRows_LN h.I.2.1 o41
  have r12 := hth.2.2.2.2.2.2.2.1
  have r48 := hth.2.2.2.2.2.2.2.2.1
  have ho15 : ∀ t, t < 492 → (t < 12 * o ∨ 12 * o + 12 ≤ t) → sRows E (nI o) 15 t = E 15 t ∧ ∀ i, i < ix (E 15 t) → sRows E (nI o) 16 (4 * t + i) = E 16 (4 * t + i) := fun t ht h2 => by
    have z := rs_mk (val := E 16) (h.B.a15 ht)
    have z2 := hoth t _ h2 z
    refine ⟨z2.1.trans z.1.symm, fun i hi => ?_⟩
    rw [rs_len z] at hi
    rw [z2.2.2 i hi, z.2.2 i hi]
  refine Sim_th h o1 o2 hb (fun p _ p2 p3 => hD p p2 p3) (fun _ _ _ => rfl) hI ?_ (fun j _ b c _ _ => hj j b c) (fun u _ => ?_) (fun u n hu hu41 hn => (ho15 _ (by omega) (by omega)).1) (fun u n i hu hu41 hn hi _ => (ho15 _ (by omega) (by omega)).2 i hi) ?_
  · refine h.F.e (hj 0 (by decide) (by decide)) (hj 4 (by decide) (by decide)) (hj 9 (by decide) (by decide)) (hj 10 (by decide) (by decide)) (fun v hv => by rw [hj 11 (by decide) (by decide)]; exact (h.F.2.2.2.1 v hv).2.1) (fun v _ _ => by rw [hj 11 (by decide) (by decide)]) (hj 12 (by decide) (by decide)) (fun v n a b hn => (ho15 _ (by omega) (by omega)).1) (hj 17 (by decide) (by decide)) (hj 18 (by decide) (by decide))
  · rw [hj 11 (by decide) (by decide), hj 17 (by decide) (by decide), hj 18 (by decide) (by decide)]
    exact ⟨rfl, rfl, rfl⟩
  · obtain ⟨c2, c3, c4, ⟨q, q1, q2⟩, -⟩ := hth
    refine ⟨c2, ?_, ?_, ⟨q, q1, ?_⟩, hrw⟩
    · rw [hD b (by omega) (by omega), hj 10 (by decide) (by decide), hj 11 (by decide) (by decide), hj 12 (by decide) (by decide), hj 18 (by decide) (by decide)]
      exact c3
    · rw [hj 17 (by decide) (by decide)]
      exact c4
    · unfold ln at q2 ⊢
      rw [hD q (xis_xia q2.1 r12 (by decide)) (xis_xia q2.1 r48 (by decide)), hD (q + 1) (xia_ne q2.2.2.1 r12 (by omega)) (xia_ne q2.2.2.1 r48 (by omega)), hj 13 (by decide) (by decide), hj 14 (by decide) (by decide)]
      exact q2
theorem c_takeS {Γ : xGm} {l : Launch} {f : Nat} {G : xG} {D E : xD} {R : xR} (hf : 6 ≤ f) (hS : Sim D R G E) {o b : Nat} (o1 : 1 ≤ o) (o2 : o ≤ ix (E 0 14)) (hb : R 1 (o - 1) = some b) (hth : th D R G b E o) (h10 : E 10 o = 0) : ∃ D', Sim D' R G (sRows E (nI o)) ∧ Sam D D' ∧ Cn Γ l f MX9_takeRowsOfLine [.ref 0, .ref b] G D R 0 0 (xdet none G D' R) := by
  have o41 : o < 41 := by have := (vi_n hS.B.n14 (by decide)).2; omega
  obtain ⟨⟨hq, h3⟩, ⟨d0, d2, d4, d6⟩, htx, ⟨lq, hlq, hln⟩, hrw⟩ := id hth
  have hL := (hS.I.2.1.2.2 o o41).1
  have hs := Sim_Src hS o1 o2 hb h10
  obtain ⟨t1, t2⟩ := take_rw (rw_rk hrw) hs o41 hL (fun t ht => hS.B.a15 ht)
  obtain ⟨s1, s2⟩ := Sim_rows hS o1 o2 hb hth (fun p p2 p3 => by rw [cTk_ne p2 p3, xfz_ne p2]) t1 t2
  exact ⟨_, s1, s2, c_take hf hS.X hS.n8 hq h3 hlq hln hL o41 (rw_rk hrw) hs (fun t ht => hS.B.a15 ht)⟩
