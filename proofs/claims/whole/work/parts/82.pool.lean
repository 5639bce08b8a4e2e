/-! ===== group: the class, and its pool ===== -/
def Pi (E0 E : xD) (c n p : Nat) : Prop := (LN E ∧ Fsh E ∧ A14 E) ∧ E 0 14 = nI n ∧ (∀ k, k ≠ 14 → E 0 k = E0 0 k) ∧ (∀ j, j ≠ 0 → (j < 10 ∨ 16 < j) → E j = E0 j) ∧ (∀ v, v < c → E 12 v = E0 12 v ∧ E 10 v = E0 10 v) ∧ E 12 c = nI p ∧ (∀ v, c < v → v < 41 → E 12 v = 0) ∧ (∀ v, c < v → v ≤ n → E 10 v = 0)
/-- at the end of the pool -/
theorem Pi.iv {E0 E : xD} {c p : Nat} (h : Pi E0 E c (c + p) p) (hI : Iv E0) (hc : ix (E0 0 14) + 1 = c) (hp : p ≤ 6) (h40 : c + p ≤ 40) : Iv E := by
  obtain ⟨⟨hN, hF, h14⟩, e14, e0, ej, hlt, hcc, hgt, h10⟩ := h
  have i14 : ix (E 0 14) = c + p := by rw [e14, ix_nI (by omega)]
  refine Iv_new hI hN h14 e0 ej (fun t ht hz => ?_) (fun t ht i i1 i2 hz => ?_)
  · rcases Nat.lt_trichotomy t c with q | q | q
    · rw [(hlt t q).1] at hz ⊢
      obtain ⟨a, b⟩ := hI.1.a12 ht hz
      exact ⟨a, by omega⟩
    · subst q
      rw [hcc, ix_nI (by omega)]
      exact ⟨vi_of (by omega) (by decide), by omega⟩
    · exact absurd (hgt t q ht) hz
  · rcases Nat.lt_trichotomy t c with q | q | q
    · rw [(hlt t q).1] at hz i2
      obtain ⟨a, b⟩ := hI.1.a12 ht hz
      rw [(hlt (t + i) (by omega)).2]
      exact hI.2.2.2 t ht i i1 i2 hz
    · subst q
      rw [hcc, ix_nI (by omega)] at i2
      exact h10 _ (by omega) (by omega)
    · exact absurd (hgt t q ht) hz
/-- one of the pool: the reference's side -/
theorem pool_ref {E : xD} {c n : Nat} (hN : LN E) (hF : Fsh E) (h14 : A14 E) (hn : E 0 14 = nI n) (n40 : n < 40) (hc : c ≤ n) : ∃ F : xD, sPool1 E (nI c) = sRows F (nI (n + 1)) ∧ LN F ∧ F 0 14 = nI (n + 1) ∧ Nw E F (n + 1) ∧ F 10 (n + 1) = 0 ∧ F 11 (n + 1) = 0 ∧ F 12 (n + 1) = 0 ∧ F 15 = E 15 ∧ F 16 = E 16 ∧ A14 F ∧ F 10 = upd (E 10) (n + 1) 0 ∧ F 12 = E 12 ∧ (1 ≤ c → F 13 (n + 1) = E 13 c ∧ ∀ i, i < ix (E 13 c) → F 14 (41 * (n + 1) + i) = E 14 (41 * c + i)) := by
  have i14 : ix (E 0 14) = n := by rw [hn, ix_nI (by omega)]
  obtain ⟨n1, n2, n3⟩ := sNew_LN (b := 0) hN (by omega)
  have w0 := Nw.new (b := 0) hN (by omega)
  rw [i14] at n2 n3 w0
  have i0 : ix (sNew E 0 0 14) = n + 1 := by rw [n3, ix_nI (by omega)]
  obtain ⟨j1, j2⟩ := sJoin_LN (t := n + 1) (g := c) n1 (by omega) (by omega) (by omega)
  have ej : ∀ j, j ≠ 0 → j ≠ 10 → sNew E 0 j = E j := fun j a b => by rw [n2, xdu_ne _ _ _ b, xdu_ne _ _ _ a]
  have kj : ∀ j, j ≠ 13 → j ≠ 14 → sJoin (sNew E 0) (nI (n + 1)) (nI c) j = sNew E 0 j := fun j a b => j2.1 j a b
  have hT : E 0 14 + 1 = nI (n + 1) := by rw [hn]; exact nI_1 n
  have a1 : A14 (sNew E 0) := by
    unfold A14
    rw [ej 14 (by decide) (by decide)]
    exact h14
  have z := hF.2.2.1 (n + 1) (by omega) (by omega)
  refine ⟨sJoin (sNew E 0) (nI (n + 1)) (nI c), by rw [sPool1, hT], j1, by rw [kj 0 (by decide) (by decide)]; exact n3, w0.tr (Nw.line j2), ?_, ?_, ?_, ?_, ?_, A14.join a1 (by omega) (n1.2.2 c (by omega)).1, ?_, ?_, fun c1 => ?_⟩
  · rw [kj 10 (by decide) (by decide), n2, xdu_self, upd_self]
  · rw [kj 11 (by decide) (by decide), ej 11 (by decide) (by decide)]
    exact z.1
  · rw [kj 12 (by decide) (by decide), ej 12 (by decide) (by decide)]
    exact z.2.1
  · rw [kj 15 (by decide) (by decide), ej 15 (by decide) (by decide)]
  · rw [kj 16 (by decide) (by decide), ej 16 (by decide) (by decide)]
  · rw [kj 10 (by decide) (by decide), n2, xdu_self, xdu_ne _ _ _ (by decide)]
  · rw [kj 12 (by decide) (by decide), ej 12 (by decide) (by decide)]
  · have e13 : sNew E 0 13 = E 13 := ej 13 (by decide) (by decide)
    have e14 : sNew E 0 14 = E 14 := ej 14 (by decide) (by decide)
    have zz : sNew E 0 13 (n + 1) = nI 0 := by
      rw [e13]
      exact (hN.2.2 (n + 1) (by omega)).2.2 (by omega)
    obtain ⟨q1, q2⟩ := join_copy (o := n + 1) (c := c) (by omega) (by omega) (by omega) (ix (sNew E 0 13 c)) 0 (sNew E 0) (n1.2.2 c (by omega)).1 (n1.2.2 (n + 1) (by omega)).1 zz (fun i hi => by omega) (by omega)
    rw [Nat.zero_add] at q1 q2
    have e : sJoin (sNew E 0) (nI (n + 1)) (nI c) = sJoinL (sNew E 0) (nI (n + 1)) (nI c) (nI 0) (ix (sNew E 0 13 c)) := by
      unfold sJoin
      rw [if_neg (fun q => by have := congrArg ix q; rw [ix_nI (by omega)] at this; change c = 0 at this; omega), ix_nI (by omega)]
      rfl
    rw [e, q1, e13]
    refine ⟨((vi_n (hN.2.2 c (by omega)).1.1 (by decide)).1).symm, fun i hi => ?_⟩
    rw [e13] at q2
    rw [q2 i hi, e14]
theorem Pi.step {E0 E F E' : xD} {c n p : Nat} (h : Pi E0 E c n p) (hcn : c ≤ n) (n40 : n < 40) (hw : Nw E E' (n + 1)) (hN : LN E') (hF : Fsh E') (h14 : A14 E') (e14 : E' 0 14 = nI (n + 1)) (e10 : E' 10 = upd (E 10) (n + 1) 0) (e12 : E' 12 = E 12) : Pi E0 E' c (n + 1) p := by
  obtain ⟨-, -, g0, gj, glt, gcc, ggt, g10⟩ := h
  refine ⟨⟨hN, hF, h14⟩, e14, fun k hk => (hw.1 k hk).trans (g0 k hk), fun j a b => (hw.2.1 j a b).trans (gj j a b), fun v hv => ?_, by rw [e12]; exact gcc, by rw [e12]; exact ggt, fun v a b => ?_⟩
  · rw [e12, e10, upd_ne _ _ (by omega)]
    exact glt v hv
  · rw [e10]
    by_cases q : v = n + 1
    · rw [q, upd_self]
    · rw [upd_ne _ _ q]
      exact g10 v a (by omega)
set_option maxRecDepth 20000 in
set_option maxHeartbeats 1000000 in
theorem c_pool_lp {Γ : xGm} {l : Launch} {f : Nat} (hf : 7 ≤ f) {a b : Option Value} {c q p : Nat} {Eo Do : xD} (c1 : 1 ≤ c) (hp : p ≤ 6) (h40 : c + p ≤ 40) : ∀ (m k : Nat) (G : xG) (D E : xD) (R : xR) (kc kw : Nat) (z : Option Value), S0 D R G E → Pi Eo E c (c + k) p → ln D R G q E c → k + m = p → Sam Do D → 4 * m ≤ kc → 69 * m ≤ kw → Ex Γ l f MX9_group 98 [some (.ref 0), a, b, some (.int (nI p)), some (.int (nI c)), some (.ref q), some (.int (nI k)), z] [] G D R kc kw (fun v G' D' R' => v = some (.int (nI c)) ∧ S0 D' R' G' (sPool E (nI c) m) ∧ Pi Eo (sPool E (nI c) m) c (c + p) p ∧ Sam Do D') := by
  intro m
  induction m with
  | zero =>
    intro k G D E R kc kw z hS hP hl hk hM h4 h69
    have : k = p := by omega
    subst this
    refine il6 dX9_group_98 ?_
    refine il3 dX9_group_100 ?_
    refine ex_icmp_ge 135 dX9_group_101 (by decide) (fun h101 => ?_) (fun h101 => ?_)
    · refine il4 dX9_group_135 ?_
      refine ex_iret dX9_group_137 rfl ?_
      exact ⟨rfl, hS, hP, hM⟩
    · exact absurd (Int32.le_refl _) h101
  | succ m ih =>
    intro k G D E R kc kw z hS hP hl hk hM h4 h69
    obtain ⟨hN, hF, h14⟩ := hP.1
    have hn := hP.2.1
    have h47 := hS.1.1
    obtain ⟨F, eF, l2, g14, w2, g10, g11, g12, g15, g16, a14, u10, u12, f13⟩ := pool_ref hN hF h14 hn (by omega) (show c ≤ c + k by omega)
    have f13 := f13 c1
    rw [sPool, eF]
    refine il6 dX9_group_98 ?_
    refine il3 dX9_group_100 ?_
    refine ex_icmp_ge 135 dX9_group_101 (by decide) (fun h101 => ?_) (fun h101 => ?_)
    · exact absurd h101 (nI_ge (a := k) (b := p) (by omega) (by omega))
    · refine nw9_9 (kc1 := kc - 1) (kw1 := kw - 7) rfl dX9_group_104 (by omega) (by omega) ?_
      refine ex_dup dX9_group_107 ?_
      refine ex_iconst (v := 0) dX9_group_108 (by decide) ?_
      refine al5 dX9_group_109 (by first | nofun | exact xrv_ne _) ?_
      refine ex_iconst (v := 0) dX9_group_111 (by decide) ?_
      refine cs9_101 (f' := f - 1) rfl dX9_group_112 (Nat.le_of_ble_eq_true rfl) (by omega) (by omega) (by omega) (c_in6 (by omega) (G := gP G (6, 0)) xis_n (show q < G.1 + 1 by have := hl.1.1; omega) (Or.inl rfl)) ?_
      rintro v3 G3 D3 R3 ⟨rfl, g3, c31, c32, c33, c34, c35⟩
      have h3 := (Gr.new (D := D) (R := R) (G := G) (k := (6, 0)) G.1).tr g3
      have k6 := g3.is (xis_n (G := G) (c := 6))
      have r6 : R3 G.1 = va_up (va_up (fun _ => none) 3 (some (G.1 + 1))) 1 (some q) := by
        rw [c32]
        show va_up (va_up (va_up R G.1 (fun _ => none) G.1) 3 _) 1 _ = _
        rw [va_up_self]
      have d6 : D3 G.1 = upd (upd (fun _ => 0) 0 0) 2 0 := by
        rw [c31]
        show upd (upd (va_up D G.1 (fun _ => 0) G.1) 0 0) 2 0 = _
        rw [va_up_self]
      have hl3 := ln_gr hl h3 (Nat.le_refl _)
      have hl4 : ln D3 R3 G3 q F (c + k + 1) := by
        obtain ⟨y1, y2, y3, y4, y5⟩ := hl3
        exact ⟨y1, y2, y3, by rw [f13.1]; exact y4, fun i hi => by rw [f13.1] at hi; rw [f13.2 i hi]; exact y5 i hi⟩
      obtain ⟨D5, hcc, d58, hS5, hM5, hD5, l5, w5, fr5, j5⟩ := mk_take (Γ := Γ) (l := l) (f := f - 1) (b := G.1) (by omega) hS hN hF h3 hn (by omega) l2 g14 w2 g10 (Or.inl g11) g12 g15 g16 (Nat.le_refl _) k6 (by rw [r6]; rfl) (by rw [r6, va_up_self]) (by rw [r6]; rfl) c33 (by rw [d6]; rfl) (by rw [d6]; rfl) (by rw [d6, g11]; rfl) (by rw [d6]; rfl) hl4
      have hX5 := (S0_grow hS h3 (Nat.le_refl _)).1.1
      have e14' : sRows F (nI (c + k + 1)) 0 14 = nI (c + k + 1) := by rw [j5 0 (by decide) (by decide)]; exact g14
      have pi5 := Pi.step (F := F) hP (by omega) (by omega) w5 l5 fr5 (by unfold A14; rw [j5 14 (by decide) (by decide)]; exact a14) e14' (by rw [j5 10 (by decide) (by decide)]; exact u10) (by rw [j5 12 (by decide) (by decide)]; exact u12)
      have lt0 := hl.1.1
      have lt1 := hl.2.2.1.1
      have hl5 : ln (xdu D5 0 8 (nI (c + k + 1))) (xru R3 1 (c + k) (some G.1)) G3 q (sRows F (nI (c + k + 1))) c := by
        obtain ⟨y1, y2, y3, y4, y5⟩ := hl3
        have ne0 := xis_ne y1 (fx0 hX5) (by decide)
        have ne1 := xis_xia y1 (fx1 hX5) (by decide)
        have le := (hN.2.2 c (by omega)).1.le
        refine ⟨y1, by rw [xr_ne ne1]; exact y2, y3, ?_, fun i hi => ?_⟩
        · rw [xdu_ne _ _ _ ne0, hD5 _ (by omega) (by omega), (w5.2.2.1 c (by omega) (by omega)).2.2.2]
          exact y4
        · rw [(w5.2.2.1 c (by omega) (by omega)).2.2.2] at hi
          rw [xdu_ne _ _ _ (by omega), hD5 _ (by omega) (by omega), w5.2.2.2.1 _ (by omega)]
          exact y5 i hi
      refine as7 dX9_group_115 (by first | nofun | exact xrv_ne _) ?_
      refine al0 dX9_group_117 (by first | nofun | exact xrv_ne _) ?_
      refine al7 dX9_group_118 (by first | nofun | exact xrv_ne _) ?_
      refine cd9_108 (f' := f - 1) rfl dX9_group_120 (Nat.le_of_ble_eq_true rfl) ((fx0 hX5)) (by omega) (hcc) ?_
      refine al0 dX9_group_123 (by first | nofun | exact xrv_ne _) ?_
      refine al7 dX9_group_124 (by first | nofun | exact xrv_ne _) ?_
      refine cd9_104 (f' := f - 1) rfl dX9_group_126 (Nat.le_of_ble_eq_true rfl) ((fx0 hX5)) (by omega) (c_addThing hX5 d58 (by omega) k6) ?_
      refine ic6 (nI (k + 1)) dX9_group_129 (nI_1 k) ?_
      refine ex_goto 98 dX9_group_132 (by decide) ?_
      exact ih (k + 1) _ _ _ _ _ _ _ hS5 pi5 hl5 (by omega) (hM.tr hM5) (by omega) (by omega)
