/-! ===== things, lines of things are made ===== -/
theorem ex_mono {Γ : xGm} {l : Launch} {f : Nat} {μ : xMt} {pc : Nat} {L : List (Option Value)} {st : List Value} {G : xG} {D : xD} {R : xR} {kc kw : Nat} {Q Q' : Option Value → xG → xD → xR → Prop} (h : Ex Γ l f μ pc L st G D R kc kw Q) (hq : ∀ v G' D' R', Q v G' D' R' → Q' v G' D' R') : Ex Γ l f μ pc L st G D R kc kw Q' := fun p e s m args below meth c A Qc H locs ls cells slots C S ad hF hS hQ => h p e s m args below meth c A Qc H locs ls cells slots C S ad hF hS (fun ad' v G' D' R' t a b c d e q => hQ ad' v G' D' R' t a b c d e (hq _ _ _ _ q))
theorem Gr.set {n q : Nat} {D D1 D2 : xD} {R R1 R2 : xR} {G G1 : xG} (h : Gr n q D D1 R R1 G G1) (hD : ∀ p, p < G.1 → D2 p = D1 p) (hR : ∀ p, p < G.1 → R2 p = R1 p) : Gr n q D D2 R R2 G G1 := ⟨h.1, h.2.1, fun p hp hq => ⟨(hD p hp).trans (h.2.2 p hp hq).1, (hR p hp).trans (h.2.2 p hp hq).2⟩⟩
theorem S0.n8 {D E : xD} {R : xR} {G : xG} (h : S0 D R G E) (hN : LN E) : vp_in (D 0 8) 41 := by
  rw [h.2.1.1.1]
  exact hN.1
theorem al_src {D E : xD} {R : xR} {G : xG} (h : S0 D R G E) (hN : LN E) {a : Int32} (ha : isC E a) : ∃ b q, R 1 (ix a - 1) = some b ∧ sIn a 1 (D 0 8) = true ∧ xis G b 6 ∧ R b 1 = some q ∧ ln D R G q E (ix a) ∧ a = nI (ix a) ∧ 1 ≤ ix a ∧ ix a ≤ ix (E 0 14) := by
  obtain ⟨e, a1, a2, a3⟩ := isC_n hN.1 ha
  obtain ⟨b, b1, b2⟩ := h.2.2.2.2.2.2.1 (ix a) a1 a2
  obtain ⟨q, q1, q2⟩ := b2.2.2.2.1
  exact ⟨b, q, b1, by rw [h.2.1.1.1]; exact ha.1, b2.1.1, q1, q2, e, a1, a2⟩
/-- a line grows: what stands around it -/
def AL (D : xD) (R : xR) (G : xG) (E F : xD) (o q : Nat) : Prop := LN F ∧ F 0 14 = nI o ∧ (∀ v, v ≠ o → F 13 v = E 13 v) ∧ (∀ i, (i < 41 * o ∨ 41 * o + 41 ≤ i) → F 14 i = E 14 i) ∧ ln D R G q F o
theorem al_ln {D E F : xD} {R : xR} {G : xG} {o q q2 u : Nat} (h : AL D R G E F o q) (hN : LN E) (hu : u < 41) (hne : u ≠ o) (h2 : ln D R G q2 E u) : ln D R G q2 F u := h2.same rfl rfl (h.2.2.1 u hne) (fun k hk => h.2.2.2.1 _ (by omega)) (Nat.le_trans (hN.2.2 u hu).1.le (by decide))
theorem al_step {D E F : xD} {R : xR} {G : xG} {o q q2 u : Nat} (h : AL D R G E F o q) (hN : LN E) (ho : o < 41) (hu : u < 41) (u1 : 1 ≤ u) (hne : u ≠ o) (h2 : ln D R G q2 E u) (hqq : q2 ≠ q) : AL (cLall D q F o u 0 (ix (F 13 u))) R G E (sJoin F (nI o) (nI u)) o q ∧ ∀ p, p ≠ q → p ≠ q + 1 → cLall D q F o u 0 (ix (F 13 u)) p = D p := by
  obtain ⟨hF, f14, f13, fl, hl⟩ := id h
  have io : ix (F 0 14) = o := by rw [f14, ix_nI (by omega)]
  obtain ⟨j1, j2⟩ := sJoin_LN (t := o) (g := u) hF (by omega) hu (Ne.symm hne)
  have z := ln_all ho hu (Ne.symm hne) hqq (ix (F 13 u)) 0 D F hl (hF.2.2 o ho).1 (al_ln h hN hu hne h2) (hF.2.2 u hu).1 (by omega)
  have e : sJoin F (nI o) (nI u) = sJoinL F (nI o) (nI u) (nI 0) (ix (F 13 u)) := by
    unfold sJoin
    rw [if_neg (fun q => by have := congrArg ix q; rw [ix_nI (by omega)] at this; change u = 0 at this; omega), ix_nI (by omega)]
    rfl
  refine ⟨⟨j1, by rw [j2.1 0 (by decide) (by decide)]; exact f14, fun v hv => by rw [j2.2.1 v hv]; exact f13 v hv, fun i hi => by rw [j2.2.2 i hi]; exact fl i hi, ?_⟩, fun p a b => cLall_ne a b _ _ _ _⟩
  rw [e]
  exact z
theorem sJoin_0 {E : xD} {t : Int32} : sJoin E t 0 = E := if_pos rfl
theorem sIn_z {x : Int32} : sIn 0 1 x = false := by
  rw [sIn]
  exact Bool.and_eq_false_iff.mpr (Or.inl (by decide))
set_option maxRecDepth 20000 in
set_option maxHeartbeats 1000000 in
theorem c_addThing {Γ : xGm} {l : Launch} {f : Nat} {G : xG} {D : xD} {R : xR} (hX : xFix G R) {n b : Nat} (hn : D 0 8 = nI n) (n40 : n < 40) (hb : xis G b 6) : Cn Γ l f MX9_addThing [.ref 0, .ref b] G D R 0 0 (xdet none G (xdu D 0 8 (nI (n + 1))) (xru R 1 n (some b))) := by
  refine cn_of MX9_addThing_ok (Nat.le_of_ble_eq_true rfl) ?_
  show Ex Γ l f MX9_addThing 0 [some (.ref 0), some (.ref b)] [] G D R 0 0 _
  refine al0 dX9_addThing_0 (by first | nofun | exact xrv_ne _) ?_
  refine gf9_88 rfl dX9_addThing_1 (fx0 hX) ?_
  rw [hn]
  refine ex_if_lt 36 dX9_addThing_4 (by decide) (fun h4 => ?_) (fun h4 => ?_)
  · exact absurd (nI_le (a := 0) (by omega) (by omega)) h4
  · refine al0 dX9_addThing_7 (by first | nofun | exact xrv_ne _) ?_
    refine gf9_88 rfl dX9_addThing_8 (fx0 hX) ?_
    refine ex_bipush (v := 40) dX9_addThing_11 (by decide) ?_
    rw [hn]
    refine ex_icmp_ge 36 dX9_addThing_13 (by decide) (fun h13 => ?_) (fun h13 => ?_)
    · exact absurd h13 (vi_not (n := 40) (vi_of (by omega) (by decide)) (by decide))
    · refine al0 dX9_addThing_16 (by first | nofun | exact xrv_ne _) ?_
      refine gf9_11 rfl dX9_addThing_17 (fr0_0 hX) (fx0 hX) ?_
      refine al0 dX9_addThing_20 (by first | nofun | exact xrv_ne _) ?_
      refine gf9_88 rfl dX9_addThing_21 (fx0 hX) ?_
      refine al1 dX9_addThing_24 (by first | nofun | exact xrv_ne _) ?_
      rw [hn]
      refine ey_aast (c := 6) dX9_addThing_25 (fx1 hX) (by decide) (by decide) (vi_of (by omega) (by decide)) rfl (by decide) rfl hb ?_
      refine al0 dX9_addThing_26 (by first | nofun | exact xrv_ne _) ?_
      refine ex_dup dX9_addThing_27 ?_
      refine gf9_88 rfl dX9_addThing_28 (fx0 hX) ?_
      refine ex_iconst (v := 1) dX9_addThing_31 (by decide) ?_
      refine ex_iadd dX9_addThing_32 ?_
      refine pf9_88 rfl dX9_addThing_33 (fx0 hX) ?_
      refine ex_vret dX9_addThing_36 rfl ?_
      refine ⟨rfl, rfl, ?_, ?_⟩
      · rw [hn, nI_1]
      · rw [ix_nI (by omega)]
set_option maxRecDepth 20000 in
set_option maxHeartbeats 1000000 in
theorem c_addLines {Γ : xGm} {l : Launch} {f : Nat} {G : xG} {D E : xD} {R : xR} (hf : 4 ≤ f) (hS : S0 D R G E) (hN : LN E) {F : xD} {o q : Nat} (hal : AL D R G E F o q) (ho : o < 41) (hoE : ix (E 0 14) < o) (hq47 : 47 ≤ q) (hqf : ∀ v b q2, 1 ≤ v → v ≤ ix (E 0 14) → R 1 (v - 1) = some b → R b 1 = some q2 → q2 ≠ q) {a b : Int32} (ha : a = 0 ∨ isC E a) (hb : b = 0 ∨ isC E b) : Cn Γ l f MX9_addLines [.ref 0, .ref q, .int a, .int b] G D R 0 0 (fun v G' D' R' => v = none ∧ G' = G ∧ R' = R ∧ (∀ p, p ≠ q → p ≠ q + 1 → D' p = D p) ∧ AL D' R G E (sJoin (sJoin F (nI o) a) (nI o) b) o q) := by
  refine cn_of MX9_addLines_ok (Nat.le_of_ble_eq_true rfl) ?_
  show Ex Γ l f MX9_addLines 0 [some (.ref 0), some (.ref q), some (.int a), some (.int b), none, none] [] G D R 0 0 _
  have h8 := hS.n8 hN
  rcases ha with rfl | ha
  · rcases hb with rfl | hb
    · rw [sJoin_0]
      rw [sJoin_0]
      refine al0 dX9_addLines_0 (by first | nofun | exact xrv_ne _) ?_
      refine il2 dX9_addLines_1 ?_
      refine cd9_115 (f' := f - 1) rfl dX9_addLines_2 (Nat.le_of_ble_eq_true rfl) (fx0 hS.1) (by omega) (c_thing_n hS.1 h8 sIn_z) ?_
      refine as4 dX9_addLines_5 (by first | nofun | exact xrv_ne _) ?_
      refine al4 dX9_addLines_7 (by first | nofun | exact xrv_ne _) ?_
      refine ex_ifnullN 21 dX9_addLines_9 (by decide) ?_
      refine al0 dX9_addLines_21 (by first | nofun | exact xrv_ne _) ?_
      refine il3 dX9_addLines_22 ?_
      refine cd9_115 (f' := f - 1) rfl dX9_addLines_23 (Nat.le_of_ble_eq_true rfl) (fx0 hS.1) (by omega) (c_thing_n hS.1 h8 sIn_z) ?_
      refine as5 dX9_addLines_26 (by first | nofun | exact xrv_ne _) ?_
      refine al5 dX9_addLines_28 (by first | nofun | exact xrv_ne _) ?_
      refine ex_ifnullN 42 dX9_addLines_30 (by decide) ?_
      refine ex_vret dX9_addLines_42 rfl ?_
      exact ⟨rfl, rfl, rfl, fun _ _ _ => rfl, hal⟩
    · obtain ⟨b2, q2, r2, s2, k2, l2, n2, e2, u2, w2⟩ := al_src hS hN hb
      have x2 := hqf _ _ _ u2 w2 r2 l2
      rw [sJoin_0]
      obtain ⟨hal2, hd2⟩ := al_step hal hN ho (by omega) u2 (by omega) n2 x2
      rw [← e2] at hal2
      refine al0 dX9_addLines_0 (by first | nofun | exact xrv_ne _) ?_
      refine il2 dX9_addLines_1 ?_
      refine cd9_115 (f' := f - 1) rfl dX9_addLines_2 (Nat.le_of_ble_eq_true rfl) (fx0 hS.1) (by omega) (c_thing_n hS.1 h8 sIn_z) ?_
      refine as4 dX9_addLines_5 (by first | nofun | exact xrv_ne _) ?_
      refine al4 dX9_addLines_7 (by first | nofun | exact xrv_ne _) ?_
      refine ex_ifnullN 21 dX9_addLines_9 (by decide) ?_
      refine al0 dX9_addLines_21 (by first | nofun | exact xrv_ne _) ?_
      refine il3 dX9_addLines_22 ?_
      refine cd9_115 (f' := f - 1) rfl dX9_addLines_23 (Nat.le_of_ble_eq_true rfl) (fx0 hS.1) (by omega) (c_thing_y hS.1 h8 s2 r2) ?_
      refine as5 dX9_addLines_26 (by first | nofun | exact xrv_ne _) ?_
      refine al5 dX9_addLines_28 (by first | nofun | exact xrv_ne _) ?_
      refine ex_ifnull dX9_addLines_30 ?_
      refine al1 dX9_addLines_33 (by first | nofun | exact xrv_ne _) ?_
      refine al5 dX9_addLines_34 (by first | nofun | exact xrv_ne _) ?_
      refine gf9_210 rfl dX9_addLines_36 (l2) (k2) ?_
      refine cd9_254 (f' := f - 1) rfl dX9_addLines_39 (Nat.le_of_ble_eq_true rfl) (hal.2.2.2.2.1) (by omega) (c_lall (by omega) ho (show ix b < 41 by omega) (by omega) x2 hal.2.2.2.2 (hal.1.2.2 o ho).1 (al_ln hal hN (by omega) (by omega) n2) (hal.1.2.2 _ (by omega)).1) ?_
      refine ex_vret dX9_addLines_42 rfl ?_
      exact ⟨rfl, rfl, rfl, hd2, hal2⟩
  · obtain ⟨b1, q1, r1, s1, k1, l1, n1, e1, u1, w1⟩ := al_src hS hN ha
    have x1 := hqf _ _ _ u1 w1 r1 l1
    rcases hb with rfl | hb
    · obtain ⟨hal1, hd1⟩ := al_step hal hN ho (by omega) u1 (by omega) n1 x1
      rw [← e1] at hal1
      have z0 := hd1 0 (by omega) (by omega)
      rw [sJoin_0]
      refine al0 dX9_addLines_0 (by first | nofun | exact xrv_ne _) ?_
      refine il2 dX9_addLines_1 ?_
      refine cd9_115 (f' := f - 1) rfl dX9_addLines_2 (Nat.le_of_ble_eq_true rfl) (fx0 hS.1) (by omega) (c_thing_y hS.1 h8 s1 r1) ?_
      refine as4 dX9_addLines_5 (by first | nofun | exact xrv_ne _) ?_
      refine al4 dX9_addLines_7 (by first | nofun | exact xrv_ne _) ?_
      refine ex_ifnull dX9_addLines_9 ?_
      refine al1 dX9_addLines_12 (by first | nofun | exact xrv_ne _) ?_
      refine al4 dX9_addLines_13 (by first | nofun | exact xrv_ne _) ?_
      refine gf9_210 rfl dX9_addLines_15 (l1) (k1) ?_
      refine cd9_254 (f' := f - 1) rfl dX9_addLines_18 (Nat.le_of_ble_eq_true rfl) (hal.2.2.2.2.1) (by omega) (c_lall (by omega) ho (show ix a < 41 by omega) (by omega) x1 hal.2.2.2.2 (hal.1.2.2 o ho).1 (al_ln hal hN (by omega) (by omega) n1) (hal.1.2.2 _ (by omega)).1) ?_
      refine al0 dX9_addLines_21 (by first | nofun | exact xrv_ne _) ?_
      refine il3 dX9_addLines_22 ?_
      refine cd9_115 (f' := f - 1) rfl dX9_addLines_23 (Nat.le_of_ble_eq_true rfl) (fx0 hS.1) (by omega) (c_thing_n hS.1 (by rw [z0]; exact h8) sIn_z) ?_
      refine as5 dX9_addLines_26 (by first | nofun | exact xrv_ne _) ?_
      refine al5 dX9_addLines_28 (by first | nofun | exact xrv_ne _) ?_
      refine ex_ifnullN 42 dX9_addLines_30 (by decide) ?_
      refine ex_vret dX9_addLines_42 rfl ?_
      exact ⟨rfl, rfl, rfl, hd1, hal1⟩
    · obtain ⟨b2, q2, r2, s2, k2, l2, n2, e2, u2, w2⟩ := al_src hS hN hb
      have x2 := hqf _ _ _ u2 w2 r2 l2
      obtain ⟨hal1, hd1⟩ := al_step hal hN ho (by omega) u1 (by omega) n1 x1
      rw [← e1] at hal1
      have z0 := hd1 0 (by omega) (by omega)
      have y1 : q2 ≠ q + 1 := xis_xia n2.1 hal.2.2.2.2.2.2.1 (by decide)
      have y2 : q2 + 1 ≠ q := Ne.symm (xis_xia hal.2.2.2.2.1 n2.2.2.1 (by decide))
      have n3 : ln (cLall D q F o (ix a) 0 (ix (F 13 (ix a)))) R G q2 E (ix b) := n2.same (hd1 _ x2 y1) (hd1 _ y2 (by omega)) rfl (fun _ _ => rfl) (Nat.le_trans (hN.2.2 _ (by omega)).1.le (by decide))
      obtain ⟨hal2, hd2⟩ := al_step hal1 hN ho (by omega) u2 (by omega) n3 x2
      rw [← e2] at hal2
      refine al0 dX9_addLines_0 (by first | nofun | exact xrv_ne _) ?_
      refine il2 dX9_addLines_1 ?_
      refine cd9_115 (f' := f - 1) rfl dX9_addLines_2 (Nat.le_of_ble_eq_true rfl) (fx0 hS.1) (by omega) (c_thing_y hS.1 h8 s1 r1) ?_
      refine as4 dX9_addLines_5 (by first | nofun | exact xrv_ne _) ?_
      refine al4 dX9_addLines_7 (by first | nofun | exact xrv_ne _) ?_
      refine ex_ifnull dX9_addLines_9 ?_
      refine al1 dX9_addLines_12 (by first | nofun | exact xrv_ne _) ?_
      refine al4 dX9_addLines_13 (by first | nofun | exact xrv_ne _) ?_
      refine gf9_210 rfl dX9_addLines_15 (l1) (k1) ?_
      refine cd9_254 (f' := f - 1) rfl dX9_addLines_18 (Nat.le_of_ble_eq_true rfl) (hal.2.2.2.2.1) (by omega) (c_lall (by omega) ho (show ix a < 41 by omega) (by omega) x1 hal.2.2.2.2 (hal.1.2.2 o ho).1 (al_ln hal hN (by omega) (by omega) n1) (hal.1.2.2 _ (by omega)).1) ?_
      refine al0 dX9_addLines_21 (by first | nofun | exact xrv_ne _) ?_
      refine il3 dX9_addLines_22 ?_
      refine cd9_115 (f' := f - 1) rfl dX9_addLines_23 (Nat.le_of_ble_eq_true rfl) (fx0 hS.1) (by omega) (c_thing_y hS.1 (by rw [z0]; exact h8) (by rw [z0]; exact s2) r2) ?_
      refine as5 dX9_addLines_26 (by first | nofun | exact xrv_ne _) ?_
      refine al5 dX9_addLines_28 (by first | nofun | exact xrv_ne _) ?_
      refine ex_ifnull dX9_addLines_30 ?_
      refine al1 dX9_addLines_33 (by first | nofun | exact xrv_ne _) ?_
      refine al5 dX9_addLines_34 (by first | nofun | exact xrv_ne _) ?_
      refine gf9_210 rfl dX9_addLines_36 (l2) (k2) ?_
      refine cd9_254 (f' := f - 1) rfl dX9_addLines_39 (Nat.le_of_ble_eq_true rfl) (hal.2.2.2.2.1) (by omega) (c_lall (by omega) ho (show ix b < 41 by omega) (by omega) x2 hal1.2.2.2.2 (hal1.1.2.2 o ho).1 (al_ln hal1 hN (by omega) (by omega) n3) (hal1.1.2.2 _ (by omega)).1) ?_
      refine ex_vret dX9_addLines_42 rfl ?_
      exact ⟨rfl, rfl, rfl, fun p a b => (hd2 p a b).trans (hd1 p a b), hal2⟩
