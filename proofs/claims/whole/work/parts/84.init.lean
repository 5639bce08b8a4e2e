/-! ===== THE START: the two constructors lay the fixed cells ===== -/
def pk3 (q : Nat) : Prop := (fxK q).1 < 16 ∨ 19 ≤ (fxK q).1
def St (n : Nat) (r : xR) (d : xD) (G : xG) (D : xD) (R : xR) : Prop := G.1 = n ∧ (∀ q, q < n → G.2 q = fxK q ∧ D q = d q) ∧ ∀ q, q < n → pk3 q → R q = r q
theorem St.is {n q c : Nat} {r R : xR} {d D : xD} {G : xG} (h : St n r d G D R) (hq : q < n) (hk : fxK q = (c, 0)) : xis G q c := ⟨by rw [h.1]; exact hq, by rw [(h.2.1 q hq).1, hk]⟩
theorem St.new {n : Nat} {k : Nat × Nat} {r R : xR} {d D : xD} {G : xG} (h : St n r d G D R) (hk : fxK n = k) (hd : d n = fun _ => 0) (hr : r n = fun _ => none) : St (n + 1) r d (gP G k) (dP D G) (rP R G) := by
  obtain ⟨a, b, c⟩ := h
  refine ⟨by rw [← a], fun q hq => ?_, fun q hq hp => ?_⟩
  · show va_up G.2 G.1 k q = fxK q ∧ va_up D G.1 (fun _ => 0) q = d q
    rw [a]
    by_cases e : q = n
    · rw [e, va_up_self, va_up_self, hk, hd]
      exact ⟨rfl, rfl⟩
    · rw [va_up_ne _ _ e, va_up_ne _ _ e]
      exact b q (by omega)
  · show va_up R G.1 (fun _ => none) q = r q
    rw [a]
    by_cases e : q = n
    · rw [e, va_up_self, hr]
    · rw [va_up_ne _ _ e]
      exact c q (by omega) hp
theorem St.ref {n q k : Nat} {o : Option Nat} {r R : xR} {d D : xD} {G : xG} (h : St n r d G D R) : St n (xru r q k o) d G D (xru R q k o) := by
  obtain ⟨a, b, c⟩ := h
  refine ⟨a, b, fun p hp hk => ?_⟩
  by_cases e : p = q
  · subst e
    rw [xr_self, xr_self, c p hp hk]
  · rw [xr_ne e, xr_ne e]
    exact c p hp hk
theorem St.int {n q k : Nat} {x : Int32} {r R : xR} {d D : xD} {G : xG} (h : St n r d G D R) : St n r (xdu d q k x) G (xdu D q k x) R := by
  obtain ⟨a, b, c⟩ := h
  refine ⟨a, fun p hp => ⟨(b p hp).1, ?_⟩, c⟩
  by_cases e : p = q
  · subst e
    rw [xdu_self, xdu_self, (b p hp).2]
  · rw [xdu_ne _ _ _ e, xdu_ne _ _ _ e]
    exact (b p hp).2
theorem St.gr {n m q : Nat} {r r' R R' : xR} {d d' D D' : xD} {G G' : xG} (h : St n r d G D R) (g : Gr m q D D' R R' G G') (hd : D' q = d' q) (hd' : ∀ p, p ≠ q → d' p = d p) (hr : R' q = r' q) (hr' : ∀ p, p ≠ q → r' p = r p) (hk : ∀ i, i < m → G'.2 (n + i) = fxK (n + i) ∧ D' (n + i) = d' (n + i) ∧ ¬ pk3 (n + i)) : St (n + m) r' d' G' D' R' := by
  obtain ⟨a, b, c⟩ := h
  refine ⟨by rw [g.1, a], fun p hp => ?_, fun p hp hpk => ?_⟩
  · by_cases e : p < n
    · rw [g.2.1 p (by omega)]
      refine ⟨(b p e).1, ?_⟩
      by_cases z : p = q
      · rw [z, hd]
      · rw [hd' p z, (g.2.2 p (by omega) z).1]
        exact (b p e).2
    · have := hk (p - n) (by omega)
      rw [show n + (p - n) = p by omega] at this
      exact ⟨this.1, this.2.1⟩
  · by_cases e : p < n
    · by_cases z : p = q
      · rw [z, hr]
      · rw [hr' p z, (g.2.2 p (by omega) z).2]
        exact c p e hpk
    · have := hk (p - n) (by omega)
      rw [show n + (p - n) = p by omega] at this
      exact absurd hpk this.2.2
theorem npk {q t n : Nat} (h : fxK q = (16 + t, n)) (ht : t < 3) : ¬ pk3 q := by
  unfold pk3
  rw [h]
  show ¬ (16 + t < 16 ∨ 19 ≤ 16 + t)
  omega
section SG
variable {Γ : xGm} {l : Launch} {f : Nat} {μ : xMt} {pc : Nat} {L : List (Option Value)} {st : List Value} {G : xG} {D : xD} {R : xR} {kc kw : Nat} {Q : Option Value → xG → xD → xR → Prop}
theorem st_gen {n : Nat} {k : Nat × Nat} {r : xR} {d : xD} (h : St n r d G D R) (hk : fxK n = k) (hd : d n = fun _ => 0) (hr : r n = fun _ => none) (kk : ∀ G' D' R', St (n + 1) r d G' D' R' → Ex Γ l f μ pc L (.ref n :: st) G' D' R' kc kw Q) : Ex Γ l f μ pc L (.ref G.1 :: st) (G.1 + 1, va_up G.2 G.1 k) (va_up D G.1 (fun _ => 0)) (va_up R G.1 (fun _ => none)) kc kw Q := by
  have := kk _ _ _ (h.new hk hd hr)
  rw [← h.1] at this
  exact this
theorem st_put {n q k : Nat} {o : Option Nat} {r : xR} {d : xD} (h : St n r d G D R) (kk : ∀ R', St n (xru r q k o) d G D R' → Ex Γ l f μ pc L st G D R' kc kw Q) : Ex Γ l f μ pc L st G D (xru R q k o) kc kw Q := kk _ h.ref
end SG
set_option maxRecDepth 20000 in
set_option maxHeartbeats 1000000 in
theorem c_in0 {Γ : xGm} {l : Launch} {f : Nat} {G : xG} {D : xD} {R : xR} (hf : 1 ≤ f) {q : Nat} (hq : xis G q 0) {s : Int32} (hs : s = 0 ∨ s = 1) : Cn Γ l f MX0_init [.ref q, .int s] G D R 3 90 (fun v G' D' R' => v = none ∧ Gr 3 q D D' R R' G G' ∧ D' q = upd (D q) 3 s ∧ D' G.1 = (fun _ => 0) ∧ D' (G.1 + 1) = (fun _ => 0) ∧ D' (G.1 + 2) = (fun _ => 0) ∧ R' q = va_up (va_up (va_up (R q) 0 (some G.1)) 1 (some (G.1 + 1))) 2 (some (G.1 + 2)) ∧ xia G' G.1 0 30 ∧ xia G' (G.1 + 1) 0 30 ∧ xia G' (G.1 + 2) 0 30) := by
  refine cn_of MX0_init_ok (Nat.le_of_ble_eq_true rfl) ?_
  show Ex Γ l f MX0_init 0 [some (.ref q), some (.int s)] [] G D R 3 90 _
  refine al0 dX0_init_0 (by first | nofun | exact xrv_ne _) ?_
  refine oi0_3 rfl dX0_init_1 (Nat.le_of_ble_eq_true rfl) (by omega) ?_
  refine al0 dX0_init_4 (by first | nofun | exact xrv_ne _) ?_
  refine ex_bipush (v := 30) dX0_init_5 (by decide) ?_
  refine ex_newa (t := 0) (n := 30) (kc1 := 2) (kw1 := 60) dX0_init_7 rfl (by decide) xac0 (by decide) (by decide) (by decide) (by omega) (by omega) ?_
  refine pf0_9 (some _) rfl rfl dX0_init_9 rfl (fun r hr => by cases hr; exact Nat.lt_succ_self _) ((xis_g hq)) ?_
  refine al0 dX0_init_12 (by first | nofun | exact xrv_ne _) ?_
  refine ex_bipush (v := 30) dX0_init_13 (by decide) ?_
  refine ex_newa (t := 0) (n := 30) (kc1 := 1) (kw1 := 30) dX0_init_15 rfl (by decide) xac0 (by decide) (by decide) (by decide) (by omega) (by omega) ?_
  refine pf0_15 (some _) rfl rfl dX0_init_17 rfl (fun r hr => by cases hr; exact Nat.lt_succ_self _) ((xis_g (xis_g hq))) ?_
  refine al0 dX0_init_20 (by first | nofun | exact xrv_ne _) ?_
  refine ex_bipush (v := 30) dX0_init_21 (by decide) ?_
  refine ex_newa (t := 0) (n := 30) (kc1 := 0) (kw1 := 0) dX0_init_23 rfl (by decide) xac0 (by decide) (by decide) (by decide) (by omega) (by omega) ?_
  refine pf0_18 (some _) rfl rfl dX0_init_25 rfl (fun r hr => by cases hr; exact Nat.lt_succ_self _) ((xis_g (xis_g (xis_g hq)))) ?_
  refine al0 dX0_init_28 (by first | nofun | exact xrv_ne _) ?_
  refine il1 dX0_init_29 ?_
  refine pf0_21 rfl rfl dX0_init_30 hs ((xis_g (xis_g (xis_g hq)))) ?_
  refine ex_vret dX0_init_33 rfl ?_
  obtain ⟨a, b, c, d⟩ := Gr.arr (D := D) (R := R) (k := (16 + 0, 30)) (j := 0) hq.1
  obtain ⟨a2, b2, c2, d2⟩ := Gr.arr (D := dP D G) (R := xru (rP R G) q 0 (some G.1)) (G := gP G (16 + 0, 30)) (k := (16 + 0, 30)) (j := 1) (Nat.lt_succ_of_lt hq.1)
  obtain ⟨a3, b3, c3, d3⟩ := Gr.arr (D := dP (dP D G) (gP G (16 + 0, 30))) (R := xru (rP (xru (rP R G) q 0 (some G.1)) (gP G (16 + 0, 30))) q 1 (some (G.1 + 1))) (G := gP (gP G (16 + 0, 30)) (16 + 0, 30)) (k := (16 + 0, 30)) (j := 2) (Nat.lt_succ_of_lt (Nat.lt_succ_of_lt hq.1))
  have g1 : G.1 < G.1 + 1 + 1 := by omega
  have hq1 := hq.1
  have gg := (a.tr a2).tr a3
  refine ⟨rfl, ⟨gg.1, gg.2.1, fun p hp hpq => ⟨by rw [xdu_ne _ _ _ hpq]; exact (gg.2.2 p hp hpq).1, (gg.2.2 p hp hpq).2⟩⟩, ?_, ?_, ?_, ?_, by rw [d3, d2, d], xia_g (xia_g xia_n), xia_g xia_n, xia_n⟩
  · rw [xdu_self]
    exact congrArg (fun z => upd z 3 s) ((b3.trans b2).trans b)
  · rw [xdu_ne _ _ _ (by omega)]
    exact ((a3.2.2 G.1 g1 (by omega)).1.trans (a2.2.2 G.1 (Nat.lt_succ_self _) (by omega)).1).trans c
  · rw [xdu_ne _ _ _ (by omega)]
    exact (a3.2.2 (G.1 + 1) (Nat.lt_succ_self _) (by omega)).1.trans c2
  · rw [xdu_ne _ _ _ (by omega)]
    exact c3
def sB (s : Int32) : Int32 := if s = 0 then 0 else 1
set_option maxRecDepth 20000 in
set_option maxHeartbeats 1000000 in
theorem c_in9 {Γ : xGm} {l : Launch} {f : Nat} {G : xG} {D : xD} {R : xR} (hf : 2 ≤ f) {s : Int32} (s1 : St 1 (fun _ _ => none) (fun _ _ => 0) G D R) : Cn Γ l f MX9_init [.ref 0, .int s] G D R 16 775 (fun v G' D' R' => v = none ∧ ∃ r, St 17 r (xdu (fun _ _ => 0) 13 3 (sB s)) G' D' R' ∧ (∀ w ∈ fxR, w.1 < 17 → r w.1 w.2.1 = some w.2.2) ∧ r 0 7 = some 11 ∧ r 11 0 = some 12 ∧ (∀ k, r 1 k = none ∧ r 2 k = none ∧ r 3 k = none ∧ r 4 k = none) ∧ ∀ q, 17 ≤ q → r q = fun _ => none) := by
  refine cn_of MX9_init_ok (Nat.le_of_ble_eq_true rfl) ?_
  show Ex Γ l f MX9_init 0 [some (.ref 0), some (.int s)] [] G D R 16 775 _
  refine al0 dX9_init_0 (by first | nofun | exact xrv_ne _) ?_
  refine oi9_1 rfl dX9_init_1 (Nat.le_of_ble_eq_true rfl) (by omega) ?_
  refine al0 dX9_init_4 (by first | nofun | exact xrv_ne _) ?_
  refine ex_bipush (v := 40) dX9_init_5 (by decide) ?_
  refine na9_9 (n := 40) (kc1 := 15) (kw1 := 735) rfl dX9_init_7 (by decide) (by decide) (by decide) (by omega) (by omega) ?_
  refine st_gen (n := 1) s1 rfl rfl rfl ?_
  intro G2 D2 R2 t2
  change St 2 _ _ _ _ _ at t2
  refine pf9_11 (some 1) rfl rfl dX9_init_10 rfl (fun r hr => by cases hr; rw [t2.1]; decide) ((t2.is (q := 0) (by decide) rfl)) ?_
  refine st_put t2 ?_
  intro P1 s2
  refine al0 dX9_init_13 (by first | nofun | exact xrv_ne _) ?_
  refine ex_bipush (v := 20) dX9_init_14 (by decide) ?_
  refine na9_15 (n := 20) (kc1 := 14) (kw1 := 715) rfl dX9_init_16 (by decide) (by decide) (by decide) (by omega) (by omega) ?_
  refine st_gen (n := 2) s2 rfl rfl rfl ?_
  intro G3 D3 R3 t3
  change St 3 _ _ _ _ _ at t3
  refine pf9_17 (some 2) rfl rfl dX9_init_19 rfl (fun r hr => by cases hr; rw [t3.1]; decide) ((t3.is (q := 0) (by decide) rfl)) ?_
  refine st_put t3 ?_
  intro P2 s3
  refine al0 dX9_init_22 (by first | nofun | exact xrv_ne _) ?_
  refine ex_bipush (v := 20) dX9_init_23 (by decide) ?_
  refine na9_21 (n := 20) (kc1 := 13) (kw1 := 695) rfl dX9_init_25 (by decide) (by decide) (by decide) (by omega) (by omega) ?_
  refine st_gen (n := 3) s3 rfl rfl rfl ?_
  intro G4 D4 R4 t4
  change St 4 _ _ _ _ _ at t4
  refine pf9_23 (some 3) rfl rfl dX9_init_28 rfl (fun r hr => by cases hr; rw [t4.1]; decide) ((t4.is (q := 0) (by decide) rfl)) ?_
  refine st_put t4 ?_
  intro P3 s4
  refine al0 dX9_init_31 (by first | nofun | exact xrv_ne _) ?_
  refine ex_bipush (v := 10) dX9_init_32 (by decide) ?_
  refine na9_27 (n := 10) (kc1 := 12) (kw1 := 685) rfl dX9_init_34 (by decide) (by decide) (by decide) (by omega) (by omega) ?_
  refine st_gen (n := 4) s4 rfl rfl rfl ?_
  intro G5 D5 R5 t5
  change St 5 _ _ _ _ _ at t5
  refine pf9_29 (some 4) rfl rfl dX9_init_37 rfl (fun r hr => by cases hr; rw [t5.1]; decide) ((t5.is (q := 0) (by decide) rfl)) ?_
  refine st_put t5 ?_
  intro P4 s5
  refine al0 dX9_init_40 (by first | nofun | exact xrv_ne _) ?_
  refine nw9_33 (kc1 := 11) (kw1 := 682) rfl dX9_init_41 (by omega) (by omega) ?_
  refine st_gen (n := 5) s5 rfl rfl rfl ?_
  intro G6 D6 R6 w6
  change St 6 _ _ _ _ _ at w6
  refine ex_dup dX9_init_44 ?_
  refine cs9_35 (f' := f - 1) rfl dX9_init_45 (Nat.le_of_ble_eq_true rfl) (by omega) (by omega) (by omega) (c_in7 (by omega) (w6.is (q := 5) (by decide) rfl)) ?_
  rintro v5 H5 E5 F5 ⟨rfl, g5, c1, c2, c3, c4, c5, c6, c7, c8⟩
  have e5 : H5.1 = 9 := by rw [g5.1, w6.1]
  rw [w6.1] at c2 c3 c4 c5 c6 c7 c8
  have y5 := St.gr (n := 6) (m := 3) (r' := (xru (xru (xru _ 5 0 (some 6)) 5 1 (some 7)) 5 2 (some 8))) (d' := _) w6 g5 (c1.trans (w6.2.1 5 (by decide)).2) (fun _ _ => rfl) (c5.trans (congrArg (fun z => va_up (va_up (va_up z 0 (some 6)) 1 (some 7)) 2 (some 8)) (w6.2.2 5 (by decide) (Or.inl (by decide))))) (fun p hp => by rw [xr_ne hp, xr_ne hp, xr_ne hp]) (fun i hi => by
    rcases i with _ | _ | _ | i
    · exact ⟨c6.2.trans rfl, c2, npk (t := 0) rfl (by decide)⟩
    · exact ⟨c7.2.trans rfl, c3, npk (t := 0) rfl (by decide)⟩
    · exact ⟨c8.2.trans rfl, c4, npk (t := 0) rfl (by decide)⟩
    · omega)
  change St 9 _ _ _ _ _ at y5
  refine pf9_36 (some 5) rfl rfl dX9_init_48 rfl (fun r hr => by cases hr; rw [y5.1]; decide) ((y5.is (q := 0) (by decide) rfl)) ?_
  refine st_put y5 ?_
  intro P5 s9
  refine al0 dX9_init_51 (by first | nofun | exact xrv_ne _) ?_
  refine nw9_40 (kc1 := 7) (kw1 := 557) rfl dX9_init_52 (by omega) (by omega) ?_
  refine st_gen (n := 9) s9 rfl rfl rfl ?_
  intro G10 D10 R10 w10
  change St 10 _ _ _ _ _ at w10
  refine ex_dup dX9_init_55 ?_
  refine cs9_42 (f' := f - 1) rfl dX9_init_56 (Nat.le_of_ble_eq_true rfl) (by omega) (by omega) (by omega) (c_in2 (by omega) (w10.is (q := 9) (by decide) rfl)) ?_
  rintro v9 H9 E9 F9 ⟨rfl, g9, c1, c2, c3, c4⟩
  have e9 : H9.1 = 11 := by rw [g9.1, w10.1]
  rw [w10.1] at c2 c3 c4
  have y9 := St.gr (n := 10) (m := 1) (r' := (xru _ 9 0 (some 10))) (d' := _) w10 g9 (c1.trans (w10.2.1 9 (by decide)).2) (fun _ _ => rfl) (c3.trans (congrArg (fun z => va_up z 0 (some 10)) (w10.2.2 9 (by decide) (Or.inl (by decide))))) (fun p hp => by rw [xr_ne hp]) (fun i hi => by
    rcases i with _ | i
    · exact ⟨c4.2.trans rfl, c2, npk (t := 1) rfl (by decide)⟩
    · omega)
  change St 11 _ _ _ _ _ at y9
  refine pf9_43 (some 9) rfl rfl dX9_init_59 rfl (fun r hr => by cases hr; rw [y9.1]; decide) ((y9.is (q := 0) (by decide) rfl)) ?_
  refine st_put y9 ?_
  intro P9 s11
  refine al0 dX9_init_62 (by first | nofun | exact xrv_ne _) ?_
  refine nw9_15 (kc1 := 5) (kw1 := 155) rfl dX9_init_63 (by omega) (by omega) ?_
  refine st_gen (n := 11) s11 rfl rfl rfl ?_
  intro G12 D12 R12 w12
  change St 12 _ _ _ _ _ at w12
  refine ex_dup dX9_init_66 ?_
  refine cs9_47 (f' := f - 1) rfl dX9_init_67 (Nat.le_of_ble_eq_true rfl) (by omega) (by omega) (by omega) (c_in5 (by omega) (w12.is (q := 11) (by decide) rfl)) ?_
  rintro v11 H11 E11 F11 ⟨rfl, g11, c1, c2, c3, c4⟩
  have e11 : H11.1 = 13 := by rw [g11.1, w12.1]
  rw [w12.1] at c2 c3 c4
  have y11 := St.gr (n := 12) (m := 1) (r' := (xru _ 11 0 (some 12))) (d' := _) w12 g11 (c1.trans (w12.2.1 11 (by decide)).2) (fun _ _ => rfl) (c3.trans (congrArg (fun z => va_up z 0 (some 12)) (w12.2.2 11 (by decide) (Or.inl (by decide))))) (fun p hp => by rw [xr_ne hp]) (fun i hi => by
    rcases i with _ | i
    · exact ⟨c4.2.trans rfl, c2, npk (t := 1) rfl (by decide)⟩
    · omega)
  change St 13 _ _ _ _ _ at y11
  refine pf9_48 (some 11) rfl dX9_init_70 rfl (fun r hr => by cases hr; rw [y11.1]; decide) ((y11.is (q := 0) (by decide) rfl)) ?_
  refine st_put y11 ?_
  intro P11 s13
  refine al0 dX9_init_73 (by first | nofun | exact xrv_ne _) ?_
  refine nw9_52 (kc1 := 3) (kw1 := 130) rfl dX9_init_74 (by omega) (by omega) ?_
  refine st_gen (n := 13) s13 rfl rfl rfl ?_
  intro G14 D14 R14 w14
  change St 14 _ _ _ _ _ at w14
  refine ex_dup dX9_init_77 ?_
  refine il1 dX9_init_78 ?_
  refine ex_if_eq 86 dX9_init_79 (by decide) (fun h79 => ?_) (fun h79 => ?_)
  · have hb : (0 : Int32) = sB s := (if_pos h79).symm
    refine ex_iconst (v := 0) dX9_init_86 (by decide) ?_
    refine cs9_54 (f' := f - 1) rfl dX9_init_87 (Nat.le_of_ble_eq_true rfl) (by omega) (by omega) (by omega) (c_in0 (by omega) (w14.is (q := 13) (by decide) rfl) (by first | exact Or.inl rfl | exact Or.inr rfl)) ?_
    rintro v13 H13 E13 F13 ⟨rfl, g13, c1, c2, c3, c4, c5, c6, c7, c8⟩
    have e13 : H13.1 = 17 := by rw [g13.1, w14.1]
    rw [w14.1] at c2 c3 c4 c5 c6 c7 c8
    have y13 := St.gr (n := 14) (m := 3) (r' := (xru (xru (xru _ 13 0 (some 14)) 13 1 (some 15)) 13 2 (some 16))) (d' := xdu (fun _ _ => 0) 13 3 (sB s)) w14 g13 (by
      rw [c1, xdu_self, ← hb]
      exact congrArg (fun z => upd z 3 _) (w14.2.1 13 (by decide)).2) (fun p hp => xdu_ne _ _ _ hp) (c5.trans (congrArg (fun z => va_up (va_up (va_up z 0 (some 14)) 1 (some 15)) 2 (some 16)) (w14.2.2 13 (by decide) (Or.inl (by decide))))) (fun p hp => by rw [xr_ne hp, xr_ne hp, xr_ne hp]) (fun i hi => by
      rcases i with _ | _ | _ | i
      · exact ⟨c6.2.trans rfl, c2, npk (t := 0) rfl (by decide)⟩
      · exact ⟨c7.2.trans rfl, c3, npk (t := 0) rfl (by decide)⟩
      · exact ⟨c8.2.trans rfl, c4, npk (t := 0) rfl (by decide)⟩
      · omega)
    change St 17 _ _ _ _ _ at y13
    refine pf9_57 (some 13) rfl rfl dX9_init_90 rfl (fun r hr => by cases hr; rw [y13.1]; decide) ((y13.is (q := 0) (by decide) rfl)) ?_
    refine st_put y13 ?_
    intro P13 s17
    refine ex_vret dX9_init_93 rfl ?_
    exact ⟨rfl, _, s17, by decide, rfl, rfl, fun k => ⟨rfl, rfl, rfl, rfl⟩, fun q hq => by rw [xr_ne (show q ≠ 0 by omega), xr_ne (show q ≠ 13 by omega), xr_ne (show q ≠ 13 by omega), xr_ne (show q ≠ 13 by omega), xr_ne (show q ≠ 0 by omega), xr_ne (show q ≠ 11 by omega), xr_ne (show q ≠ 0 by omega), xr_ne (show q ≠ 9 by omega), xr_ne (show q ≠ 0 by omega), xr_ne (show q ≠ 5 by omega), xr_ne (show q ≠ 5 by omega), xr_ne (show q ≠ 5 by omega), xr_ne (show q ≠ 0 by omega), xr_ne (show q ≠ 0 by omega), xr_ne (show q ≠ 0 by omega), xr_ne (show q ≠ 0 by omega)]⟩
  · have hb : (1 : Int32) = sB s := (if_neg h79).symm
    refine ex_iconst (v := 1) dX9_init_82 (by decide) ?_
    refine ex_goto 87 dX9_init_83 (by decide) ?_
    refine cs9_54 (f' := f - 1) rfl dX9_init_87 (Nat.le_of_ble_eq_true rfl) (by omega) (by omega) (by omega) (c_in0 (by omega) (w14.is (q := 13) (by decide) rfl) (by first | exact Or.inl rfl | exact Or.inr rfl)) ?_
    rintro v13 H13 E13 F13 ⟨rfl, g13, c1, c2, c3, c4, c5, c6, c7, c8⟩
    have e13 : H13.1 = 17 := by rw [g13.1, w14.1]
    rw [w14.1] at c2 c3 c4 c5 c6 c7 c8
    have y13 := St.gr (n := 14) (m := 3) (r' := (xru (xru (xru _ 13 0 (some 14)) 13 1 (some 15)) 13 2 (some 16))) (d' := xdu (fun _ _ => 0) 13 3 (sB s)) w14 g13 (by
      rw [c1, xdu_self, ← hb]
      exact congrArg (fun z => upd z 3 _) (w14.2.1 13 (by decide)).2) (fun p hp => xdu_ne _ _ _ hp) (c5.trans (congrArg (fun z => va_up (va_up (va_up z 0 (some 14)) 1 (some 15)) 2 (some 16)) (w14.2.2 13 (by decide) (Or.inl (by decide))))) (fun p hp => by rw [xr_ne hp, xr_ne hp, xr_ne hp]) (fun i hi => by
      rcases i with _ | _ | _ | i
      · exact ⟨c6.2.trans rfl, c2, npk (t := 0) rfl (by decide)⟩
      · exact ⟨c7.2.trans rfl, c3, npk (t := 0) rfl (by decide)⟩
      · exact ⟨c8.2.trans rfl, c4, npk (t := 0) rfl (by decide)⟩
      · omega)
    change St 17 _ _ _ _ _ at y13
    refine pf9_57 (some 13) rfl rfl dX9_init_90 rfl (fun r hr => by cases hr; rw [y13.1]; decide) ((y13.is (q := 0) (by decide) rfl)) ?_
    refine st_put y13 ?_
    intro P13 s17
    refine ex_vret dX9_init_93 rfl ?_
    exact ⟨rfl, _, s17, by decide, rfl, rfl, fun k => ⟨rfl, rfl, rfl, rfl⟩, fun q hq => by rw [xr_ne (show q ≠ 0 by omega), xr_ne (show q ≠ 13 by omega), xr_ne (show q ≠ 13 by omega), xr_ne (show q ≠ 13 by omega), xr_ne (show q ≠ 0 by omega), xr_ne (show q ≠ 11 by omega), xr_ne (show q ≠ 0 by omega), xr_ne (show q ≠ 9 by omega), xr_ne (show q ≠ 0 by omega), xr_ne (show q ≠ 5 by omega), xr_ne (show q ≠ 5 by omega), xr_ne (show q ≠ 5 by omega), xr_ne (show q ≠ 0 by omega), xr_ne (show q ≠ 0 by omega), xr_ne (show q ≠ 0 by omega), xr_ne (show q ≠ 0 by omega)]⟩
set_option maxRecDepth 20000 in
set_option maxHeartbeats 4000000 in
theorem c_in10 {Γ : xGm} {l : Launch} {f : Nat} {G : xG} {D d : xD} {R r : xR} (hf : 1 ≤ f) {s : Int32} (s18 : St 18 r d G D R) (hd : ∀ q, 17 ≤ q → d q = fun _ => 0) (hr : ∀ q, 17 ≤ q → r q = fun _ => none) : Cn Γ l f MX10_init [.ref 17, .int s] G D R 29 6290 (fun v G' D' R' => v = none ∧ ∃ r', St 47 r' (xdu d 17 0 (sB s)) G' D' R' ∧ (∀ w ∈ fxR, w.1 = 17 → r' w.1 w.2.1 = some w.2.2) ∧ ∀ q, q ≠ 17 → r' q = r q) := by
  refine cn_of MX10_init_ok (Nat.le_of_ble_eq_true rfl) ?_
  show Ex Γ l f MX10_init 0 [some (.ref 17), some (.int s)] [] G D R 29 6290 _
  refine al0 dX10_init_0 (by first | nofun | exact xrv_ne _) ?_
  refine oi10_1 rfl dX10_init_1 (Nat.le_of_ble_eq_true rfl) (by omega) ?_
  refine al0 dX10_init_4 (by first | nofun | exact xrv_ne _) ?_
  refine ex_bipush (v := 20) dX10_init_5 (by decide) ?_
  refine ex_newa (t := 0) (n := 20) (kc1 := 28) (kw1 := 6270) dX10_init_7 rfl (by decide) xac0 (by decide) (by decide) (by decide) (by omega) (by omega) ?_
  refine st_gen (n := 18) s18 rfl (hd 18 (by decide)) (by first | exact hr 18 (by decide) | (rw [id_eq]; exact hr 18 (by decide))) ?_
  intro G19 D19 R19 t19
  change St 19 _ _ _ _ _ at t19
  refine pf10_7 (some 18) rfl rfl dX10_init_9 rfl (fun r hr => by cases hr; rw [t19.1]; decide) ((t19.is (q := 17) (by decide) rfl)) ?_
  refine st_put t19 ?_
  intro P18 s19
  refine al0 dX10_init_12 (by first | nofun | exact xrv_ne _) ?_
  refine ex_bipush (v := 20) dX10_init_13 (by decide) ?_
  refine ex_newa (t := 0) (n := 20) (kc1 := 27) (kw1 := 6250) dX10_init_15 rfl (by decide) xac0 (by decide) (by decide) (by decide) (by omega) (by omega) ?_
  refine st_gen (n := 19) s19 rfl (hd 19 (by decide)) (by first | exact hr 19 (by decide) | (rw [xr_ne (by decide)]; exact hr 19 (by decide))) ?_
  intro G20 D20 R20 t20
  change St 20 _ _ _ _ _ at t20
  refine pf10_13 (some 19) rfl rfl dX10_init_17 rfl (fun r hr => by cases hr; rw [t20.1]; decide) ((t20.is (q := 17) (by decide) rfl)) ?_
  refine st_put t20 ?_
  intro P19 s20
  refine al0 dX10_init_20 (by first | nofun | exact xrv_ne _) ?_
  refine ex_sipush (v := 400) dX10_init_21 (by decide) ?_
  refine ex_newa (t := 0) (n := 400) (kc1 := 26) (kw1 := 5850) dX10_init_24 rfl (by decide) xac0 (by decide) (by decide) (by decide) (by omega) (by omega) ?_
  refine st_gen (n := 20) s20 rfl (hd 20 (by decide)) (by first | exact hr 20 (by decide) | (rw [xr_ne (by decide), xr_ne (by decide)]; exact hr 20 (by decide))) ?_
  intro G21 D21 R21 t21
  change St 21 _ _ _ _ _ at t21
  refine pf10_16 (some 20) rfl rfl dX10_init_26 rfl (fun r hr => by cases hr; rw [t21.1]; decide) ((t21.is (q := 17) (by decide) rfl)) ?_
  refine st_put t21 ?_
  intro P20 s21
  refine al0 dX10_init_29 (by first | nofun | exact xrv_ne _) ?_
  refine ex_bipush (v := 20) dX10_init_30 (by decide) ?_
  refine ex_newa (t := 0) (n := 20) (kc1 := 25) (kw1 := 5830) dX10_init_32 rfl (by decide) xac0 (by decide) (by decide) (by decide) (by omega) (by omega) ?_
  refine st_gen (n := 21) s21 rfl (hd 21 (by decide)) (by first | exact hr 21 (by decide) | (rw [xr_ne (by decide), xr_ne (by decide), xr_ne (by decide)]; exact hr 21 (by decide))) ?_
  intro G22 D22 R22 t22
  change St 22 _ _ _ _ _ at t22
  refine pf10_19 (some 21) rfl rfl dX10_init_34 rfl (fun r hr => by cases hr; rw [t22.1]; decide) ((t22.is (q := 17) (by decide) rfl)) ?_
  refine st_put t22 ?_
  intro P21 s22
  refine al0 dX10_init_37 (by first | nofun | exact xrv_ne _) ?_
  refine ex_sipush (v := 160) dX10_init_38 (by decide) ?_
  refine ex_newa (t := 0) (n := 160) (kc1 := 24) (kw1 := 5670) dX10_init_41 rfl (by decide) xac0 (by decide) (by decide) (by decide) (by omega) (by omega) ?_
  refine st_gen (n := 22) s22 rfl (hd 22 (by decide)) (by first | exact hr 22 (by decide) | (rw [xr_ne (by decide), xr_ne (by decide), xr_ne (by decide), xr_ne (by decide)]; exact hr 22 (by decide))) ?_
  intro G23 D23 R23 t23
  change St 23 _ _ _ _ _ at t23
  refine pf10_22 (some 22) rfl rfl dX10_init_43 rfl (fun r hr => by cases hr; rw [t23.1]; decide) ((t23.is (q := 17) (by decide) rfl)) ?_
  refine st_put t23 ?_
  intro P22 s23
  refine al0 dX10_init_46 (by first | nofun | exact xrv_ne _) ?_
  refine ex_sipush (v := 160) dX10_init_47 (by decide) ?_
  refine ex_newa (t := 0) (n := 160) (kc1 := 23) (kw1 := 5510) dX10_init_50 rfl (by decide) xac0 (by decide) (by decide) (by decide) (by omega) (by omega) ?_
  refine st_gen (n := 23) s23 rfl (hd 23 (by decide)) (by first | exact hr 23 (by decide) | (rw [xr_ne (by decide), xr_ne (by decide), xr_ne (by decide), xr_ne (by decide), xr_ne (by decide)]; exact hr 23 (by decide))) ?_
  intro G24 D24 R24 t24
  change St 24 _ _ _ _ _ at t24
  refine pf10_25 (some 23) rfl rfl dX10_init_52 rfl (fun r hr => by cases hr; rw [t24.1]; decide) ((t24.is (q := 17) (by decide) rfl)) ?_
  refine st_put t24 ?_
  intro P23 s24
  refine al0 dX10_init_55 (by first | nofun | exact xrv_ne _) ?_
  refine ex_sipush (v := 160) dX10_init_56 (by decide) ?_
  refine ex_newa (t := 0) (n := 160) (kc1 := 22) (kw1 := 5350) dX10_init_59 rfl (by decide) xac0 (by decide) (by decide) (by decide) (by omega) (by omega) ?_
  refine st_gen (n := 24) s24 rfl (hd 24 (by decide)) (by first | exact hr 24 (by decide) | (rw [xr_ne (by decide), xr_ne (by decide), xr_ne (by decide), xr_ne (by decide), xr_ne (by decide), xr_ne (by decide)]; exact hr 24 (by decide))) ?_
  intro G25 D25 R25 t25
  change St 25 _ _ _ _ _ at t25
  refine pf10_28 (some 24) rfl rfl dX10_init_61 rfl (fun r hr => by cases hr; rw [t25.1]; decide) ((t25.is (q := 17) (by decide) rfl)) ?_
  refine st_put t25 ?_
  intro P24 s25
  refine al0 dX10_init_64 (by first | nofun | exact xrv_ne _) ?_
  refine ex_bipush (v := 10) dX10_init_65 (by decide) ?_
  refine ex_newa (t := 0) (n := 10) (kc1 := 21) (kw1 := 5340) dX10_init_67 rfl (by decide) xac0 (by decide) (by decide) (by decide) (by omega) (by omega) ?_
  refine st_gen (n := 25) s25 rfl (hd 25 (by decide)) (by first | exact hr 25 (by decide) | (rw [xr_ne (by decide), xr_ne (by decide), xr_ne (by decide), xr_ne (by decide), xr_ne (by decide), xr_ne (by decide), xr_ne (by decide)]; exact hr 25 (by decide))) ?_
  intro G26 D26 R26 t26
  change St 26 _ _ _ _ _ at t26
  refine pf10_31 (some 25) rfl rfl dX10_init_69 rfl (fun r hr => by cases hr; rw [t26.1]; decide) ((t26.is (q := 17) (by decide) rfl)) ?_
  refine st_put t26 ?_
  intro P25 s26
  refine al0 dX10_init_72 (by first | nofun | exact xrv_ne _) ?_
  refine ex_bipush (v := 100) dX10_init_73 (by decide) ?_
  refine ex_newa (t := 0) (n := 100) (kc1 := 20) (kw1 := 5240) dX10_init_75 rfl (by decide) xac0 (by decide) (by decide) (by decide) (by omega) (by omega) ?_
  refine st_gen (n := 26) s26 rfl (hd 26 (by decide)) (by first | exact hr 26 (by decide) | (rw [xr_ne (by decide), xr_ne (by decide), xr_ne (by decide), xr_ne (by decide), xr_ne (by decide), xr_ne (by decide), xr_ne (by decide), xr_ne (by decide)]; exact hr 26 (by decide))) ?_
  intro G27 D27 R27 t27
  change St 27 _ _ _ _ _ at t27
  refine pf10_34 (some 26) rfl rfl dX10_init_77 rfl (fun r hr => by cases hr; rw [t27.1]; decide) ((t27.is (q := 17) (by decide) rfl)) ?_
  refine st_put t27 ?_
  intro P26 s27
  refine al0 dX10_init_80 (by first | nofun | exact xrv_ne _) ?_
  refine ex_bipush (v := 41) dX10_init_81 (by decide) ?_
  refine ex_newa (t := 2) (n := 41) (kc1 := 19) (kw1 := 5199) dX10_init_83 rfl (by decide) xac2 (by decide) (by decide) (by decide) (by omega) (by omega) ?_
  refine st_gen (n := 27) s27 rfl (hd 27 (by decide)) (by first | exact hr 27 (by decide) | (rw [xr_ne (by decide), xr_ne (by decide), xr_ne (by decide), xr_ne (by decide), xr_ne (by decide), xr_ne (by decide), xr_ne (by decide), xr_ne (by decide), xr_ne (by decide)]; exact hr 27 (by decide))) ?_
  intro G28 D28 R28 t28
  change St 28 _ _ _ _ _ at t28
  refine pf10_37 (some 27) rfl rfl dX10_init_85 rfl (fun r hr => by cases hr; rw [t28.1]; decide) ((t28.is (q := 17) (by decide) rfl)) ?_
  refine st_put t28 ?_
  intro P27 s28
  refine al0 dX10_init_88 (by first | nofun | exact xrv_ne _) ?_
  refine ex_bipush (v := 41) dX10_init_89 (by decide) ?_
  refine ex_newa (t := 2) (n := 41) (kc1 := 18) (kw1 := 5158) dX10_init_91 rfl (by decide) xac2 (by decide) (by decide) (by decide) (by omega) (by omega) ?_
  refine st_gen (n := 28) s28 rfl (hd 28 (by decide)) (by first | exact hr 28 (by decide) | (rw [xr_ne (by decide), xr_ne (by decide), xr_ne (by decide), xr_ne (by decide), xr_ne (by decide), xr_ne (by decide), xr_ne (by decide), xr_ne (by decide), xr_ne (by decide), xr_ne (by decide)]; exact hr 28 (by decide))) ?_
  intro G29 D29 R29 t29
  change St 29 _ _ _ _ _ at t29
  refine pf10_41 (some 28) rfl rfl dX10_init_93 rfl (fun r hr => by cases hr; rw [t29.1]; decide) ((t29.is (q := 17) (by decide) rfl)) ?_
  refine st_put t29 ?_
  intro P28 s29
  refine al0 dX10_init_96 (by first | nofun | exact xrv_ne _) ?_
  refine ex_bipush (v := 41) dX10_init_97 (by decide) ?_
  refine ex_newa (t := 0) (n := 41) (kc1 := 17) (kw1 := 5117) dX10_init_99 rfl (by decide) xac0 (by decide) (by decide) (by decide) (by omega) (by omega) ?_
  refine st_gen (n := 29) s29 rfl (hd 29 (by decide)) (by first | exact hr 29 (by decide) | (rw [xr_ne (by decide), xr_ne (by decide), xr_ne (by decide), xr_ne (by decide), xr_ne (by decide), xr_ne (by decide), xr_ne (by decide), xr_ne (by decide), xr_ne (by decide), xr_ne (by decide), xr_ne (by decide)]; exact hr 29 (by decide))) ?_
  intro G30 D30 R30 t30
  change St 30 _ _ _ _ _ at t30
  refine pf10_44 (some 29) rfl rfl dX10_init_101 rfl (fun r hr => by cases hr; rw [t30.1]; decide) ((t30.is (q := 17) (by decide) rfl)) ?_
  refine st_put t30 ?_
  intro P29 s30
  refine al0 dX10_init_104 (by first | nofun | exact xrv_ne _) ?_
  refine ex_bipush (v := 41) dX10_init_105 (by decide) ?_
  refine ex_newa (t := 0) (n := 41) (kc1 := 16) (kw1 := 5076) dX10_init_107 rfl (by decide) xac0 (by decide) (by decide) (by decide) (by omega) (by omega) ?_
  refine st_gen (n := 30) s30 rfl (hd 30 (by decide)) (by first | exact hr 30 (by decide) | (rw [xr_ne (by decide), xr_ne (by decide), xr_ne (by decide), xr_ne (by decide), xr_ne (by decide), xr_ne (by decide), xr_ne (by decide), xr_ne (by decide), xr_ne (by decide), xr_ne (by decide), xr_ne (by decide), xr_ne (by decide)]; exact hr 30 (by decide))) ?_
  intro G31 D31 R31 t31
  change St 31 _ _ _ _ _ at t31
  refine pf10_47 (some 30) rfl rfl dX10_init_109 rfl (fun r hr => by cases hr; rw [t31.1]; decide) ((t31.is (q := 17) (by decide) rfl)) ?_
  refine st_put t31 ?_
  intro P30 s31
  refine al0 dX10_init_112 (by first | nofun | exact xrv_ne _) ?_
  refine ex_sipush (v := 1681) dX10_init_113 (by decide) ?_
  refine ex_newa (t := 0) (n := 1681) (kc1 := 15) (kw1 := 3395) dX10_init_116 rfl (by decide) xac0 (by decide) (by decide) (by decide) (by omega) (by omega) ?_
  refine st_gen (n := 31) s31 rfl (hd 31 (by decide)) (by first | exact hr 31 (by decide) | (rw [xr_ne (by decide), xr_ne (by decide), xr_ne (by decide), xr_ne (by decide), xr_ne (by decide), xr_ne (by decide), xr_ne (by decide), xr_ne (by decide), xr_ne (by decide), xr_ne (by decide), xr_ne (by decide), xr_ne (by decide), xr_ne (by decide)]; exact hr 31 (by decide))) ?_
  intro G32 D32 R32 t32
  change St 32 _ _ _ _ _ at t32
  refine pf10_50 (some 31) rfl rfl dX10_init_118 rfl (fun r hr => by cases hr; rw [t32.1]; decide) ((t32.is (q := 17) (by decide) rfl)) ?_
  refine st_put t32 ?_
  intro P31 s32
  refine al0 dX10_init_121 (by first | nofun | exact xrv_ne _) ?_
  refine ex_sipush (v := 492) dX10_init_122 (by decide) ?_
  refine ex_newa (t := 0) (n := 492) (kc1 := 14) (kw1 := 2903) dX10_init_125 rfl (by decide) xac0 (by decide) (by decide) (by decide) (by omega) (by omega) ?_
  refine st_gen (n := 32) s32 rfl (hd 32 (by decide)) (by first | exact hr 32 (by decide) | (rw [xr_ne (by decide), xr_ne (by decide), xr_ne (by decide), xr_ne (by decide), xr_ne (by decide), xr_ne (by decide), xr_ne (by decide), xr_ne (by decide), xr_ne (by decide), xr_ne (by decide), xr_ne (by decide), xr_ne (by decide), xr_ne (by decide), xr_ne (by decide)]; exact hr 32 (by decide))) ?_
  intro G33 D33 R33 t33
  change St 33 _ _ _ _ _ at t33
  refine pf10_53 (some 32) rfl rfl dX10_init_127 rfl (fun r hr => by cases hr; rw [t33.1]; decide) ((t33.is (q := 17) (by decide) rfl)) ?_
  refine st_put t33 ?_
  intro P32 s33
  refine al0 dX10_init_130 (by first | nofun | exact xrv_ne _) ?_
  refine ex_sipush (v := 1968) dX10_init_131 (by decide) ?_
  refine ex_newa (t := 0) (n := 1968) (kc1 := 13) (kw1 := 935) dX10_init_134 rfl (by decide) xac0 (by decide) (by decide) (by decide) (by omega) (by omega) ?_
  refine st_gen (n := 33) s33 rfl (hd 33 (by decide)) (by first | exact hr 33 (by decide) | (rw [xr_ne (by decide), xr_ne (by decide), xr_ne (by decide), xr_ne (by decide), xr_ne (by decide), xr_ne (by decide), xr_ne (by decide), xr_ne (by decide), xr_ne (by decide), xr_ne (by decide), xr_ne (by decide), xr_ne (by decide), xr_ne (by decide), xr_ne (by decide), xr_ne (by decide)]; exact hr 33 (by decide))) ?_
  intro G34 D34 R34 t34
  change St 34 _ _ _ _ _ at t34
  refine pf10_56 (some 33) rfl rfl dX10_init_136 rfl (fun r hr => by cases hr; rw [t34.1]; decide) ((t34.is (q := 17) (by decide) rfl)) ?_
  refine st_put t34 ?_
  intro P33 s34
  refine al0 dX10_init_139 (by first | nofun | exact xrv_ne _) ?_
  refine ex_bipush (v := 41) dX10_init_140 (by decide) ?_
  refine ex_newa (t := 0) (n := 41) (kc1 := 12) (kw1 := 894) dX10_init_142 rfl (by decide) xac0 (by decide) (by decide) (by decide) (by omega) (by omega) ?_
  refine st_gen (n := 34) s34 rfl (hd 34 (by decide)) (by first | exact hr 34 (by decide) | (rw [xr_ne (by decide), xr_ne (by decide), xr_ne (by decide), xr_ne (by decide), xr_ne (by decide), xr_ne (by decide), xr_ne (by decide), xr_ne (by decide), xr_ne (by decide), xr_ne (by decide), xr_ne (by decide), xr_ne (by decide), xr_ne (by decide), xr_ne (by decide), xr_ne (by decide), xr_ne (by decide)]; exact hr 34 (by decide))) ?_
  intro G35 D35 R35 t35
  change St 35 _ _ _ _ _ at t35
  refine pf10_59 (some 34) rfl rfl dX10_init_144 rfl (fun r hr => by cases hr; rw [t35.1]; decide) ((t35.is (q := 17) (by decide) rfl)) ?_
  refine st_put t35 ?_
  intro P34 s35
  refine al0 dX10_init_147 (by first | nofun | exact xrv_ne _) ?_
  refine ex_bipush (v := 41) dX10_init_148 (by decide) ?_
  refine ex_newa (t := 2) (n := 41) (kc1 := 11) (kw1 := 853) dX10_init_150 rfl (by decide) xac2 (by decide) (by decide) (by decide) (by omega) (by omega) ?_
  refine st_gen (n := 35) s35 rfl (hd 35 (by decide)) (by first | exact hr 35 (by decide) | (rw [xr_ne (by decide), xr_ne (by decide), xr_ne (by decide), xr_ne (by decide), xr_ne (by decide), xr_ne (by decide), xr_ne (by decide), xr_ne (by decide), xr_ne (by decide), xr_ne (by decide), xr_ne (by decide), xr_ne (by decide), xr_ne (by decide), xr_ne (by decide), xr_ne (by decide), xr_ne (by decide), xr_ne (by decide)]; exact hr 35 (by decide))) ?_
  intro G36 D36 R36 t36
  change St 36 _ _ _ _ _ at t36
  refine pf10_62 (some 35) rfl rfl dX10_init_152 rfl (fun r hr => by cases hr; rw [t36.1]; decide) ((t36.is (q := 17) (by decide) rfl)) ?_
  refine st_put t36 ?_
  intro P35 s36
  refine al0 dX10_init_155 (by first | nofun | exact xrv_ne _) ?_
  refine ex_bipush (v := 41) dX10_init_156 (by decide) ?_
  refine ex_newa (t := 0) (n := 41) (kc1 := 10) (kw1 := 812) dX10_init_158 rfl (by decide) xac0 (by decide) (by decide) (by decide) (by omega) (by omega) ?_
  refine st_gen (n := 36) s36 rfl (hd 36 (by decide)) (by first | exact hr 36 (by decide) | (rw [xr_ne (by decide), xr_ne (by decide), xr_ne (by decide), xr_ne (by decide), xr_ne (by decide), xr_ne (by decide), xr_ne (by decide), xr_ne (by decide), xr_ne (by decide), xr_ne (by decide), xr_ne (by decide), xr_ne (by decide), xr_ne (by decide), xr_ne (by decide), xr_ne (by decide), xr_ne (by decide), xr_ne (by decide), xr_ne (by decide)]; exact hr 36 (by decide))) ?_
  intro G37 D37 R37 t37
  change St 37 _ _ _ _ _ at t37
  refine pf10_65 (some 36) rfl rfl dX10_init_160 rfl (fun r hr => by cases hr; rw [t37.1]; decide) ((t37.is (q := 17) (by decide) rfl)) ?_
  refine st_put t37 ?_
  intro P36 s37
  refine al0 dX10_init_163 (by first | nofun | exact xrv_ne _) ?_
  refine ex_bipush (v := 41) dX10_init_164 (by decide) ?_
  refine ex_newa (t := 0) (n := 41) (kc1 := 9) (kw1 := 771) dX10_init_166 rfl (by decide) xac0 (by decide) (by decide) (by decide) (by omega) (by omega) ?_
  refine st_gen (n := 37) s37 rfl (hd 37 (by decide)) (by first | exact hr 37 (by decide) | (rw [xr_ne (by decide), xr_ne (by decide), xr_ne (by decide), xr_ne (by decide), xr_ne (by decide), xr_ne (by decide), xr_ne (by decide), xr_ne (by decide), xr_ne (by decide), xr_ne (by decide), xr_ne (by decide), xr_ne (by decide), xr_ne (by decide), xr_ne (by decide), xr_ne (by decide), xr_ne (by decide), xr_ne (by decide), xr_ne (by decide), xr_ne (by decide)]; exact hr 37 (by decide))) ?_
  intro G38 D38 R38 t38
  change St 38 _ _ _ _ _ at t38
  refine pf10_68 (some 37) rfl rfl dX10_init_168 rfl (fun r hr => by cases hr; rw [t38.1]; decide) ((t38.is (q := 17) (by decide) rfl)) ?_
  refine st_put t38 ?_
  intro P37 s38
  refine al0 dX10_init_171 (by first | nofun | exact xrv_ne _) ?_
  refine ex_bipush (v := 41) dX10_init_172 (by decide) ?_
  refine ex_newa (t := 0) (n := 41) (kc1 := 8) (kw1 := 730) dX10_init_174 rfl (by decide) xac0 (by decide) (by decide) (by decide) (by omega) (by omega) ?_
  refine st_gen (n := 38) s38 rfl (hd 38 (by decide)) (by first | exact hr 38 (by decide) | (rw [xr_ne (by decide), xr_ne (by decide), xr_ne (by decide), xr_ne (by decide), xr_ne (by decide), xr_ne (by decide), xr_ne (by decide), xr_ne (by decide), xr_ne (by decide), xr_ne (by decide), xr_ne (by decide), xr_ne (by decide), xr_ne (by decide), xr_ne (by decide), xr_ne (by decide), xr_ne (by decide), xr_ne (by decide), xr_ne (by decide), xr_ne (by decide), xr_ne (by decide)]; exact hr 38 (by decide))) ?_
  intro G39 D39 R39 t39
  change St 39 _ _ _ _ _ at t39
  refine pf10_71 (some 38) rfl rfl dX10_init_176 rfl (fun r hr => by cases hr; rw [t39.1]; decide) ((t39.is (q := 17) (by decide) rfl)) ?_
  refine st_put t39 ?_
  intro P38 s39
  refine al0 dX10_init_179 (by first | nofun | exact xrv_ne _) ?_
  refine ex_bipush (v := 90) dX10_init_180 (by decide) ?_
  refine ex_newa (t := 0) (n := 90) (kc1 := 7) (kw1 := 640) dX10_init_182 rfl (by decide) xac0 (by decide) (by decide) (by decide) (by omega) (by omega) ?_
  refine st_gen (n := 39) s39 rfl (hd 39 (by decide)) (by first | exact hr 39 (by decide) | (rw [xr_ne (by decide), xr_ne (by decide), xr_ne (by decide), xr_ne (by decide), xr_ne (by decide), xr_ne (by decide), xr_ne (by decide), xr_ne (by decide), xr_ne (by decide), xr_ne (by decide), xr_ne (by decide), xr_ne (by decide), xr_ne (by decide), xr_ne (by decide), xr_ne (by decide), xr_ne (by decide), xr_ne (by decide), xr_ne (by decide), xr_ne (by decide), xr_ne (by decide), xr_ne (by decide)]; exact hr 39 (by decide))) ?_
  intro G40 D40 R40 t40
  change St 40 _ _ _ _ _ at t40
  refine pf10_74 (some 39) rfl rfl dX10_init_184 rfl (fun r hr => by cases hr; rw [t40.1]; decide) ((t40.is (q := 17) (by decide) rfl)) ?_
  refine st_put t40 ?_
  intro P39 s40
  refine al0 dX10_init_187 (by first | nofun | exact xrv_ne _) ?_
  refine ex_sipush (v := 400) dX10_init_188 (by decide) ?_
  refine ex_newa (t := 0) (n := 400) (kc1 := 6) (kw1 := 240) dX10_init_191 rfl (by decide) xac0 (by decide) (by decide) (by decide) (by omega) (by omega) ?_
  refine st_gen (n := 40) s40 rfl (hd 40 (by decide)) (by first | exact hr 40 (by decide) | (rw [xr_ne (by decide), xr_ne (by decide), xr_ne (by decide), xr_ne (by decide), xr_ne (by decide), xr_ne (by decide), xr_ne (by decide), xr_ne (by decide), xr_ne (by decide), xr_ne (by decide), xr_ne (by decide), xr_ne (by decide), xr_ne (by decide), xr_ne (by decide), xr_ne (by decide), xr_ne (by decide), xr_ne (by decide), xr_ne (by decide), xr_ne (by decide), xr_ne (by decide), xr_ne (by decide), xr_ne (by decide)]; exact hr 40 (by decide))) ?_
  intro G41 D41 R41 t41
  change St 41 _ _ _ _ _ at t41
  refine pf10_77 (some 40) rfl rfl dX10_init_193 rfl (fun r hr => by cases hr; rw [t41.1]; decide) ((t41.is (q := 17) (by decide) rfl)) ?_
  refine st_put t41 ?_
  intro P40 s41
  refine al0 dX10_init_196 (by first | nofun | exact xrv_ne _) ?_
  refine ex_bipush (v := 40) dX10_init_197 (by decide) ?_
  refine ex_newa (t := 0) (n := 40) (kc1 := 5) (kw1 := 200) dX10_init_199 rfl (by decide) xac0 (by decide) (by decide) (by decide) (by omega) (by omega) ?_
  refine st_gen (n := 41) s41 rfl (hd 41 (by decide)) (by first | exact hr 41 (by decide) | (rw [xr_ne (by decide), xr_ne (by decide), xr_ne (by decide), xr_ne (by decide), xr_ne (by decide), xr_ne (by decide), xr_ne (by decide), xr_ne (by decide), xr_ne (by decide), xr_ne (by decide), xr_ne (by decide), xr_ne (by decide), xr_ne (by decide), xr_ne (by decide), xr_ne (by decide), xr_ne (by decide), xr_ne (by decide), xr_ne (by decide), xr_ne (by decide), xr_ne (by decide), xr_ne (by decide), xr_ne (by decide), xr_ne (by decide)]; exact hr 41 (by decide))) ?_
  intro G42 D42 R42 t42
  change St 42 _ _ _ _ _ at t42
  refine pf10_80 (some 41) rfl rfl dX10_init_201 rfl (fun r hr => by cases hr; rw [t42.1]; decide) ((t42.is (q := 17) (by decide) rfl)) ?_
  refine st_put t42 ?_
  intro P41 s42
  refine al0 dX10_init_204 (by first | nofun | exact xrv_ne _) ?_
  refine ex_bipush (v := 40) dX10_init_205 (by decide) ?_
  refine ex_newa (t := 0) (n := 40) (kc1 := 4) (kw1 := 160) dX10_init_207 rfl (by decide) xac0 (by decide) (by decide) (by decide) (by omega) (by omega) ?_
  refine st_gen (n := 42) s42 rfl (hd 42 (by decide)) (by first | exact hr 42 (by decide) | (rw [xr_ne (by decide), xr_ne (by decide), xr_ne (by decide), xr_ne (by decide), xr_ne (by decide), xr_ne (by decide), xr_ne (by decide), xr_ne (by decide), xr_ne (by decide), xr_ne (by decide), xr_ne (by decide), xr_ne (by decide), xr_ne (by decide), xr_ne (by decide), xr_ne (by decide), xr_ne (by decide), xr_ne (by decide), xr_ne (by decide), xr_ne (by decide), xr_ne (by decide), xr_ne (by decide), xr_ne (by decide), xr_ne (by decide), xr_ne (by decide)]; exact hr 42 (by decide))) ?_
  intro G43 D43 R43 t43
  change St 43 _ _ _ _ _ at t43
  refine pf10_83 (some 42) rfl rfl dX10_init_209 rfl (fun r hr => by cases hr; rw [t43.1]; decide) ((t43.is (q := 17) (by decide) rfl)) ?_
  refine st_put t43 ?_
  intro P42 s43
  refine al0 dX10_init_212 (by first | nofun | exact xrv_ne _) ?_
  refine ex_bipush (v := 40) dX10_init_213 (by decide) ?_
  refine ex_newa (t := 0) (n := 40) (kc1 := 3) (kw1 := 120) dX10_init_215 rfl (by decide) xac0 (by decide) (by decide) (by decide) (by omega) (by omega) ?_
  refine st_gen (n := 43) s43 rfl (hd 43 (by decide)) (by first | exact hr 43 (by decide) | (rw [xr_ne (by decide), xr_ne (by decide), xr_ne (by decide), xr_ne (by decide), xr_ne (by decide), xr_ne (by decide), xr_ne (by decide), xr_ne (by decide), xr_ne (by decide), xr_ne (by decide), xr_ne (by decide), xr_ne (by decide), xr_ne (by decide), xr_ne (by decide), xr_ne (by decide), xr_ne (by decide), xr_ne (by decide), xr_ne (by decide), xr_ne (by decide), xr_ne (by decide), xr_ne (by decide), xr_ne (by decide), xr_ne (by decide), xr_ne (by decide), xr_ne (by decide)]; exact hr 43 (by decide))) ?_
  intro G44 D44 R44 t44
  change St 44 _ _ _ _ _ at t44
  refine pf10_86 (some 43) rfl rfl dX10_init_217 rfl (fun r hr => by cases hr; rw [t44.1]; decide) ((t44.is (q := 17) (by decide) rfl)) ?_
  refine st_put t44 ?_
  intro P43 s44
  refine al0 dX10_init_220 (by first | nofun | exact xrv_ne _) ?_
  refine ex_bipush (v := 40) dX10_init_221 (by decide) ?_
  refine ex_newa (t := 0) (n := 40) (kc1 := 2) (kw1 := 80) dX10_init_223 rfl (by decide) xac0 (by decide) (by decide) (by decide) (by omega) (by omega) ?_
  refine st_gen (n := 44) s44 rfl (hd 44 (by decide)) (by first | exact hr 44 (by decide) | (rw [xr_ne (by decide), xr_ne (by decide), xr_ne (by decide), xr_ne (by decide), xr_ne (by decide), xr_ne (by decide), xr_ne (by decide), xr_ne (by decide), xr_ne (by decide), xr_ne (by decide), xr_ne (by decide), xr_ne (by decide), xr_ne (by decide), xr_ne (by decide), xr_ne (by decide), xr_ne (by decide), xr_ne (by decide), xr_ne (by decide), xr_ne (by decide), xr_ne (by decide), xr_ne (by decide), xr_ne (by decide), xr_ne (by decide), xr_ne (by decide), xr_ne (by decide), xr_ne (by decide)]; exact hr 44 (by decide))) ?_
  intro G45 D45 R45 t45
  change St 45 _ _ _ _ _ at t45
  refine pf10_89 (some 44) rfl rfl dX10_init_225 rfl (fun r hr => by cases hr; rw [t45.1]; decide) ((t45.is (q := 17) (by decide) rfl)) ?_
  refine st_put t45 ?_
  intro P44 s45
  refine al0 dX10_init_228 (by first | nofun | exact xrv_ne _) ?_
  refine ex_bipush (v := 40) dX10_init_229 (by decide) ?_
  refine ex_newa (t := 0) (n := 40) (kc1 := 1) (kw1 := 40) dX10_init_231 rfl (by decide) xac0 (by decide) (by decide) (by decide) (by omega) (by omega) ?_
  refine st_gen (n := 45) s45 rfl (hd 45 (by decide)) (by first | exact hr 45 (by decide) | (rw [xr_ne (by decide), xr_ne (by decide), xr_ne (by decide), xr_ne (by decide), xr_ne (by decide), xr_ne (by decide), xr_ne (by decide), xr_ne (by decide), xr_ne (by decide), xr_ne (by decide), xr_ne (by decide), xr_ne (by decide), xr_ne (by decide), xr_ne (by decide), xr_ne (by decide), xr_ne (by decide), xr_ne (by decide), xr_ne (by decide), xr_ne (by decide), xr_ne (by decide), xr_ne (by decide), xr_ne (by decide), xr_ne (by decide), xr_ne (by decide), xr_ne (by decide), xr_ne (by decide), xr_ne (by decide)]; exact hr 45 (by decide))) ?_
  intro G46 D46 R46 t46
  change St 46 _ _ _ _ _ at t46
  refine pf10_92 (some 45) rfl rfl dX10_init_233 rfl (fun r hr => by cases hr; rw [t46.1]; decide) ((t46.is (q := 17) (by decide) rfl)) ?_
  refine st_put t46 ?_
  intro P45 s46
  refine al0 dX10_init_236 (by first | nofun | exact xrv_ne _) ?_
  refine ex_bipush (v := 40) dX10_init_237 (by decide) ?_
  refine ex_newa (t := 0) (n := 40) (kc1 := 0) (kw1 := 0) dX10_init_239 rfl (by decide) xac0 (by decide) (by decide) (by decide) (by omega) (by omega) ?_
  refine st_gen (n := 46) s46 rfl (hd 46 (by decide)) (by first | exact hr 46 (by decide) | (rw [xr_ne (by decide), xr_ne (by decide), xr_ne (by decide), xr_ne (by decide), xr_ne (by decide), xr_ne (by decide), xr_ne (by decide), xr_ne (by decide), xr_ne (by decide), xr_ne (by decide), xr_ne (by decide), xr_ne (by decide), xr_ne (by decide), xr_ne (by decide), xr_ne (by decide), xr_ne (by decide), xr_ne (by decide), xr_ne (by decide), xr_ne (by decide), xr_ne (by decide), xr_ne (by decide), xr_ne (by decide), xr_ne (by decide), xr_ne (by decide), xr_ne (by decide), xr_ne (by decide), xr_ne (by decide), xr_ne (by decide)]; exact hr 46 (by decide))) ?_
  intro G47 D47 R47 t47
  change St 47 _ _ _ _ _ at t47
  refine pf10_95 (some 46) rfl rfl dX10_init_241 rfl (fun r hr => by cases hr; rw [t47.1]; decide) ((t47.is (q := 17) (by decide) rfl)) ?_
  refine st_put t47 ?_
  intro P46 s47
  refine al0 dX10_init_244 (by first | nofun | exact xrv_ne _) ?_
  refine il1 dX10_init_245 ?_
  refine ex_if_eq 253 dX10_init_246 (by decide) (fun h246 => ?_) (fun h246 => ?_)
  · have hb : (0 : Int32) = sB s := (if_pos h246).symm
    refine ex_iconst (v := 0) dX10_init_253 (by decide) ?_
    refine pf10_98 rfl rfl dX10_init_254 (by decide) ((s47.is (q := 17) (by decide) rfl)) ?_
    refine ex_vret dX10_init_257 rfl ?_
    rw [hb]
    refine ⟨rfl, _, s47.int (q := 17) (k := 0) (x := sB s), fun w hw h17 => ?_, fun q hq => by rw [xr_ne hq, xr_ne hq, xr_ne hq, xr_ne hq, xr_ne hq, xr_ne hq, xr_ne hq, xr_ne hq, xr_ne hq, xr_ne hq, xr_ne hq, xr_ne hq, xr_ne hq, xr_ne hq, xr_ne hq, xr_ne hq, xr_ne hq, xr_ne hq, xr_ne hq, xr_ne hq, xr_ne hq, xr_ne hq, xr_ne hq, xr_ne hq, xr_ne hq, xr_ne hq, xr_ne hq, xr_ne hq, xr_ne hq]⟩
    have e : ((xru (xru (xru (xru (xru (xru (xru (xru (xru (xru (xru (xru (xru (xru (xru (xru (xru (xru (xru (xru (xru (xru (xru (xru (xru (xru (xru (xru (xru r 17 2 (some 18)) 17 4 (some 19)) 17 5 (some 20)) 17 7 (some 21)) 17 8 (some 22)) 17 9 (some 23)) 17 10 (some 24)) 17 12 (some 25)) 17 13 (some 26)) 17 15 (some 27)) 17 16 (some 28)) 17 17 (some 29)) 17 18 (some 30)) 17 19 (some 31)) 17 20 (some 32)) 17 21 (some 33)) 17 22 (some 34)) 17 23 (some 35)) 17 24 (some 36)) 17 25 (some 37)) 17 26 (some 38)) 17 28 (some 39)) 17 30 (some 40)) 17 33 (some 41)) 17 34 (some 42)) 17 35 (some 43)) 17 36 (some 44)) 17 37 (some 45)) 17 38 (some 46))) 17 = (va_up (va_up (va_up (va_up (va_up (va_up (va_up (va_up (va_up (va_up (va_up (va_up (va_up (va_up (va_up (va_up (va_up (va_up (va_up (va_up (va_up (va_up (va_up (va_up (va_up (va_up (va_up (va_up (va_up (r 17) 2 (some 18)) 4 (some 19)) 5 (some 20)) 7 (some 21)) 8 (some 22)) 9 (some 23)) 10 (some 24)) 12 (some 25)) 13 (some 26)) 15 (some 27)) 16 (some 28)) 17 (some 29)) 18 (some 30)) 19 (some 31)) 20 (some 32)) 21 (some 33)) 22 (some 34)) 23 (some 35)) 24 (some 36)) 25 (some 37)) 26 (some 38)) 28 (some 39)) 30 (some 40)) 33 (some 41)) 34 (some 42)) 35 (some 43)) 36 (some 44)) 37 (some 45)) 38 (some 46)) := by rw [xr_self, xr_self, xr_self, xr_self, xr_self, xr_self, xr_self, xr_self, xr_self, xr_self, xr_self, xr_self, xr_self, xr_self, xr_self, xr_self, xr_self, xr_self, xr_self, xr_self, xr_self, xr_self, xr_self, xr_self, xr_self, xr_self, xr_self, xr_self, xr_self]
    rw [h17, e, hr 17 (by decide)]
    exact (show ∀ w ∈ fxR, w.1 = 17 → ((va_up (va_up (va_up (va_up (va_up (va_up (va_up (va_up (va_up (va_up (va_up (va_up (va_up (va_up (va_up (va_up (va_up (va_up (va_up (va_up (va_up (va_up (va_up (va_up (va_up (va_up (va_up (va_up (va_up (fun _ => none) 2 (some 18)) 4 (some 19)) 5 (some 20)) 7 (some 21)) 8 (some 22)) 9 (some 23)) 10 (some 24)) 12 (some 25)) 13 (some 26)) 15 (some 27)) 16 (some 28)) 17 (some 29)) 18 (some 30)) 19 (some 31)) 20 (some 32)) 21 (some 33)) 22 (some 34)) 23 (some 35)) 24 (some 36)) 25 (some 37)) 26 (some 38)) 28 (some 39)) 30 (some 40)) 33 (some 41)) 34 (some 42)) 35 (some 43)) 36 (some 44)) 37 (some 45)) 38 (some 46))) w.2.1 = some w.2.2 by decide) w hw h17
  · have hb : (1 : Int32) = sB s := (if_neg h246).symm
    refine ex_iconst (v := 1) dX10_init_249 (by decide) ?_
    refine ex_goto 254 dX10_init_250 (by decide) ?_
    refine pf10_98 rfl rfl dX10_init_254 (by decide) ((s47.is (q := 17) (by decide) rfl)) ?_
    refine ex_vret dX10_init_257 rfl ?_
    rw [hb]
    refine ⟨rfl, _, s47.int (q := 17) (k := 0) (x := sB s), fun w hw h17 => ?_, fun q hq => by rw [xr_ne hq, xr_ne hq, xr_ne hq, xr_ne hq, xr_ne hq, xr_ne hq, xr_ne hq, xr_ne hq, xr_ne hq, xr_ne hq, xr_ne hq, xr_ne hq, xr_ne hq, xr_ne hq, xr_ne hq, xr_ne hq, xr_ne hq, xr_ne hq, xr_ne hq, xr_ne hq, xr_ne hq, xr_ne hq, xr_ne hq, xr_ne hq, xr_ne hq, xr_ne hq, xr_ne hq, xr_ne hq, xr_ne hq]⟩
    have e : ((xru (xru (xru (xru (xru (xru (xru (xru (xru (xru (xru (xru (xru (xru (xru (xru (xru (xru (xru (xru (xru (xru (xru (xru (xru (xru (xru (xru (xru r 17 2 (some 18)) 17 4 (some 19)) 17 5 (some 20)) 17 7 (some 21)) 17 8 (some 22)) 17 9 (some 23)) 17 10 (some 24)) 17 12 (some 25)) 17 13 (some 26)) 17 15 (some 27)) 17 16 (some 28)) 17 17 (some 29)) 17 18 (some 30)) 17 19 (some 31)) 17 20 (some 32)) 17 21 (some 33)) 17 22 (some 34)) 17 23 (some 35)) 17 24 (some 36)) 17 25 (some 37)) 17 26 (some 38)) 17 28 (some 39)) 17 30 (some 40)) 17 33 (some 41)) 17 34 (some 42)) 17 35 (some 43)) 17 36 (some 44)) 17 37 (some 45)) 17 38 (some 46))) 17 = (va_up (va_up (va_up (va_up (va_up (va_up (va_up (va_up (va_up (va_up (va_up (va_up (va_up (va_up (va_up (va_up (va_up (va_up (va_up (va_up (va_up (va_up (va_up (va_up (va_up (va_up (va_up (va_up (va_up (r 17) 2 (some 18)) 4 (some 19)) 5 (some 20)) 7 (some 21)) 8 (some 22)) 9 (some 23)) 10 (some 24)) 12 (some 25)) 13 (some 26)) 15 (some 27)) 16 (some 28)) 17 (some 29)) 18 (some 30)) 19 (some 31)) 20 (some 32)) 21 (some 33)) 22 (some 34)) 23 (some 35)) 24 (some 36)) 25 (some 37)) 26 (some 38)) 28 (some 39)) 30 (some 40)) 33 (some 41)) 34 (some 42)) 35 (some 43)) 36 (some 44)) 37 (some 45)) 38 (some 46)) := by rw [xr_self, xr_self, xr_self, xr_self, xr_self, xr_self, xr_self, xr_self, xr_self, xr_self, xr_self, xr_self, xr_self, xr_self, xr_self, xr_self, xr_self, xr_self, xr_self, xr_self, xr_self, xr_self, xr_self, xr_self, xr_self, xr_self, xr_self, xr_self, xr_self]
    rw [h17, e, hr 17 (by decide)]
    exact (show ∀ w ∈ fxR, w.1 = 17 → ((va_up (va_up (va_up (va_up (va_up (va_up (va_up (va_up (va_up (va_up (va_up (va_up (va_up (va_up (va_up (va_up (va_up (va_up (va_up (va_up (va_up (va_up (va_up (va_up (va_up (va_up (va_up (va_up (va_up (fun _ => none) 2 (some 18)) 4 (some 19)) 5 (some 20)) 7 (some 21)) 8 (some 22)) 9 (some 23)) 10 (some 24)) 12 (some 25)) 13 (some 26)) 15 (some 27)) 16 (some 28)) 17 (some 29)) 18 (some 30)) 19 (some 31)) 20 (some 32)) 21 (some 33)) 22 (some 34)) 23 (some 35)) 24 (some 36)) 25 (some 37)) 26 (some 38)) 28 (some 39)) 30 (some 40)) 33 (some 41)) 34 (some 42)) 35 (some 43)) 36 (some 44)) 37 (some 45)) 38 (some 46))) w.2.1 = some w.2.2 by decide) w hw h17
