/-! ===== new cells ===== -/
theorem xac0 : Cond.arrayClass (xAt 0) ∈ xT := xwk1 51 rfl (by decide +kernel)
theorem xac1 : Cond.arrayClass (xAt 1) ∈ xT := xwk1 66 rfl (by decide +kernel)
theorem xac2 : Cond.arrayClass (xAt 2) ∈ xT := xwk4 185 rfl (by decide +kernel)
abbrev gP (G : xG) (k : Nat × Nat) : xG := (G.1 + 1, va_up G.2 G.1 k)
abbrev dP (D : xD) (G : xG) : xD := va_up D G.1 (fun _ => 0)
abbrev rP (R : xR) (G : xG) : xR := va_up R G.1 (fun _ => none)
theorem xis_g {G : xG} {k : Nat × Nat} {q c : Nat} (h : xis G q c) : xis (gP G k) q c := ⟨Nat.lt_succ_of_lt h.1, by show va_up G.2 G.1 k q = _; rw [va_up_ne _ _ (Nat.ne_of_lt h.1)]; exact h.2⟩
theorem xia_g {G : xG} {k : Nat × Nat} {q t n : Nat} (h : xia G q t n) : xia (gP G k) q t n := ⟨Nat.lt_succ_of_lt h.1, by show va_up G.2 G.1 k q = _; rw [va_up_ne _ _ (Nat.ne_of_lt h.1)]; exact h.2⟩
theorem xis_n {G : xG} {c : Nat} : xis (gP G (c, 0)) G.1 c := ⟨Nat.lt_succ_self _, by show va_up G.2 G.1 (c, 0) G.1 = _; rw [va_up_self]⟩
theorem xia_n {G : xG} {t n : Nat} : xia (gP G (16 + t, n)) G.1 t n := ⟨Nat.lt_succ_self _, by show va_up G.2 G.1 (16 + t, n) G.1 = _; rw [va_up_self]⟩
/-- G' has n cells more; the old ones stand, but for D and R of cell q -/
def Gr (n : Nat) (q : Nat) (D D' : xD) (R R' : xR) (G G' : xG) : Prop := G'.1 = G.1 + n ∧ (∀ p, p < G.1 → G'.2 p = G.2 p) ∧ ∀ p, p < G.1 → p ≠ q → D' p = D p ∧ R' p = R p
theorem Gr.new {D : xD} {R : xR} {G : xG} {k : Nat × Nat} (q : Nat) : Gr 1 q D (dP D G) R (rP R G) G (gP G k) := ⟨rfl, fun p hp => va_up_ne _ _ (Nat.ne_of_lt hp), fun p hp _ => ⟨va_up_ne _ _ (Nat.ne_of_lt hp), va_up_ne _ _ (Nat.ne_of_lt hp)⟩⟩
theorem Gr.tr {n m q : Nat} {D D1 D2 : xD} {R R1 R2 : xR} {G G1 G2 : xG} (h : Gr n q D D1 R R1 G G1) (h2 : Gr m q D1 D2 R1 R2 G1 G2) : Gr (n + m) q D D2 R R2 G G2 := ⟨by rw [h2.1, h.1]; omega, fun p hp => (h2.2.1 p (by rw [h.1]; omega)).trans (h.2.1 p hp), fun p hp hq => ⟨(h2.2.2 p (by rw [h.1]; omega) hq).1.trans (h.2.2 p hp hq).1, (h2.2.2 p (by rw [h.1]; omega) hq).2.trans (h.2.2 p hp hq).2⟩⟩
theorem Gr.is {n q p c : Nat} {D D' : xD} {R R' : xR} {G G' : xG} (h : Gr n q D D' R R' G G') (hp : xis G p c) : xis G' p c := ⟨by rw [h.1]; have := hp.1; omega, (h.2.1 p hp.1).trans hp.2⟩
theorem Gr.ia {n q p t m : Nat} {D D' : xD} {R R' : xR} {G G' : xG} (h : Gr n q D D' R R' G G') (hp : xia G p t m) : xia G' p t m := ⟨by rw [h.1]; have := hp.1; omega, (h.2.1 p hp.1).trans hp.2⟩
theorem xr_ne {R : xR} {q k p : Nat} {o : Option Nat} (h : p ≠ q) : xru R q k o p = R p := by unfold xru; rw [if_neg h]
theorem xr_self {R : xR} {q k : Nat} {o : Option Nat} : xru R q k o q = va_up (R q) k o := by unfold xru; rw [if_pos rfl]
/-- an array is made and put into field k of q -/
theorem Gr.arr {D : xD} {R : xR} {G : xG} {k : Nat × Nat} {q j : Nat} (hq : q < G.1) : Gr 1 q D (dP D G) R (xru (rP R G) q j (some G.1)) G (gP G k) ∧ dP D G q = D q ∧ dP D G G.1 = (fun _ => 0) ∧ xru (rP R G) q j (some G.1) q = va_up (R q) j (some G.1) := by
  refine ⟨⟨rfl, fun p hp => va_up_ne _ _ (Nat.ne_of_lt hp), fun p hp hpq => ⟨va_up_ne _ _ (Nat.ne_of_lt hp), ?_⟩⟩, va_up_ne _ _ (Nat.ne_of_lt hq), va_up_self _ _ _, ?_⟩
  · rw [xr_ne hpq]
    exact va_up_ne _ _ (Nat.ne_of_lt hp)
  · rw [xr_self]
    show va_up (va_up R G.1 (fun _ => none) q) j (some G.1) = _
    rw [va_up_ne _ _ (Nat.ne_of_lt hq)]
set_option maxRecDepth 20000 in
set_option maxHeartbeats 1000000 in
theorem c_in1 {Γ : xGm} {l : Launch} {f : Nat} {G : xG} {D : xD} {R : xR} (hf : 1 ≤ f) {q : Nat} (hq : xis G q 1) : Cn Γ l f MX1_init [.ref q] G D R 1 40 (fun v G' D' R' => v = none ∧ Gr 1 q D D' R R' G G' ∧ D' q = D q ∧ D' G.1 = (fun _ => 0) ∧ R' q = va_up (R q) 0 (some G.1) ∧ xia G' G.1 0 40) := by
  refine cn_of MX1_init_ok (Nat.le_of_ble_eq_true rfl) ?_
  show Ex Γ l f MX1_init 0 [some (.ref q)] [] G D R 1 40 _
  refine al0 dX1_init_0 (by first | nofun | exact xrv_ne _) ?_
  refine oi1_3 rfl dX1_init_1 (Nat.le_of_ble_eq_true rfl) (by omega) ?_
  refine al0 dX1_init_4 (by first | nofun | exact xrv_ne _) ?_
  refine ex_bipush (v := 40) dX1_init_5 (by decide) ?_
  refine ex_newa (t := 0) (n := 40) (kc1 := 0) (kw1 := 0) dX1_init_7 rfl (by decide) xac0 (by decide) (by decide) (by decide) (by omega) (by omega) ?_
  refine pf1_9 (some _) rfl rfl dX1_init_9 rfl (fun r hr => by cases hr; exact Nat.lt_succ_self _) ((xis_g hq)) ?_
  refine ex_vret dX1_init_12 rfl ?_
  obtain ⟨a, b, c, d⟩ := Gr.arr (D := D) (R := R) (k := (16 + 0, 40)) (j := 0) hq.1
  exact ⟨rfl, a, b, c, d, xia_n⟩
set_option maxRecDepth 20000 in
set_option maxHeartbeats 1000000 in
theorem c_in5 {Γ : xGm} {l : Launch} {f : Nat} {G : xG} {D : xD} {R : xR} (hf : 1 ≤ f) {q : Nat} (hq : xis G q 5) : Cn Γ l f MX5_init [.ref q] G D R 1 20 (fun v G' D' R' => v = none ∧ Gr 1 q D D' R R' G G' ∧ D' q = D q ∧ D' G.1 = (fun _ => 0) ∧ R' q = va_up (R q) 0 (some G.1) ∧ xia G' G.1 1 20) := by
  refine cn_of MX5_init_ok (Nat.le_of_ble_eq_true rfl) ?_
  show Ex Γ l f MX5_init 0 [some (.ref q)] [] G D R 1 20 _
  refine al0 dX5_init_0 (by first | nofun | exact xrv_ne _) ?_
  refine oi5_3 rfl dX5_init_1 (Nat.le_of_ble_eq_true rfl) (by omega) ?_
  refine al0 dX5_init_4 (by first | nofun | exact xrv_ne _) ?_
  refine ex_bipush (v := 20) dX5_init_5 (by decide) ?_
  refine ex_newa (t := 1) (n := 20) (kc1 := 0) (kw1 := 0) dX5_init_7 rfl (by decide) xac1 (by decide) (by decide) (by decide) (by omega) (by omega) ?_
  refine pf5_9 (some _) rfl rfl dX5_init_9 rfl (fun r hr => by cases hr; exact Nat.lt_succ_self _) ((xis_g hq)) ?_
  refine ex_vret dX5_init_12 rfl ?_
  obtain ⟨a, b, c, d⟩ := Gr.arr (D := D) (R := R) (k := (16 + 1, 20)) (j := 0) hq.1
  exact ⟨rfl, a, b, c, d, xia_n⟩
set_option maxRecDepth 20000 in
set_option maxHeartbeats 1000000 in
theorem c_in2 {Γ : xGm} {l : Launch} {f : Nat} {G : xG} {D : xD} {R : xR} (hf : 1 ≤ f) {q : Nat} (hq : xis G q 2) : Cn Γ l f MX2_init [.ref q] G D R 1 400 (fun v G' D' R' => v = none ∧ Gr 1 q D D' R R' G G' ∧ D' q = D q ∧ D' G.1 = (fun _ => 0) ∧ R' q = va_up (R q) 0 (some G.1) ∧ xia G' G.1 1 400) := by
  refine cn_of MX2_init_ok (Nat.le_of_ble_eq_true rfl) ?_
  show Ex Γ l f MX2_init 0 [some (.ref q)] [] G D R 1 400 _
  refine al0 dX2_init_0 (by first | nofun | exact xrv_ne _) ?_
  refine oi2_3 rfl dX2_init_1 (Nat.le_of_ble_eq_true rfl) (by omega) ?_
  refine al0 dX2_init_4 (by first | nofun | exact xrv_ne _) ?_
  refine ex_sipush (v := 400) dX2_init_5 (by decide) ?_
  refine ex_newa (t := 1) (n := 400) (kc1 := 0) (kw1 := 0) dX2_init_8 rfl (by decide) xac1 (by decide) (by decide) (by decide) (by omega) (by omega) ?_
  refine pf2_9 (some _) rfl rfl dX2_init_10 rfl (fun r hr => by cases hr; exact Nat.lt_succ_self _) ((xis_g hq)) ?_
  refine ex_vret dX2_init_13 rfl ?_
  obtain ⟨a, b, c, d⟩ := Gr.arr (D := D) (R := R) (k := (16 + 1, 400)) (j := 0) hq.1
  exact ⟨rfl, a, b, c, d, xia_n⟩
set_option maxRecDepth 20000 in
set_option maxHeartbeats 1000000 in
theorem c_in8 {Γ : xGm} {l : Launch} {f : Nat} {G : xG} {D : xD} {R : xR} (hf : 1 ≤ f) {q : Nat} (hq : xis G q 8) {n : Int32} : Cn Γ l f MX8_init [.ref q, .int n] G D R 1 10 (fun v G' D' R' => v = none ∧ Gr 1 q D D' R R' G G' ∧ D' q = upd (D q) 1 n ∧ D' G.1 = (fun _ => 0) ∧ R' q = va_up (R q) 0 (some G.1) ∧ xia G' G.1 0 10) := by
  refine cn_of MX8_init_ok (Nat.le_of_ble_eq_true rfl) ?_
  show Ex Γ l f MX8_init 0 [some (.ref q), some (.int n)] [] G D R 1 10 _
  refine al0 dX8_init_0 (by first | nofun | exact xrv_ne _) ?_
  refine oi8_3 rfl dX8_init_1 (Nat.le_of_ble_eq_true rfl) (by omega) ?_
  refine al0 dX8_init_4 (by first | nofun | exact xrv_ne _) ?_
  refine ex_bipush (v := 10) dX8_init_5 (by decide) ?_
  refine ex_newa (t := 0) (n := 10) (kc1 := 0) (kw1 := 0) dX8_init_7 rfl (by decide) xac0 (by decide) (by decide) (by decide) (by omega) (by omega) ?_
  refine pf8_9 (some _) rfl rfl dX8_init_9 rfl (fun r hr => by cases hr; exact Nat.lt_succ_self _) ((xis_g hq)) ?_
  refine al0 dX8_init_12 (by first | nofun | exact xrv_ne _) ?_
  refine il1 dX8_init_13 ?_
  refine pf8_15 rfl rfl dX8_init_14 ((xis_g hq)) ?_
  refine ex_vret dX8_init_17 rfl ?_
  obtain ⟨a, b, c, d⟩ := Gr.arr (D := D) (R := R) (k := (16 + 0, 10)) (j := 0) hq.1
  have hne : G.1 ≠ q := Nat.ne_of_gt hq.1
  exact ⟨rfl, ⟨a.1, a.2.1, fun p hp hpq => ⟨by rw [xdu_ne _ _ _ hpq]; exact (a.2.2 p hp hpq).1, (a.2.2 p hp hpq).2⟩⟩, by rw [xdu_self]; exact congrArg (fun z => upd z 1 n) b, by rw [xdu_ne _ _ _ hne]; exact c, d, xia_n⟩
set_option maxRecDepth 20000 in
set_option maxHeartbeats 1000000 in
theorem c_in4 {Γ : xGm} {l : Launch} {f : Nat} {G : xG} {D : xD} {R : xR} (hf : 1 ≤ f) {q : Nat} (hq : xis G q 4) : Cn Γ l f MX4_init [.ref q] G D R 2 60 (fun v G' D' R' => v = none ∧ Gr 2 q D D' R R' G G' ∧ D' q = D q ∧ D' G.1 = (fun _ => 0) ∧ D' (G.1 + 1) = (fun _ => 0) ∧ R' q = va_up (va_up (R q) 0 (some G.1)) 1 (some (G.1 + 1)) ∧ xia G' G.1 0 12 ∧ xia G' (G.1 + 1) 0 48) := by
  refine cn_of MX4_init_ok (Nat.le_of_ble_eq_true rfl) ?_
  show Ex Γ l f MX4_init 0 [some (.ref q)] [] G D R 2 60 _
  refine al0 dX4_init_0 (by first | nofun | exact xrv_ne _) ?_
  refine oi4_3 rfl dX4_init_1 (Nat.le_of_ble_eq_true rfl) (by omega) ?_
  refine al0 dX4_init_4 (by first | nofun | exact xrv_ne _) ?_
  refine ex_bipush (v := 12) dX4_init_5 (by decide) ?_
  refine ex_newa (t := 0) (n := 12) (kc1 := 1) (kw1 := 48) dX4_init_7 rfl (by decide) xac0 (by decide) (by decide) (by decide) (by omega) (by omega) ?_
  refine pf4_9 (some _) rfl rfl dX4_init_9 rfl (fun r hr => by cases hr; exact Nat.lt_succ_self _) ((xis_g hq)) ?_
  refine al0 dX4_init_12 (by first | nofun | exact xrv_ne _) ?_
  refine ex_bipush (v := 48) dX4_init_13 (by decide) ?_
  refine ex_newa (t := 0) (n := 48) (kc1 := 0) (kw1 := 0) dX4_init_15 rfl (by decide) xac0 (by decide) (by decide) (by decide) (by omega) (by omega) ?_
  refine pf4_15 (some _) rfl rfl dX4_init_17 rfl (fun r hr => by cases hr; exact Nat.lt_succ_self _) ((xis_g (xis_g hq))) ?_
  refine ex_vret dX4_init_20 rfl ?_
  obtain ⟨a, b, c, d⟩ := Gr.arr (D := D) (R := R) (k := (16 + 0, 12)) (j := 0) hq.1
  obtain ⟨a2, b2, c2, d2⟩ := Gr.arr (D := dP D G) (R := xru (rP R G) q 0 (some G.1)) (G := gP G (16 + 0, 12)) (k := (16 + 0, 48)) (j := 1) (Nat.lt_succ_of_lt hq.1)
  exact ⟨rfl, a.tr a2, b2.trans b, (a2.2.2 G.1 (Nat.lt_succ_self _) (Nat.ne_of_gt hq.1)).1.trans c, c2, by rw [d2, d], xia_g xia_n, xia_n⟩
set_option maxRecDepth 20000 in
set_option maxHeartbeats 1000000 in
theorem c_in3 {Γ : xGm} {l : Launch} {f : Nat} {G : xG} {D : xD} {R : xR} (hf : 1 ≤ f) {q : Nat} (hq : xis G q 3) : Cn Γ l f MX3_init [.ref q] G D R 3 24 (fun v G' D' R' => v = none ∧ Gr 3 q D D' R R' G G' ∧ D' q = D q ∧ D' G.1 = (fun _ => 0) ∧ D' (G.1 + 1) = (fun _ => 0) ∧ D' (G.1 + 2) = (fun _ => 0) ∧ R' q = va_up (va_up (va_up (R q) 0 (some G.1)) 1 (some (G.1 + 1))) 2 (some (G.1 + 2)) ∧ xia G' G.1 0 8 ∧ xia G' (G.1 + 1) 0 8 ∧ xia G' (G.1 + 2) 0 8) := by
  refine cn_of MX3_init_ok (Nat.le_of_ble_eq_true rfl) ?_
  show Ex Γ l f MX3_init 0 [some (.ref q)] [] G D R 3 24 _
  refine al0 dX3_init_0 (by first | nofun | exact xrv_ne _) ?_
  refine oi3_3 rfl dX3_init_1 (Nat.le_of_ble_eq_true rfl) (by omega) ?_
  refine al0 dX3_init_4 (by first | nofun | exact xrv_ne _) ?_
  refine ex_bipush (v := 8) dX3_init_5 (by decide) ?_
  refine ex_newa (t := 0) (n := 8) (kc1 := 2) (kw1 := 16) dX3_init_7 rfl (by decide) xac0 (by decide) (by decide) (by decide) (by omega) (by omega) ?_
  refine pf3_9 (some _) rfl rfl dX3_init_9 rfl (fun r hr => by cases hr; exact Nat.lt_succ_self _) ((xis_g hq)) ?_
  refine al0 dX3_init_12 (by first | nofun | exact xrv_ne _) ?_
  refine ex_bipush (v := 8) dX3_init_13 (by decide) ?_
  refine ex_newa (t := 0) (n := 8) (kc1 := 1) (kw1 := 8) dX3_init_15 rfl (by decide) xac0 (by decide) (by decide) (by decide) (by omega) (by omega) ?_
  refine pf3_15 (some _) rfl rfl dX3_init_17 rfl (fun r hr => by cases hr; exact Nat.lt_succ_self _) ((xis_g (xis_g hq))) ?_
  refine al0 dX3_init_20 (by first | nofun | exact xrv_ne _) ?_
  refine ex_bipush (v := 8) dX3_init_21 (by decide) ?_
  refine ex_newa (t := 0) (n := 8) (kc1 := 0) (kw1 := 0) dX3_init_23 rfl (by decide) xac0 (by decide) (by decide) (by decide) (by omega) (by omega) ?_
  refine pf3_18 (some _) rfl rfl dX3_init_25 rfl (fun r hr => by cases hr; exact Nat.lt_succ_self _) ((xis_g (xis_g (xis_g hq)))) ?_
  refine ex_vret dX3_init_28 rfl ?_
  obtain ⟨a, b, c, d⟩ := Gr.arr (D := D) (R := R) (k := (16 + 0, 8)) (j := 0) hq.1
  obtain ⟨a2, b2, c2, d2⟩ := Gr.arr (D := dP D G) (R := xru (rP R G) q 0 (some G.1)) (G := gP G (16 + 0, 8)) (k := (16 + 0, 8)) (j := 1) (Nat.lt_succ_of_lt hq.1)
  obtain ⟨a3, b3, c3, d3⟩ := Gr.arr (D := dP (dP D G) (gP G (16 + 0, 8))) (R := xru (rP (xru (rP R G) q 0 (some G.1)) (gP G (16 + 0, 8))) q 1 (some (G.1 + 1))) (G := gP (gP G (16 + 0, 8)) (16 + 0, 8)) (k := (16 + 0, 8)) (j := 2) (Nat.lt_succ_of_lt (Nat.lt_succ_of_lt hq.1))
  have g1 : G.1 < G.1 + 1 + 1 := by omega
  have hq1 := hq.1
  exact ⟨rfl, (a.tr a2).tr a3, (b3.trans b2).trans b, ((a3.2.2 G.1 g1 (by omega)).1.trans (a2.2.2 G.1 (Nat.lt_succ_self _) (by omega)).1).trans c, (a3.2.2 (G.1 + 1) (Nat.lt_succ_self _) (by omega)).1.trans c2, c3, by rw [d3, d2, d], xia_g (xia_g xia_n), xia_g xia_n, xia_n⟩
set_option maxRecDepth 20000 in
set_option maxHeartbeats 1000000 in
theorem c_in7 {Γ : xGm} {l : Launch} {f : Nat} {G : xG} {D : xD} {R : xR} (hf : 1 ≤ f) {q : Nat} (hq : xis G q 7) : Cn Γ l f MX7_init [.ref q] G D R 3 123 (fun v G' D' R' => v = none ∧ Gr 3 q D D' R R' G G' ∧ D' q = D q ∧ D' G.1 = (fun _ => 0) ∧ D' (G.1 + 1) = (fun _ => 0) ∧ D' (G.1 + 2) = (fun _ => 0) ∧ R' q = va_up (va_up (va_up (R q) 0 (some G.1)) 1 (some (G.1 + 1))) 2 (some (G.1 + 2)) ∧ xia G' G.1 0 41 ∧ xia G' (G.1 + 1) 0 41 ∧ xia G' (G.1 + 2) 0 41) := by
  refine cn_of MX7_init_ok (Nat.le_of_ble_eq_true rfl) ?_
  show Ex Γ l f MX7_init 0 [some (.ref q)] [] G D R 3 123 _
  refine al0 dX7_init_0 (by first | nofun | exact xrv_ne _) ?_
  refine oi7_3 rfl dX7_init_1 (Nat.le_of_ble_eq_true rfl) (by omega) ?_
  refine al0 dX7_init_4 (by first | nofun | exact xrv_ne _) ?_
  refine ex_bipush (v := 41) dX7_init_5 (by decide) ?_
  refine ex_newa (t := 0) (n := 41) (kc1 := 2) (kw1 := 82) dX7_init_7 rfl (by decide) xac0 (by decide) (by decide) (by decide) (by omega) (by omega) ?_
  refine pf7_9 (some _) rfl rfl dX7_init_9 rfl (fun r hr => by cases hr; exact Nat.lt_succ_self _) ((xis_g hq)) ?_
  refine al0 dX7_init_12 (by first | nofun | exact xrv_ne _) ?_
  refine ex_bipush (v := 41) dX7_init_13 (by decide) ?_
  refine ex_newa (t := 0) (n := 41) (kc1 := 1) (kw1 := 41) dX7_init_15 rfl (by decide) xac0 (by decide) (by decide) (by decide) (by omega) (by omega) ?_
  refine pf7_15 (some _) rfl rfl dX7_init_17 rfl (fun r hr => by cases hr; exact Nat.lt_succ_self _) ((xis_g (xis_g hq))) ?_
  refine al0 dX7_init_20 (by first | nofun | exact xrv_ne _) ?_
  refine ex_bipush (v := 41) dX7_init_21 (by decide) ?_
  refine ex_newa (t := 0) (n := 41) (kc1 := 0) (kw1 := 0) dX7_init_23 rfl (by decide) xac0 (by decide) (by decide) (by decide) (by omega) (by omega) ?_
  refine pf7_18 (some _) rfl rfl dX7_init_25 rfl (fun r hr => by cases hr; exact Nat.lt_succ_self _) ((xis_g (xis_g (xis_g hq)))) ?_
  refine ex_vret dX7_init_28 rfl ?_
  obtain ⟨a, b, c, d⟩ := Gr.arr (D := D) (R := R) (k := (16 + 0, 41)) (j := 0) hq.1
  obtain ⟨a2, b2, c2, d2⟩ := Gr.arr (D := dP D G) (R := xru (rP R G) q 0 (some G.1)) (G := gP G (16 + 0, 41)) (k := (16 + 0, 41)) (j := 1) (Nat.lt_succ_of_lt hq.1)
  obtain ⟨a3, b3, c3, d3⟩ := Gr.arr (D := dP (dP D G) (gP G (16 + 0, 41))) (R := xru (rP (xru (rP R G) q 0 (some G.1)) (gP G (16 + 0, 41))) q 1 (some (G.1 + 1))) (G := gP (gP G (16 + 0, 41)) (16 + 0, 41)) (k := (16 + 0, 41)) (j := 2) (Nat.lt_succ_of_lt (Nat.lt_succ_of_lt hq.1))
  have g1 : G.1 < G.1 + 1 + 1 := by omega
  have hq1 := hq.1
  exact ⟨rfl, (a.tr a2).tr a3, (b3.trans b2).trans b, ((a3.2.2 G.1 g1 (by omega)).1.trans (a2.2.2 G.1 (Nat.lt_succ_self _) (by omega)).1).trans c, (a3.2.2 (G.1 + 1) (Nat.lt_succ_self _) (by omega)).1.trans c2, c3, by rw [d3, d2, d], xia_g (xia_g xia_n), xia_g xia_n, xia_n⟩
set_option maxRecDepth 20000 in
set_option maxHeartbeats 1000000 in
theorem c_in6 {Γ : xGm} {l : Launch} {f : Nat} {G : xG} {D : xD} {R : xR} (hf : 2 ≤ f) {q lq : Nat} {ic pool : Int32} (hq : xis G q 6) (hlq : lq < G.1) (hic : ic = 0 ∨ ic = 1) : Cn Γ l f MX6_init [.ref q, .int ic, .ref lq, .int pool] G D R 3 62 (fun v G' D' R' => v = none ∧ Gr 3 q D D' R R' G G' ∧ D' q = upd (upd (D q) 0 ic) 2 pool ∧ R' q = va_up (va_up (R q) 3 (some G.1)) 1 (some lq) ∧ rk R' G' G.1 ∧ D' (G.1 + 1) = (fun _ => 0) ∧ D' (G.1 + 2) = (fun _ => 0)) := by
  refine cn_of MX6_init_ok (Nat.le_of_ble_eq_true rfl) ?_
  show Ex Γ l f MX6_init 0 [some (.ref q), some (.int ic), some (.ref lq), some (.int pool)] [] G D R 3 62 _
  refine al0 dX6_init_0 (by first | nofun | exact xrv_ne _) ?_
  refine oi6_1 rfl dX6_init_1 (Nat.le_of_ble_eq_true rfl) (by omega) ?_
  refine al0 dX6_init_4 (by first | nofun | exact xrv_ne _) ?_
  refine nw6_7 (kc1 := 2) (kw1 := 60) rfl dX6_init_5 (by omega) (by omega) ?_
  refine ex_dup dX6_init_8 ?_
  refine cs6_9 (f' := f - 1) rfl dX6_init_9 (Nat.le_of_ble_eq_true rfl) (by omega) (Nat.le_refl _) (Nat.le_refl _) (c_in4 (by omega) (G := gP G (4, 0)) xis_n) ?_
  rintro v1 G1 D1 R1 ⟨rfl, g, e1, e2, e3, e4, e5, e6⟩
  have hq1 := hq.1
  have gq := g.is (xis_g (k := (4, 0)) hq)
  have gn := g.is (xis_n (G := G) (c := 4))
  have g0 := (Gr.new (D := D) (R := R) (G := G) (k := (4, 0)) G.1)
  have hqn : q ≠ G.1 := Nat.ne_of_lt hq1
  refine pf6_10 (some G.1) rfl rfl dX6_init_12 rfl (fun r hr => by cases hr; exact gn.1) (gq) ?_
  refine al0 dX6_init_15 (by first | nofun | exact xrv_ne _) ?_
  refine il1 dX6_init_16 ?_
  refine pf6_16 rfl rfl dX6_init_17 hic (gq) ?_
  refine al0 dX6_init_20 (by first | nofun | exact xrv_ne _) ?_
  refine al2 dX6_init_21 (by first | nofun | exact xrv_ne _) ?_
  refine pf6_20 (some lq) rfl rfl dX6_init_22 rfl (fun r hr => by cases hr; rw [g.1]; show lq < G.1 + 1 + 2; omega) (gq) ?_
  refine al0 dX6_init_25 (by first | nofun | exact xrv_ne _) ?_
  refine il3 dX6_init_26 ?_
  refine pf6_24 rfl rfl dX6_init_27 (gq) ?_
  refine ex_vret dX6_init_30 rfl ?_
  have s1 : ∀ p, p < G.1 → D1 p = D p ∧ R1 p = R p := fun p hp => ⟨(g.2.2 p (show p < G.1 + 1 by omega) (by omega)).1.trans (g0.2.2 p hp (by omega)).1, (g.2.2 p (show p < G.1 + 1 by omega) (by omega)).2.trans (g0.2.2 p hp (by omega)).2⟩
  refine ⟨rfl, ⟨by rw [g.1], fun p hp => (g.2.1 p (show p < G.1 + 1 by omega)).trans (g0.2.1 p hp), fun p hp hpq => ⟨?_, ?_⟩⟩, ?_, ?_, ⟨gn, ?_, ?_, e5, e6⟩, ?_, ?_⟩
  · rw [xdu_ne _ _ _ hpq, xdu_ne _ _ _ hpq]
    exact (s1 p hp).1
  · rw [xr_ne hpq, xr_ne hpq]
    exact (s1 p hp).2
  · rw [xdu_self, xdu_self, (s1 q hq1).1]
  · rw [xr_self, xr_self, (s1 q hq1).2]
  · rw [xr_ne (Ne.symm hqn), xr_ne (Ne.symm hqn), e4, va_up_ne _ _ (by decide), va_up_self]
  · rw [xr_ne (Ne.symm hqn), xr_ne (Ne.symm hqn), e4, va_up_self]
  · rw [xdu_ne _ _ _ (by omega), xdu_ne _ _ _ (by omega)]
    exact e2
  · rw [xdu_ne _ _ _ (by omega), xdu_ne _ _ _ (by omega)]
    exact e3
