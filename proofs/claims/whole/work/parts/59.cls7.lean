/-! ===== numbers and what they stand for ===== -/
theorem sIn_1 {v n : Int32} (h : sIn v 1 n = true) (hn : vp_in n 41) : v = nI (ix v) ∧ 1 ≤ ix v ∧ ix v < 41 ∧ vp_in (v - 1) 40 ∧ ix (v - 1) = ix v - 1 ∧ ix v ≤ ix n := by
  have hv : vp_in v 41 := vi_btw (a := 1) hn (sIn_t.mp h).1 (sIn_t.mp h).2 (by decide) (by decide)
  obtain ⟨e, l⟩ := vi_n hv (by decide)
  have en := vi_n hn (by decide)
  have h1 : 1 ≤ ix v := by
    have := (sIn_t.mp h).1
    rw [e] at this
    exact (nI_leI (a := 1) (b := ix v) (by decide) (by omega)).mp this
  have e1 : v - 1 = nI (ix v - 1) := by
    conv => lhs; rw [e]
    rw [show (1 : Int32) = nI 1 from rfl, pk_sub h1]
  have h2 : ix v ≤ ix n := by
    have := (sIn_t.mp h).2
    rw [e, en.1] at this
    exact (nI_leI (a := ix v) (b := ix n) (by omega) (by omega)).mp this
  rw [e1, ix_nI (by omega)]
  exact ⟨e, h1, l, vi_of (by omega) (by decide), rfl, h2⟩
theorem sIn_b {v n : Int32} {b N : Nat} (h : sIn v (nI (b + 1)) (nI b + n) = true) (hn : vp_in n (N + 1)) (hN : N < 2 ^ 20) (hb : b < 2 ^ 20) : vp_in (v - nI (b + 1)) N ∧ ix (v - nI (b + 1)) < ix n ∧ v = nI (b + 1 + ix (v - nI (b + 1))) := by
  obtain ⟨e3, l3⟩ := vi_n hn (by omega)
  obtain ⟨h1, h2⟩ := sIn_t.mp h
  have hv := vi_off hn hN hb h1 h2
  have e1 : (nI b + n : Int32) = nI (b + ix n) := by
    conv => lhs; rw [e3]
    rw [nI_add]
  rw [e1] at h2
  have h0 : ¬ v < 0 := fun q => by
    rw [i32_le, nI_toInt (by omega)] at h1
    rw [Int32.lt_iff_toInt_lt] at q
    have : (0 : Int32).toInt = 0 := rfl
    omega
  obtain ⟨j, hj, rfl⟩ := nI_of h0
  have g1 := (nI_leI (by omega) hj).mp h1
  have g2 := (nI_leI hj (by omega)).mp h2
  rw [pk_sub g1, ix_nI (by omega)]
  refine ⟨by rw [pk_sub g1] at hv; exact hv, by omega, by congr 1; omega⟩
set_option maxRecDepth 20000 in
set_option maxHeartbeats 1000000 in
theorem c_thing_y {Γ : xGm} {l : Launch} {f : Nat} {G : xG} {D : xD} {R : xR} (hX : xFix G R) (hn : vp_in (D 0 8) 41) {v : Int32} {b : Nat} (hv : sIn v 1 (D 0 8) = true) (hb : R 1 (ix v - 1) = some b) : Cn Γ l f MX9_thingAt [.ref 0, .int v] G D R 0 0 (xdet (some (xrv (some b))) G D R) := by
  have h1 := sIn_1 hv hn
  refine cn_of MX9_thingAt_ok (Nat.le_of_ble_eq_true rfl) ?_
  show Ex Γ l f MX9_thingAt 0 [some (.ref 0), some (.int v)] [] G D R 0 0 _
  refine il1 dX9_thingAt_0 ?_
  refine ex_iconst (v := 1) dX9_thingAt_1 (by decide) ?_
  refine ex_icmp_lt 30 dX9_thingAt_2 (by decide) (fun h2 => ?_) (fun h2 => ?_)
  · exact absurd (sIn_t.mp hv).1 h2
  · refine il1 dX9_thingAt_5 ?_
    refine al0 dX9_thingAt_6 (by first | nofun | exact xrv_ne _) ?_
    refine gf9_88 rfl dX9_thingAt_7 (fx0 hX) ?_
    refine ex_icmp_gt 30 dX9_thingAt_10 (by decide) (fun h10 => ?_) (fun h10 => ?_)
    · exact absurd (sIn_t.mp hv).2 h10
    · refine il1 dX9_thingAt_13 ?_
      refine ex_bipush (v := 40) dX9_thingAt_14 (by decide) ?_
      refine ex_icmp_gt 30 dX9_thingAt_16 (by decide) (fun h16 => ?_) (fun h16 => ?_)
      · exact absurd (by rw [h1.1]; exact nI_le (b := 40) (by omega) (by decide)) h16
      · refine al0 dX9_thingAt_19 (by first | nofun | exact xrv_ne _) ?_
        refine gf9_11 rfl dX9_thingAt_20 (fr0_0 hX) (fx0 hX) ?_
        refine il1 dX9_thingAt_23 ?_
        refine ex_iconst (v := 1) dX9_thingAt_24 (by decide) ?_
        refine ex_isub dX9_thingAt_25 ?_
        refine ey_aald dX9_thingAt_26 (fx1 hX) (by decide) (by decide) h1.2.2.2.1 (show R 1 (ix (v - 1)) = some b from by rw [h1.2.2.2.2.1]; exact hb) ?_
        refine ex_goto 31 dX9_thingAt_27 (by decide) ?_
        refine ex_aret dX9_thingAt_31 rfl (by first | nofun | exact xrv_ne _) ?_
        exact ⟨rfl, rfl, rfl, rfl⟩
set_option maxRecDepth 20000 in
set_option maxHeartbeats 1000000 in
theorem c_thing_n {Γ : xGm} {l : Launch} {f : Nat} {G : xG} {D : xD} {R : xR} (hX : xFix G R) (hn : vp_in (D 0 8) 41) {v : Int32} (hv : sIn v 1 (D 0 8) = false) : Cn Γ l f MX9_thingAt [.ref 0, .int v] G D R 0 0 (xdet (some (xrv none)) G D R) := by
  refine cn_of MX9_thingAt_ok (Nat.le_of_ble_eq_true rfl) ?_
  show Ex Γ l f MX9_thingAt 0 [some (.ref 0), some (.int v)] [] G D R 0 0 _
  refine il1 dX9_thingAt_0 ?_
  refine ex_iconst (v := 1) dX9_thingAt_1 (by decide) ?_
  refine ex_icmp_lt 30 dX9_thingAt_2 (by decide) (fun h2 => ?_) (fun h2 => ?_)
  · refine ex_null dX9_thingAt_30 ?_
    refine ex_aret dX9_thingAt_31 rfl (by first | nofun | exact xrv_ne _) ?_
    exact ⟨rfl, rfl, rfl, rfl⟩
  · refine il1 dX9_thingAt_5 ?_
    refine al0 dX9_thingAt_6 (by first | nofun | exact xrv_ne _) ?_
    refine gf9_88 rfl dX9_thingAt_7 (fx0 hX) ?_
    refine ex_icmp_gt 30 dX9_thingAt_10 (by decide) (fun h10 => ?_) (fun h10 => ?_)
    · refine ex_null dX9_thingAt_30 ?_
      refine ex_aret dX9_thingAt_31 rfl (by first | nofun | exact xrv_ne _) ?_
      exact ⟨rfl, rfl, rfl, rfl⟩
    · exact absurd (sIn_t.mpr ⟨h2, h10⟩) (by rw [hv]; decide)
set_option maxRecDepth 20000 in
set_option maxHeartbeats 1000000 in
theorem c_text_y {Γ : xGm} {l : Launch} {f : Nat} {G : xG} {D : xD} {R : xR} (hX : xFix G R) (hn : vp_in (D 0 9) 21) {v : Int32} {b : Nat} (hv : sIn v 101 (100 + D 0 9) = true) (hb : R 2 (ix (v - 101)) = some b) : Cn Γ l f MX9_textAt [.ref 0, .int v] G D R 0 0 (xdet (some (xrv (some b))) G D R) := by
  have h1 := (sIn_off (b := 100) hn (by decide) (by decide)).mp hv
  have h2 := sIn_b (b := 100) hv hn (by decide) (by decide)
  refine cn_of MX9_textAt_ok (Nat.le_of_ble_eq_true rfl) ?_
  show Ex Γ l f MX9_textAt 0 [some (.ref 0), some (.int v)] [] G D R 0 0 _
  refine il1 dX9_textAt_0 ?_
  refine ex_bipush (v := 101) dX9_textAt_1 (by decide) ?_
  refine ex_icmp_lt 35 dX9_textAt_3 (by decide) (fun h3 => ?_) (fun h3 => ?_)
  · exact absurd h1.1 h3
  · refine il1 dX9_textAt_6 ?_
    refine ex_bipush (v := 101) dX9_textAt_7 (by decide) ?_
    refine al0 dX9_textAt_9 (by first | nofun | exact xrv_ne _) ?_
    refine gf9_69 rfl dX9_textAt_10 (fx0 hX) ?_
    refine ex_iadd dX9_textAt_13 ?_
    refine ex_icmp_ge 35 dX9_textAt_14 (by decide) (fun h14 => ?_) (fun h14 => ?_)
    · exact absurd h14 h1.2
    · refine il1 dX9_textAt_17 ?_
      refine ex_bipush (v := 121) dX9_textAt_18 (by decide) ?_
      refine ex_icmp_ge 35 dX9_textAt_20 (by decide) (fun h20 => ?_) (fun h20 => ?_)
      · exact absurd h20 (by rw [h2.2.2]; have := (vi_n h2.1 (by decide)).2; exact nI_ge (b := 121) (by omega) (by decide))
      · refine al0 dX9_textAt_23 (by first | nofun | exact xrv_ne _) ?_
        refine gf9_17 rfl dX9_textAt_24 (fr0_1 hX) (fx0 hX) ?_
        refine il1 dX9_textAt_27 ?_
        refine ex_bipush (v := 101) dX9_textAt_28 (by decide) ?_
        refine ex_isub dX9_textAt_30 ?_
        refine ey_aald dX9_textAt_31 (fx2 hX) (by decide) (by decide) h2.1 hb ?_
        refine ex_goto 36 dX9_textAt_32 (by decide) ?_
        refine ex_aret dX9_textAt_36 rfl (by first | nofun | exact xrv_ne _) ?_
        exact ⟨rfl, rfl, rfl, rfl⟩
set_option maxRecDepth 20000 in
set_option maxHeartbeats 1000000 in
theorem c_text_n {Γ : xGm} {l : Launch} {f : Nat} {G : xG} {D : xD} {R : xR} (hX : xFix G R) (hn : vp_in (D 0 9) 21) {v : Int32} (hv : sIn v 101 (100 + D 0 9) = false) : Cn Γ l f MX9_textAt [.ref 0, .int v] G D R 0 0 (xdet (some (xrv none)) G D R) := by
  refine cn_of MX9_textAt_ok (Nat.le_of_ble_eq_true rfl) ?_
  show Ex Γ l f MX9_textAt 0 [some (.ref 0), some (.int v)] [] G D R 0 0 _
  refine il1 dX9_textAt_0 ?_
  refine ex_bipush (v := 101) dX9_textAt_1 (by decide) ?_
  refine ex_icmp_lt 35 dX9_textAt_3 (by decide) (fun h3 => ?_) (fun h3 => ?_)
  · refine ex_null dX9_textAt_35 ?_
    refine ex_aret dX9_textAt_36 rfl (by first | nofun | exact xrv_ne _) ?_
    exact ⟨rfl, rfl, rfl, rfl⟩
  · refine il1 dX9_textAt_6 ?_
    refine ex_bipush (v := 101) dX9_textAt_7 (by decide) ?_
    refine al0 dX9_textAt_9 (by first | nofun | exact xrv_ne _) ?_
    refine gf9_69 rfl dX9_textAt_10 (fx0 hX) ?_
    refine ex_iadd dX9_textAt_13 ?_
    refine ex_icmp_ge 35 dX9_textAt_14 (by decide) (fun h14 => ?_) (fun h14 => ?_)
    · refine ex_null dX9_textAt_35 ?_
      refine ex_aret dX9_textAt_36 rfl (by first | nofun | exact xrv_ne _) ?_
      exact ⟨rfl, rfl, rfl, rfl⟩
    · exact absurd ((sIn_off (b := 100) hn (by decide) (by decide)).mpr ⟨h3, h14⟩) (by show ¬ sIn v 101 (100 + D 0 9) = true; rw [hv]; decide)
set_option maxRecDepth 20000 in
set_option maxHeartbeats 1000000 in
theorem c_routine_y {Γ : xGm} {l : Launch} {f : Nat} {G : xG} {D : xD} {R : xR} (hX : xFix G R) (hn : vp_in (D 0 10) 21) {v : Int32} {b : Nat} (hv : sIn v 201 (200 + D 0 10) = true) (hb : R 3 (ix (v - 201)) = some b) : Cn Γ l f MX9_routineAt [.ref 0, .int v] G D R 0 0 (xdet (some (xrv (some b))) G D R) := by
  have h1 := (sIn_off (b := 200) hn (by decide) (by decide)).mp hv
  have h2 := sIn_b (b := 200) hv hn (by decide) (by decide)
  refine cn_of MX9_routineAt_ok (Nat.le_of_ble_eq_true rfl) ?_
  show Ex Γ l f MX9_routineAt 0 [some (.ref 0), some (.int v)] [] G D R 0 0 _
  refine il1 dX9_routineAt_0 ?_
  refine ex_sipush (v := 201) dX9_routineAt_1 (by decide) ?_
  refine ex_icmp_lt 39 dX9_routineAt_4 (by decide) (fun h4 => ?_) (fun h4 => ?_)
  · exact absurd h1.1 h4
  · refine il1 dX9_routineAt_7 ?_
    refine ex_sipush (v := 201) dX9_routineAt_8 (by decide) ?_
    refine al0 dX9_routineAt_11 (by first | nofun | exact xrv_ne _) ?_
    refine gf9_72 rfl dX9_routineAt_12 (fx0 hX) ?_
    refine ex_iadd dX9_routineAt_15 ?_
    refine ex_icmp_ge 39 dX9_routineAt_16 (by decide) (fun h16 => ?_) (fun h16 => ?_)
    · exact absurd h16 h1.2
    · refine il1 dX9_routineAt_19 ?_
      refine ex_sipush (v := 221) dX9_routineAt_20 (by decide) ?_
      refine ex_icmp_ge 39 dX9_routineAt_23 (by decide) (fun h23 => ?_) (fun h23 => ?_)
      · exact absurd h23 (by rw [h2.2.2]; have := (vi_n h2.1 (by decide)).2; exact nI_ge (b := 221) (by omega) (by decide))
      · refine al0 dX9_routineAt_26 (by first | nofun | exact xrv_ne _) ?_
        refine gf9_23 rfl dX9_routineAt_27 (fr0_2 hX) (fx0 hX) ?_
        refine il1 dX9_routineAt_30 ?_
        refine ex_sipush (v := 201) dX9_routineAt_31 (by decide) ?_
        refine ex_isub dX9_routineAt_34 ?_
        refine ey_aald dX9_routineAt_35 (fx3 hX) (by decide) (by decide) h2.1 hb ?_
        refine ex_goto 40 dX9_routineAt_36 (by decide) ?_
        refine ex_aret dX9_routineAt_40 rfl (by first | nofun | exact xrv_ne _) ?_
        exact ⟨rfl, rfl, rfl, rfl⟩
set_option maxRecDepth 20000 in
set_option maxHeartbeats 1000000 in
theorem c_routine_n {Γ : xGm} {l : Launch} {f : Nat} {G : xG} {D : xD} {R : xR} (hX : xFix G R) (hn : vp_in (D 0 10) 21) {v : Int32} (hv : sIn v 201 (200 + D 0 10) = false) : Cn Γ l f MX9_routineAt [.ref 0, .int v] G D R 0 0 (xdet (some (xrv none)) G D R) := by
  refine cn_of MX9_routineAt_ok (Nat.le_of_ble_eq_true rfl) ?_
  show Ex Γ l f MX9_routineAt 0 [some (.ref 0), some (.int v)] [] G D R 0 0 _
  refine il1 dX9_routineAt_0 ?_
  refine ex_sipush (v := 201) dX9_routineAt_1 (by decide) ?_
  refine ex_icmp_lt 39 dX9_routineAt_4 (by decide) (fun h4 => ?_) (fun h4 => ?_)
  · refine ex_null dX9_routineAt_39 ?_
    refine ex_aret dX9_routineAt_40 rfl (by first | nofun | exact xrv_ne _) ?_
    exact ⟨rfl, rfl, rfl, rfl⟩
  · refine il1 dX9_routineAt_7 ?_
    refine ex_sipush (v := 201) dX9_routineAt_8 (by decide) ?_
    refine al0 dX9_routineAt_11 (by first | nofun | exact xrv_ne _) ?_
    refine gf9_72 rfl dX9_routineAt_12 (fx0 hX) ?_
    refine ex_iadd dX9_routineAt_15 ?_
    refine ex_icmp_ge 39 dX9_routineAt_16 (by decide) (fun h16 => ?_) (fun h16 => ?_)
    · refine ex_null dX9_routineAt_39 ?_
      refine ex_aret dX9_routineAt_40 rfl (by first | nofun | exact xrv_ne _) ?_
      exact ⟨rfl, rfl, rfl, rfl⟩
    · exact absurd ((sIn_off (b := 200) hn (by decide) (by decide)).mpr ⟨h4, h16⟩) (by show ¬ sIn v 201 (200 + D 0 10) = true; rw [hv]; decide)
set_option maxRecDepth 20000 in
set_option maxHeartbeats 1000000 in
theorem c_array_y {Γ : xGm} {l : Launch} {f : Nat} {G : xG} {D : xD} {R : xR} (hX : xFix G R) (hn : vp_in (D 0 11) 11) {v : Int32} {b : Nat} (hv : sIn v 301 (300 + D 0 11) = true) (hb : R 4 (ix (v - 301)) = some b) : Cn Γ l f MX9_arrayAt [.ref 0, .int v] G D R 0 0 (xdet (some (xrv (some b))) G D R) := by
  have h1 := (sIn_off (b := 300) hn (by decide) (by decide)).mp hv
  have h2 := sIn_b (b := 300) hv hn (by decide) (by decide)
  refine cn_of MX9_arrayAt_ok (Nat.le_of_ble_eq_true rfl) ?_
  show Ex Γ l f MX9_arrayAt 0 [some (.ref 0), some (.int v)] [] G D R 0 0 _
  refine il1 dX9_arrayAt_0 ?_
  refine ex_sipush (v := 301) dX9_arrayAt_1 (by decide) ?_
  refine ex_icmp_lt 39 dX9_arrayAt_4 (by decide) (fun h4 => ?_) (fun h4 => ?_)
  · exact absurd h1.1 h4
  · refine il1 dX9_arrayAt_7 ?_
    refine ex_sipush (v := 301) dX9_arrayAt_8 (by decide) ?_
    refine al0 dX9_arrayAt_11 (by first | nofun | exact xrv_ne _) ?_
    refine gf9_138 rfl dX9_arrayAt_12 (fx0 hX) ?_
    refine ex_iadd dX9_arrayAt_15 ?_
    refine ex_icmp_ge 39 dX9_arrayAt_16 (by decide) (fun h16 => ?_) (fun h16 => ?_)
    · exact absurd h16 h1.2
    · refine il1 dX9_arrayAt_19 ?_
      refine ex_sipush (v := 311) dX9_arrayAt_20 (by decide) ?_
      refine ex_icmp_ge 39 dX9_arrayAt_23 (by decide) (fun h23 => ?_) (fun h23 => ?_)
      · exact absurd h23 (by rw [h2.2.2]; have := (vi_n h2.1 (by decide)).2; exact nI_ge (b := 311) (by omega) (by decide))
      · refine al0 dX9_arrayAt_26 (by first | nofun | exact xrv_ne _) ?_
        refine gf9_29 rfl dX9_arrayAt_27 (fr0_3 hX) (fx0 hX) ?_
        refine il1 dX9_arrayAt_30 ?_
        refine ex_sipush (v := 301) dX9_arrayAt_31 (by decide) ?_
        refine ex_isub dX9_arrayAt_34 ?_
        refine ey_aald dX9_arrayAt_35 (fx4 hX) (by decide) (by decide) h2.1 hb ?_
        refine ex_goto 40 dX9_arrayAt_36 (by decide) ?_
        refine ex_aret dX9_arrayAt_40 rfl (by first | nofun | exact xrv_ne _) ?_
        exact ⟨rfl, rfl, rfl, rfl⟩
set_option maxRecDepth 20000 in
set_option maxHeartbeats 1000000 in
theorem c_array_n {Γ : xGm} {l : Launch} {f : Nat} {G : xG} {D : xD} {R : xR} (hX : xFix G R) (hn : vp_in (D 0 11) 11) {v : Int32} (hv : sIn v 301 (300 + D 0 11) = false) : Cn Γ l f MX9_arrayAt [.ref 0, .int v] G D R 0 0 (xdet (some (xrv none)) G D R) := by
  refine cn_of MX9_arrayAt_ok (Nat.le_of_ble_eq_true rfl) ?_
  show Ex Γ l f MX9_arrayAt 0 [some (.ref 0), some (.int v)] [] G D R 0 0 _
  refine il1 dX9_arrayAt_0 ?_
  refine ex_sipush (v := 301) dX9_arrayAt_1 (by decide) ?_
  refine ex_icmp_lt 39 dX9_arrayAt_4 (by decide) (fun h4 => ?_) (fun h4 => ?_)
  · refine ex_null dX9_arrayAt_39 ?_
    refine ex_aret dX9_arrayAt_40 rfl (by first | nofun | exact xrv_ne _) ?_
    exact ⟨rfl, rfl, rfl, rfl⟩
  · refine il1 dX9_arrayAt_7 ?_
    refine ex_sipush (v := 301) dX9_arrayAt_8 (by decide) ?_
    refine al0 dX9_arrayAt_11 (by first | nofun | exact xrv_ne _) ?_
    refine gf9_138 rfl dX9_arrayAt_12 (fx0 hX) ?_
    refine ex_iadd dX9_arrayAt_15 ?_
    refine ex_icmp_ge 39 dX9_arrayAt_16 (by decide) (fun h16 => ?_) (fun h16 => ?_)
    · refine ex_null dX9_arrayAt_39 ?_
      refine ex_aret dX9_arrayAt_40 rfl (by first | nofun | exact xrv_ne _) ?_
      exact ⟨rfl, rfl, rfl, rfl⟩
    · exact absurd ((sIn_off (b := 300) hn (by decide) (by decide)).mpr ⟨h4, h16⟩) (by show ¬ sIn v 301 (300 + D 0 11) = true; rw [hv]; decide)
/-! ===== what stands behind a number ===== -/
theorem Sim.n8 {D E : xD} {R : xR} {G : xG} (h : Sim D R G E) : vp_in (D 0 8) 41 := by rw [h.A.1]; exact h.B.n14
theorem Sim.n9 {D E : xD} {R : xR} {G : xG} (h : Sim D R G E) : vp_in (D 0 9) 21 := by rw [h.A.2.1]; exact h.B.n3
theorem Sim.n10 {D E : xD} {R : xR} {G : xG} (h : Sim D R G E) : vp_in (D 0 10) 21 := by rw [h.A.2.2.1]; exact h.B.n6
theorem Sim.n11 {D E : xD} {R : xR} {G : xG} (h : Sim D R G E) : vp_in (D 0 11) 11 := by rw [h.A.2.2.2.1]; exact h.B.n11
theorem sim_th {D E : xD} {R : xR} {G : xG} (h : Sim D R G E) {v : Int32} (hv : sIn v 1 (E 0 14) = true) : ∃ b, R 1 (ix v - 1) = some b ∧ th D R G b E (ix v) ∧ v = nI (ix v) ∧ 1 ≤ ix v ∧ ix v < 41 ∧ ix v ≤ ix (E 0 14) := by
  obtain ⟨e, h1, h2, -, -, h3⟩ := sIn_1 hv h.B.n14
  obtain ⟨b, b1, b2⟩ := h.th.1 (ix v) h1 h3
  exact ⟨b, b1, b2, e, h1, h2, h3⟩
theorem sim_tx {D E : xD} {R : xR} {G : xG} (h : Sim D R G E) {v : Int32} (hv : sIn v 101 (100 + E 0 3) = true) : ∃ b, R 2 (ix (v - 101)) = some b ∧ tx D R G b (fun k => E 3 (20 * ix (v - 101) + k)) (E 2 (ix (v - 101))) := by
  have h2 := sIn_b (b := 100) hv h.B.n3 (by decide) (by decide)
  exact h.tx.1 _ h2.2.1
theorem sim_ro {D E : xD} {R : xR} {G : xG} (h : Sim D R G E) {v : Int32} (hv : sIn v 201 (200 + E 0 6) = true) : ∃ b, R 3 (ix (v - 201)) = some b ∧ ro D R G b E (ix (v - 201)) ∧ ix (v - 201) < 20 ∧ vp_in (v - 201) 20 := by
  have h2 := sIn_b (b := 200) hv h.B.n6 (by decide) (by decide)
  obtain ⟨b, b1, b2⟩ := h.ro.1 _ h2.2.1
  exact ⟨b, b1, b2, (vi_n h2.1 (by decide)).2, h2.1⟩
theorem sim_ar {D E : xD} {R : xR} {G : xG} (h : Sim D R G E) {v : Int32} (hv : sIn v 301 (300 + E 0 11) = true) : ∃ b, R 4 (ix (v - 301)) = some b ∧ ar D R G b E (ix (v - 301)) ∧ ix (v - 301) < 10 := by
  have h2 := sIn_b (b := 300) hv h.B.n11 (by decide) (by decide)
  obtain ⟨b, b1, b2⟩ := h.ar.1 _ h2.2.1
  exact ⟨b, b1, b2, (vi_n h2.1 (by decide)).2⟩
theorem sMeta_i1 {E : xD} {v : Int32} (h : sIn v 1 (E 0 14) = true) (h1 : ¬ E 10 (ix v) = 0) : sMeta E v = 1 := by unfold sMeta; rw [if_pos h, if_pos h1]
theorem sMeta_i2 {E : xD} {v : Int32} (h : sIn v 1 (E 0 14) = true) (h1 : E 10 (ix v) = 0) (h2 : ¬ E 11 (ix v) = 0) : sMeta E v = 2 := by unfold sMeta; rw [if_pos h, if_neg (fun q => q h1), if_pos h2]
theorem sMeta_i0 {E : xD} {v : Int32} (h : sIn v 1 (E 0 14) = true) (h1 : E 10 (ix v) = 0) (h2 : E 11 (ix v) = 0) : sMeta E v = 0 := by unfold sMeta; rw [if_pos h, if_neg (fun q => q h1), if_neg (fun q => q h2)]
theorem sMeta_n12 {E : xD} {v : Int32} (h : sIn v 1 (E 0 14) = false) : ¬ sMeta E v = 1 ∧ ¬ sMeta E v = 2 := ⟨fun q => (by rw [sMeta_1 q] at h; cases h), fun q => (by rw [sMeta_2 q] at h; cases h)⟩
theorem sMeta_f1 {E : xD} {v : Int32} (h : sMeta E v = 1) : ¬ E 10 (ix v) = 0 := fun q => by
  have h1 := sMeta_1 h
  unfold sMeta at h
  rw [if_pos h1, if_neg (fun z => z q)] at h
  split at h <;> exact absurd h (by decide)
theorem sMeta_f2 {E : xD} {v : Int32} (h : sMeta E v = 2) : E 10 (ix v) = 0 ∧ ¬ E 11 (ix v) = 0 := by
  have h1 := sMeta_2 h
  unfold sMeta at h
  rw [if_pos h1] at h
  by_cases q : E 10 (ix v) = 0
  · rw [if_neg (fun z => z q)] at h
    by_cases q2 : E 11 (ix v) = 0
    · rw [if_neg (fun z => z q2)] at h
      exact absurd h (by decide)
    · exact ⟨q, q2⟩
  · rw [if_pos q] at h
    exact absurd h (by decide)
theorem nb {b : Bool} (h : ¬ b = true) : b = false := by simpa using h
set_option maxRecDepth 20000 in
set_option maxHeartbeats 1000000 in
theorem c_meta {Γ : xGm} {l : Launch} {f : Nat} {G : xG} {D E : xD} {R : xR} (hf : 1 ≤ f) (hS : Sim D R G E) {v : Int32} : Cn Γ l f MX9_meta [.ref 0, .int v] G D R 0 0 (xdet (some (.int (sMeta E v))) G D R) := by
  refine cn_of MX9_meta_ok (Nat.le_of_ble_eq_true rfl) ?_
  show Ex Γ l f MX9_meta 0 [some (.ref 0), some (.int v), none] [] G D R 0 0 _
  by_cases hv : sIn v 1 (E 0 14) = true
  · obtain ⟨b, hb, hth, ev, v1, v41, vle⟩ := sim_th hS hv
    obtain ⟨⟨hq, h3⟩, ⟨d0, d2, d4, d6⟩, htx, ⟨lq, hlq, hln⟩, hrw⟩ := id hth
    refine al0 dX9_meta_0 (by first | nofun | exact xrv_ne _) ?_
    refine il1 dX9_meta_1 ?_
    refine cd9_115 (f' := f - 1) rfl dX9_meta_2 (Nat.le_of_ble_eq_true rfl) (fx0 hS.X) (by omega) (c_thing_y hS.X hS.n8 (by rw [hS.A.1]; exact hv) hb) ?_
    refine as2 dX9_meta_5 (by first | nofun | exact xrv_ne _) ?_
    refine al2 dX9_meta_6 (by first | nofun | exact xrv_ne _) ?_
    refine ex_ifnull dX9_meta_7 ?_
    refine al2 dX9_meta_10 (by first | nofun | exact xrv_ne _) ?_
    refine gf9_203 rfl dX9_meta_11 hq ?_
    rw [d0]
    refine ex_if_eq 21 dX9_meta_14 (by decide) (fun h14 => ?_) (fun h14 => ?_)
    · refine al2 dX9_meta_21 (by first | nofun | exact xrv_ne _) ?_
      refine gf9_111 rfl dX9_meta_22 hq ?_
      rw [d4]
      refine ex_if_eq 32 dX9_meta_25 (by decide) (fun h25 => ?_) (fun h25 => ?_)
      · refine ex_iconst (v := 0) dX9_meta_32 (by decide) ?_
        refine ex_iret dX9_meta_33 rfl ?_
        refine ⟨?_, rfl, rfl, rfl⟩
        first | rw [sMeta_i1 hv h14] | rw [sMeta_i2 hv h14 h25] | rw [sMeta_i0 hv h14 h25]
      · refine ex_iconst (v := 2) dX9_meta_28 (by decide) ?_
        refine ex_goto 33 dX9_meta_29 (by decide) ?_
        refine ex_iret dX9_meta_33 rfl ?_
        refine ⟨?_, rfl, rfl, rfl⟩
        first | rw [sMeta_i1 hv h14] | rw [sMeta_i2 hv h14 h25] | rw [sMeta_i0 hv h14 h25]
    · refine ex_iconst (v := 1) dX9_meta_17 (by decide) ?_
      refine ex_goto 33 dX9_meta_18 (by decide) ?_
      refine ex_iret dX9_meta_33 rfl ?_
      refine ⟨?_, rfl, rfl, rfl⟩
      first | rw [sMeta_i1 hv h14] | rw [sMeta_i2 hv h14 h25] | rw [sMeta_i0 hv h14 h25]
  · have hv := nb hv
    by_cases hv2 : sIn v 101 (100 + E 0 3) = true
    · obtain ⟨b, hb, -⟩ := sim_tx hS hv2
      refine al0 dX9_meta_0 (by first | nofun | exact xrv_ne _) ?_
      refine il1 dX9_meta_1 ?_
      refine cd9_115 (f' := f - 1) rfl dX9_meta_2 (Nat.le_of_ble_eq_true rfl) (fx0 hS.X) (by omega) (c_thing_n hS.X hS.n8 (by rw [hS.A.1]; exact hv)) ?_
      refine as2 dX9_meta_5 (by first | nofun | exact xrv_ne _) ?_
      refine al2 dX9_meta_6 (by first | nofun | exact xrv_ne _) ?_
      refine ex_ifnullN 34 dX9_meta_7 (by decide) ?_
      refine al0 dX9_meta_34 (by first | nofun | exact xrv_ne _) ?_
      refine il1 dX9_meta_35 ?_
      refine cd9_143 (f' := f - 1) rfl dX9_meta_36 (Nat.le_of_ble_eq_true rfl) (fx0 hS.X) (by omega) (c_text_y hS.X hS.n9 (by rw [hS.A.2.1]; exact hv2) hb) ?_
      refine ex_ifnull dX9_meta_39 ?_
      refine ex_iconst (v := 3) dX9_meta_42 (by decide) ?_
      refine ex_iret dX9_meta_43 rfl ?_
      refine ⟨?_, rfl, rfl, rfl⟩
      unfold sMeta
      rw [hv, hv2]
      rfl
    · have hv2 := nb hv2
      by_cases hv3 : sIn v 201 (200 + E 0 6) = true
      · obtain ⟨b, hb, -⟩ := sim_ro hS hv3
        refine al0 dX9_meta_0 (by first | nofun | exact xrv_ne _) ?_
        refine il1 dX9_meta_1 ?_
        refine cd9_115 (f' := f - 1) rfl dX9_meta_2 (Nat.le_of_ble_eq_true rfl) (fx0 hS.X) (by omega) (c_thing_n hS.X hS.n8 (by rw [hS.A.1]; exact hv)) ?_
        refine as2 dX9_meta_5 (by first | nofun | exact xrv_ne _) ?_
        refine al2 dX9_meta_6 (by first | nofun | exact xrv_ne _) ?_
        refine ex_ifnullN 34 dX9_meta_7 (by decide) ?_
        refine al0 dX9_meta_34 (by first | nofun | exact xrv_ne _) ?_
        refine il1 dX9_meta_35 ?_
        refine cd9_143 (f' := f - 1) rfl dX9_meta_36 (Nat.le_of_ble_eq_true rfl) (fx0 hS.X) (by omega) (c_text_n hS.X hS.n9 (by rw [hS.A.2.1]; exact hv2)) ?_
        refine ex_ifnullN 44 dX9_meta_39 (by decide) ?_
        refine al0 dX9_meta_44 (by first | nofun | exact xrv_ne _) ?_
        refine il1 dX9_meta_45 ?_
        refine cd9_76 (f' := f - 1) rfl dX9_meta_46 (Nat.le_of_ble_eq_true rfl) (fx0 hS.X) (by omega) (c_routine_y hS.X hS.n10 (by rw [hS.A.2.2.1]; exact hv3) hb) ?_
        refine ex_ifnull dX9_meta_49 ?_
        refine ex_iconst (v := 4) dX9_meta_52 (by decide) ?_
        refine ex_iret dX9_meta_53 rfl ?_
        refine ⟨?_, rfl, rfl, rfl⟩
        unfold sMeta
        rw [hv, hv2, hv3]
        rfl
      · have hv3 := nb hv3
        by_cases hv4 : sIn v 301 (300 + E 0 11) = true
        · obtain ⟨b, hb, -⟩ := sim_ar hS hv4
          refine al0 dX9_meta_0 (by first | nofun | exact xrv_ne _) ?_
          refine il1 dX9_meta_1 ?_
          refine cd9_115 (f' := f - 1) rfl dX9_meta_2 (Nat.le_of_ble_eq_true rfl) (fx0 hS.X) (by omega) (c_thing_n hS.X hS.n8 (by rw [hS.A.1]; exact hv)) ?_
          refine as2 dX9_meta_5 (by first | nofun | exact xrv_ne _) ?_
          refine al2 dX9_meta_6 (by first | nofun | exact xrv_ne _) ?_
          refine ex_ifnullN 34 dX9_meta_7 (by decide) ?_
          refine al0 dX9_meta_34 (by first | nofun | exact xrv_ne _) ?_
          refine il1 dX9_meta_35 ?_
          refine cd9_143 (f' := f - 1) rfl dX9_meta_36 (Nat.le_of_ble_eq_true rfl) (fx0 hS.X) (by omega) (c_text_n hS.X hS.n9 (by rw [hS.A.2.1]; exact hv2)) ?_
          refine ex_ifnullN 44 dX9_meta_39 (by decide) ?_
          refine al0 dX9_meta_44 (by first | nofun | exact xrv_ne _) ?_
          refine il1 dX9_meta_45 ?_
          refine cd9_76 (f' := f - 1) rfl dX9_meta_46 (Nat.le_of_ble_eq_true rfl) (fx0 hS.X) (by omega) (c_routine_n hS.X hS.n10 (by rw [hS.A.2.2.1]; exact hv3)) ?_
          refine ex_ifnullN 54 dX9_meta_49 (by decide) ?_
          refine al0 dX9_meta_54 (by first | nofun | exact xrv_ne _) ?_
          refine il1 dX9_meta_55 ?_
          refine cd9_206 (f' := f - 1) rfl dX9_meta_56 (Nat.le_of_ble_eq_true rfl) (fx0 hS.X) (by omega) (c_array_y hS.X hS.n11 (by rw [hS.A.2.2.2.1]; exact hv4) hb) ?_
          refine ex_ifnull dX9_meta_59 ?_
          refine ex_iconst (v := 5) dX9_meta_62 (by decide) ?_
          refine ex_goto 67 dX9_meta_63 (by decide) ?_
          refine ex_iret dX9_meta_67 rfl ?_
          refine ⟨?_, rfl, rfl, rfl⟩
          unfold sMeta
          rw [hv, hv2, hv3, hv4]
          rfl
        · have hv4 := nb hv4
          refine al0 dX9_meta_0 (by first | nofun | exact xrv_ne _) ?_
          refine il1 dX9_meta_1 ?_
          refine cd9_115 (f' := f - 1) rfl dX9_meta_2 (Nat.le_of_ble_eq_true rfl) (fx0 hS.X) (by omega) (c_thing_n hS.X hS.n8 (by rw [hS.A.1]; exact hv)) ?_
          refine as2 dX9_meta_5 (by first | nofun | exact xrv_ne _) ?_
          refine al2 dX9_meta_6 (by first | nofun | exact xrv_ne _) ?_
          refine ex_ifnullN 34 dX9_meta_7 (by decide) ?_
          refine al0 dX9_meta_34 (by first | nofun | exact xrv_ne _) ?_
          refine il1 dX9_meta_35 ?_
          refine cd9_143 (f' := f - 1) rfl dX9_meta_36 (Nat.le_of_ble_eq_true rfl) (fx0 hS.X) (by omega) (c_text_n hS.X hS.n9 (by rw [hS.A.2.1]; exact hv2)) ?_
          refine ex_ifnullN 44 dX9_meta_39 (by decide) ?_
          refine al0 dX9_meta_44 (by first | nofun | exact xrv_ne _) ?_
          refine il1 dX9_meta_45 ?_
          refine cd9_76 (f' := f - 1) rfl dX9_meta_46 (Nat.le_of_ble_eq_true rfl) (fx0 hS.X) (by omega) (c_routine_n hS.X hS.n10 (by rw [hS.A.2.2.1]; exact hv3)) ?_
          refine ex_ifnullN 54 dX9_meta_49 (by decide) ?_
          refine al0 dX9_meta_54 (by first | nofun | exact xrv_ne _) ?_
          refine il1 dX9_meta_55 ?_
          refine cd9_206 (f' := f - 1) rfl dX9_meta_56 (Nat.le_of_ble_eq_true rfl) (fx0 hS.X) (by omega) (c_array_n hS.X hS.n11 (by rw [hS.A.2.2.2.1]; exact hv4)) ?_
          refine ex_ifnullN 66 dX9_meta_59 (by decide) ?_
          refine ex_iconst (v := 0) dX9_meta_66 (by decide) ?_
          refine ex_iret dX9_meta_67 rfl ?_
          refine ⟨?_, rfl, rfl, rfl⟩
          unfold sMeta
          rw [hv, hv2, hv3, hv4]
          rfl
set_option maxRecDepth 20000 in
set_option maxHeartbeats 1000000 in
theorem c_ans_y {Γ : xGm} {l : Launch} {f : Nat} {G : xG} {D E : xD} {R : xR} (hf : 1 ≤ f) (hS : Sim D R G E) {v : Int32} {b : Nat} (hM : sMeta E v = 1 ∨ sMeta E v = 2) (hb : R 1 (ix v - 1) = some b) (hth : th D R G b E (ix v)) : Cn Γ l f MX9_answeringThing [.ref 0, .int v] G D R 0 0 (xdet (some (xrv (some b))) G D R) := by
  refine cn_of MX9_answeringThing_ok (Nat.le_of_ble_eq_true rfl) ?_
  show Ex Γ l f MX9_answeringThing 0 [some (.ref 0), some (.int v), none] [] G D R 0 0 _
  have hv : sIn v 1 (E 0 14) = true := hM.elim sMeta_1 sMeta_2
  obtain ⟨⟨hq, h3⟩, ⟨d0, d2, d4, d6⟩, htx, ⟨lq, hlq, hln⟩, hrw⟩ := id hth
  refine al0 dX9_answeringThing_0 (by first | nofun | exact xrv_ne _) ?_
  refine il1 dX9_answeringThing_1 ?_
  refine cd9_115 (f' := f - 1) rfl dX9_answeringThing_2 (Nat.le_of_ble_eq_true rfl) (fx0 hS.X) (by omega) (c_thing_y hS.X hS.n8 (by rw [hS.A.1]; exact hv) hb) ?_
  refine as2 dX9_answeringThing_5 (by first | nofun | exact xrv_ne _) ?_
  refine al2 dX9_answeringThing_6 (by first | nofun | exact xrv_ne _) ?_
  refine ex_ifnull dX9_answeringThing_7 ?_
  refine al2 dX9_answeringThing_10 (by first | nofun | exact xrv_ne _) ?_
  refine gf9_203 rfl dX9_answeringThing_11 hq ?_
  rw [d0]
  refine ex_if_ne 24 dX9_answeringThing_14 (by decide) (fun h14 => ?_) (fun h14 => ?_)
  · refine al2 dX9_answeringThing_24 (by first | nofun | exact xrv_ne _) ?_
    refine ex_goto 29 dX9_answeringThing_25 (by decide) ?_
    refine ex_aret dX9_answeringThing_29 rfl (by first | nofun | exact xrv_ne _) ?_
    exact ⟨rfl, rfl, rfl, rfl⟩
  · refine al2 dX9_answeringThing_17 (by first | nofun | exact xrv_ne _) ?_
    refine gf9_111 rfl dX9_answeringThing_18 hq ?_
    rw [d4]
    refine ex_if_eq 28 dX9_answeringThing_21 (by decide) (fun h21 => ?_) (fun h21 => ?_)
    · exact hM.elim (fun q => absurd h14 (sMeta_f1 q)) (fun q => absurd h21 (sMeta_f2 q).2)
    · refine al2 dX9_answeringThing_24 (by first | nofun | exact xrv_ne _) ?_
      refine ex_goto 29 dX9_answeringThing_25 (by decide) ?_
      refine ex_aret dX9_answeringThing_29 rfl (by first | nofun | exact xrv_ne _) ?_
      exact ⟨rfl, rfl, rfl, rfl⟩
set_option maxRecDepth 20000 in
set_option maxHeartbeats 1000000 in
theorem c_ans_n {Γ : xGm} {l : Launch} {f : Nat} {G : xG} {D E : xD} {R : xR} (hf : 1 ≤ f) (hS : Sim D R G E) {v : Int32} (hM : ¬ sMeta E v = 1 ∧ ¬ sMeta E v = 2) : Cn Γ l f MX9_answeringThing [.ref 0, .int v] G D R 0 0 (xdet (some (xrv none)) G D R) := by
  refine cn_of MX9_answeringThing_ok (Nat.le_of_ble_eq_true rfl) ?_
  show Ex Γ l f MX9_answeringThing 0 [some (.ref 0), some (.int v), none] [] G D R 0 0 _
  by_cases hv : sIn v 1 (E 0 14) = true
  · obtain ⟨b, hb, hth, ev, v1, v41, vle⟩ := sim_th hS hv
    obtain ⟨⟨hq, h3⟩, ⟨d0, d2, d4, d6⟩, htx, ⟨lq, hlq, hln⟩, hrw⟩ := id hth
    refine al0 dX9_answeringThing_0 (by first | nofun | exact xrv_ne _) ?_
    refine il1 dX9_answeringThing_1 ?_
    refine cd9_115 (f' := f - 1) rfl dX9_answeringThing_2 (Nat.le_of_ble_eq_true rfl) (fx0 hS.X) (by omega) (c_thing_y hS.X hS.n8 (by rw [hS.A.1]; exact hv) hb) ?_
    refine as2 dX9_answeringThing_5 (by first | nofun | exact xrv_ne _) ?_
    refine al2 dX9_answeringThing_6 (by first | nofun | exact xrv_ne _) ?_
    refine ex_ifnull dX9_answeringThing_7 ?_
    refine al2 dX9_answeringThing_10 (by first | nofun | exact xrv_ne _) ?_
    refine gf9_203 rfl dX9_answeringThing_11 hq ?_
    rw [d0]
    refine ex_if_ne 24 dX9_answeringThing_14 (by decide) (fun h14 => ?_) (fun h14 => ?_)
    · exact absurd (sMeta_i1 hv h14) hM.1
    · refine al2 dX9_answeringThing_17 (by first | nofun | exact xrv_ne _) ?_
      refine gf9_111 rfl dX9_answeringThing_18 hq ?_
      rw [d4]
      refine ex_if_eq 28 dX9_answeringThing_21 (by decide) (fun h21 => ?_) (fun h21 => ?_)
      · refine ex_null dX9_answeringThing_28 ?_
        refine ex_aret dX9_answeringThing_29 rfl (by first | nofun | exact xrv_ne _) ?_
        exact ⟨rfl, rfl, rfl, rfl⟩
      · exact absurd (sMeta_i2 hv h14 h21) hM.2
  · have hv := nb hv
    refine al0 dX9_answeringThing_0 (by first | nofun | exact xrv_ne _) ?_
    refine il1 dX9_answeringThing_1 ?_
    refine cd9_115 (f' := f - 1) rfl dX9_answeringThing_2 (Nat.le_of_ble_eq_true rfl) (fx0 hS.X) (by omega) (c_thing_n hS.X hS.n8 (by rw [hS.A.1]; exact hv)) ?_
    refine as2 dX9_answeringThing_5 (by first | nofun | exact xrv_ne _) ?_
    refine al2 dX9_answeringThing_6 (by first | nofun | exact xrv_ne _) ?_
    refine ex_ifnullN 28 dX9_answeringThing_7 (by decide) ?_
    refine ex_null dX9_answeringThing_28 ?_
    refine ex_aret dX9_answeringThing_29 rfl (by first | nofun | exact xrv_ne _) ?_
    exact ⟨rfl, rfl, rfl, rfl⟩
theorem sim_ans {D E : xD} {R : xR} {G : xG} (h : Sim D R G E) {v : Int32} (hM : sMeta E v = 1 ∨ sMeta E v = 2) : ∃ b, R 1 (ix v - 1) = some b ∧ th D R G b E (ix v) ∧ v = nI (ix v) ∧ 1 ≤ ix v ∧ ix v < 41 ∧ ix v ≤ ix (E 0 14) := sim_th h (hM.elim sMeta_1 sMeta_2)
theorem rw_rk {D E : xD} {R : xR} {G : xG} {b v : Nat} (h : rw_ D R G b E v) : rk R G (b + 1) := ⟨h.1, h.2.1, h.2.2.1, h.2.2.2.1, h.2.2.2.2.1⟩
theorem rw_Rv {D E : xD} {R : xR} {G : xG} {b v : Nat} (h : rw_ D R G b E v) (hB : ∀ t, t < 492 → vp_in (E 15 t) 5) (hv : v < 41) : Rv D (b + 1) := fun n hn => by
  show vp_in (D (b + 2) n) 5
  rw [(h.2.2.2.2.2 n hn).1]
  exact hB _ (by omega)
theorem ix_12 {v : Nat} {n : Int32} (hv : v < 41) (hn : vp_in n 12) : ix (12 * nI v + n) = 12 * v + ix n := by
  have := (vi_ln (N := 492) 12 (vi_of (n := v) (N := 41) hv (by decide)) hn (by decide) (by decide) (by decide) (by decide)).2
  rw [ix_nI (by omega)] at this
  exact this
theorem rw_len {D E : xD} {R : xR} {G : xG} {b v : Nat} (h : rw_ D R G b E v) (hv : v < 41) {n : Int32} : rLen D (b + 1) n = sRowAt E (nI v) n := by
  unfold rLen sRowAt
  split
  next q =>
    have hn := vi_n11 q
    rw [ix_12 hv hn]
    exact (h.2.2.2.2.2 (ix n) (vi_n hn (by decide)).2).1
  next => rfl
set_option maxRecDepth 20000 in
set_option maxHeartbeats 1000000 in
theorem c_isOf {Γ : xGm} {l : Launch} {f : Nat} {G : xG} {D E : xD} {R : xR} (hf : 2 ≤ f) (hS : Sim D R G E) {v g : Int32} : Cn Γ l f MX9_isOf [.ref 0, .int v, .int g] G D R 0 0 (xdet (some (.int (bi (sIsOf E v g)))) G D R) := by
  refine cn_of MX9_isOf_ok (Nat.le_of_ble_eq_true rfl) ?_
  show Ex Γ l f MX9_isOf 0 [some (.ref 0), some (.int v), some (.int g), none] [] G D R 0 0 _
  by_cases hv : sIn v 1 (E 0 14) = true
  · obtain ⟨b, hb, hth, ev, v1, v41, vle⟩ := sim_th hS hv
    obtain ⟨⟨hq, h3⟩, ⟨d0, d2, d4, d6⟩, htx, ⟨lq, hlq, hln⟩, hrw⟩ := id hth
    refine al0 dX9_isOf_0 (by first | nofun | exact xrv_ne _) ?_
    refine il1 dX9_isOf_1 ?_
    refine cd9_115 (f' := f - 1) rfl dX9_isOf_2 (Nat.le_of_ble_eq_true rfl) (fx0 hS.X) (by omega) (c_thing_y hS.X hS.n8 (by rw [hS.A.1]; exact hv) hb) ?_
    refine as3 dX9_isOf_5 (by first | nofun | exact xrv_ne _) ?_
    refine al3 dX9_isOf_6 (by first | nofun | exact xrv_ne _) ?_
    refine ex_ifnull dX9_isOf_7 ?_
    refine al3 dX9_isOf_10 (by first | nofun | exact xrv_ne _) ?_
    refine gf9_203 rfl dX9_isOf_11 hq ?_
    rw [d0]
    refine ex_if_ne 39 dX9_isOf_14 (by decide) (fun h14 => ?_) (fun h14 => ?_)
    · refine ex_iconst (v := 0) dX9_isOf_39 (by decide) ?_
      refine ex_iret dX9_isOf_40 rfl ?_
      refine ⟨?_, rfl, rfl, rfl⟩
      unfold sIsOf
      first | rw [sMeta_i1 hv h14]; rfl | rw [sMeta_i0 hv h14 h21]; rfl | (rw [sMeta_i2 hv h14 h21, ← ev] at *; rw [← ev] at h32; simp [h32, bi])
    · refine al3 dX9_isOf_17 (by first | nofun | exact xrv_ne _) ?_
      refine gf9_111 rfl dX9_isOf_18 hq ?_
      rw [d4]
      refine ex_if_eq 39 dX9_isOf_21 (by decide) (fun h21 => ?_) (fun h21 => ?_)
      · refine ex_iconst (v := 0) dX9_isOf_39 (by decide) ?_
        refine ex_iret dX9_isOf_40 rfl ?_
        refine ⟨?_, rfl, rfl, rfl⟩
        unfold sIsOf
        first | rw [sMeta_i1 hv h14]; rfl | rw [sMeta_i0 hv h14 h21]; rfl | (rw [sMeta_i2 hv h14 h21, ← ev] at *; rw [← ev] at h32; simp [h32, bi])
      · refine al3 dX9_isOf_24 (by first | nofun | exact xrv_ne _) ?_
        refine gf9_210 rfl dX9_isOf_25 (hlq) hq ?_
        refine il2 dX9_isOf_28 ?_
        refine cd9_214 (f' := f - 1) rfl dX9_isOf_29 (Nat.le_of_ble_eq_true rfl) hln.1 (by omega) (c_lhas (by omega) hln (hS.I.2.1.2.2 _ v41).1 v41) ?_
        refine ex_if_eq 39 dX9_isOf_32 (by decide) (fun h32 => ?_) (fun h32 => ?_)
        · simp only [bi_0, Bool.not_eq_false] at h32
          refine ex_iconst (v := 0) dX9_isOf_39 (by decide) ?_
          refine ex_iret dX9_isOf_40 rfl ?_
          refine ⟨?_, rfl, rfl, rfl⟩
          unfold sIsOf
          first | rw [sMeta_i1 hv h14]; rfl | rw [sMeta_i0 hv h14 h21]; rfl | (rw [sMeta_i2 hv h14 h21, ← ev] at *; rw [← ev] at h32; simp [h32, bi])
        · simp only [bi_0, Bool.not_eq_false] at h32
          refine ex_iconst (v := 1) dX9_isOf_35 (by decide) ?_
          refine ex_goto 40 dX9_isOf_36 (by decide) ?_
          refine ex_iret dX9_isOf_40 rfl ?_
          refine ⟨?_, rfl, rfl, rfl⟩
          unfold sIsOf
          first | rw [sMeta_i1 hv h14]; rfl | rw [sMeta_i0 hv h14 h21]; rfl | (rw [sMeta_i2 hv h14 h21, ← ev] at *; rw [← ev] at h32; simp [h32, bi])
  · have hv := nb hv
    refine al0 dX9_isOf_0 (by first | nofun | exact xrv_ne _) ?_
    refine il1 dX9_isOf_1 ?_
    refine cd9_115 (f' := f - 1) rfl dX9_isOf_2 (Nat.le_of_ble_eq_true rfl) (fx0 hS.X) (by omega) (c_thing_n hS.X hS.n8 (by rw [hS.A.1]; exact hv)) ?_
    refine as3 dX9_isOf_5 (by first | nofun | exact xrv_ne _) ?_
    refine al3 dX9_isOf_6 (by first | nofun | exact xrv_ne _) ?_
    refine ex_ifnullN 39 dX9_isOf_7 (by decide) ?_
    refine ex_iconst (v := 0) dX9_isOf_39 (by decide) ?_
    refine ex_iret dX9_isOf_40 rfl ?_
    refine ⟨?_, rfl, rfl, rfl⟩
    unfold sIsOf
    have := (sMeta_n12 hv).2
    simp [this, bi]
set_option maxRecDepth 20000 in
set_option maxHeartbeats 1000000 in
theorem c_provides {Γ : xGm} {l : Launch} {f : Nat} {G : xG} {D E : xD} {R : xR} (hf : 2 ≤ f) (hS : Sim D R G E) {v n : Int32} : Cn Γ l f MX9_provides [.ref 0, .int v, .int n] G D R 0 0 (xdet (some (.int (sProvides E v n))) G D R) := by
  refine cn_of MX9_provides_ok (Nat.le_of_ble_eq_true rfl) ?_
  show Ex Γ l f MX9_provides 0 [some (.ref 0), some (.int v), some (.int n), none] [] G D R 0 0 _
  by_cases hM : sMeta E v = 1 ∨ sMeta E v = 2
  · obtain ⟨b, hb, hth, ev, v1, v41, vle⟩ := sim_ans hS hM
    obtain ⟨⟨hq, h3⟩, ⟨d0, d2, d4, d6⟩, htx, ⟨lq, hlq, hln⟩, hrw⟩ := id hth
    refine al0 dX9_provides_0 (by first | nofun | exact xrv_ne _) ?_
    refine il1 dX9_provides_1 ?_
    refine cd9_217 (f' := f - 1) rfl dX9_provides_2 (Nat.le_of_ble_eq_true rfl) (fx0 hS.X) (by omega) (c_ans_y (by omega) hS hM hb hth) ?_
    refine as3 dX9_provides_5 (by first | nofun | exact xrv_ne _) ?_
    refine al3 dX9_provides_6 (by first | nofun | exact xrv_ne _) ?_
    refine ex_ifnonnull 14 dX9_provides_7 (by decide) ?_
    refine al3 dX9_provides_14 (by first | nofun | exact xrv_ne _) ?_
    refine gf9_124 rfl dX9_provides_15 (h3) hq ?_
    refine il2 dX9_provides_18 ?_
    refine cd9_128 (f' := f - 1) rfl dX9_provides_19 (Nat.le_of_ble_eq_true rfl) hrw.1 (by omega) (c_len (by omega) (rw_rk hrw)) ?_
    refine ex_iret dX9_provides_22 rfl ?_
    refine ⟨?_, rfl, rfl, rfl⟩
    rw [rw_len hrw v41, ← ev]
    unfold sProvides
    rw [if_pos hM]
  · have hM2 : ¬ sMeta E v = 1 ∧ ¬ sMeta E v = 2 := ⟨fun q => hM (Or.inl q), fun q => hM (Or.inr q)⟩
    refine al0 dX9_provides_0 (by first | nofun | exact xrv_ne _) ?_
    refine il1 dX9_provides_1 ?_
    refine cd9_217 (f' := f - 1) rfl dX9_provides_2 (Nat.le_of_ble_eq_true rfl) (fx0 hS.X) (by omega) (c_ans_n (by omega) hS hM2) ?_
    refine as3 dX9_provides_5 (by first | nofun | exact xrv_ne _) ?_
    refine al3 dX9_provides_6 (by first | nofun | exact xrv_ne _) ?_
    refine ex_ifnonnullN dX9_provides_7 ?_
    refine ex_iconst (v := 0) dX9_provides_10 (by decide) ?_
    refine ex_goto 22 dX9_provides_11 (by decide) ?_
    refine ex_iret dX9_provides_22 rfl ?_
    refine ⟨?_, rfl, rfl, rfl⟩
    unfold sProvides
    rw [if_neg hM]
set_option maxRecDepth 20000 in
set_option maxHeartbeats 1000000 in
theorem c_noc {Γ : xGm} {l : Launch} {f : Nat} {G : xG} {D E : xD} {R : xR} (hf : 2 ≤ f) (hS : Sim D R G E) {v : Int32} : Cn Γ l f MX9_isNoneOrClass [.ref 0, .int v] G D R 0 0 (xdet (some (.int (bi (decide (v = 0) || sIsClass E v)))) G D R) := by
  refine cn_of MX9_isNoneOrClass_ok (Nat.le_of_ble_eq_true rfl) ?_
  show Ex Γ l f MX9_isNoneOrClass 0 [some (.ref 0), some (.int v)] [] G D R 0 0 _
  refine il1 dX9_isNoneOrClass_0 ?_
  refine ex_if_eq 13 dX9_isNoneOrClass_1 (by decide) (fun h1 => ?_) (fun h1 => ?_)
  · refine ex_iconst (v := 1) dX9_isNoneOrClass_13 (by decide) ?_
    refine ex_goto 18 dX9_isNoneOrClass_14 (by decide) ?_
    refine ex_zret dX9_isNoneOrClass_18 rfl (by decide) ?_
    refine ⟨?_, rfl, rfl, rfl⟩
    have hc : sIsClass E v = true ↔ sMeta E v = 1 := by
      rw [isC_iff]
      exact ⟨fun q => sMeta_i1 q.1 q.2, fun q => ⟨sMeta_1 q, sMeta_f1 q⟩⟩
    first | (simp [bi, h1]; done) | (rw [hc.mpr h10]; simp [bi]; done) | (rw [nb (fun q => h10 (hc.mp q))]; simp [bi, h1]; done)
  · refine al0 dX9_isNoneOrClass_4 (by first | nofun | exact xrv_ne _) ?_
    refine il1 dX9_isNoneOrClass_5 ?_
    refine cd9_172 (f' := f - 1) rfl dX9_isNoneOrClass_6 (Nat.le_of_ble_eq_true rfl) (fx0 hS.X) (by omega) (c_meta (by omega) hS) ?_
    refine ex_iconst (v := 1) dX9_isNoneOrClass_9 (by decide) ?_
    refine ex_icmp_ne 17 dX9_isNoneOrClass_10 (by decide) (fun h10 => ?_) (fun h10 => ?_)
    · refine ex_iconst (v := 0) dX9_isNoneOrClass_17 (by decide) ?_
      refine ex_zret dX9_isNoneOrClass_18 rfl (by decide) ?_
      refine ⟨?_, rfl, rfl, rfl⟩
      have hc : sIsClass E v = true ↔ sMeta E v = 1 := by
        rw [isC_iff]
        exact ⟨fun q => sMeta_i1 q.1 q.2, fun q => ⟨sMeta_1 q, sMeta_f1 q⟩⟩
      first | (simp [bi, h1]; done) | (rw [hc.mpr h10]; simp [bi]; done) | (rw [nb (fun q => h10 (hc.mp q))]; simp [bi, h1]; done)
    · refine ex_iconst (v := 1) dX9_isNoneOrClass_13 (by decide) ?_
      refine ex_goto 18 dX9_isNoneOrClass_14 (by decide) ?_
      refine ex_zret dX9_isNoneOrClass_18 rfl (by decide) ?_
      refine ⟨?_, rfl, rfl, rfl⟩
      have hc : sIsClass E v = true ↔ sMeta E v = 1 := by
        rw [isC_iff]
        exact ⟨fun q => sMeta_i1 q.1 q.2, fun q => ⟨sMeta_1 q, sMeta_f1 q⟩⟩
      first | (simp [bi, h1]; done) | (rw [hc.mpr h10]; simp [bi]; done) | (rw [nb (fun q => h10 (hc.mp q))]; simp [bi, h1]; done)
