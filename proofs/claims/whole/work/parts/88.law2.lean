set_option maxRecDepth 20000 in
set_option maxHeartbeats 1000000 in
theorem lw_loop {Γ : xGm} {l : Launch} {f : Nat} {nm : String} (hf : 130 ≤ f) (hN : scN Γ ≤ 2561) : ∀ (m i : Nat) (G : xG) (D : xD) (R : xR) (E : xD) (kc kw : Nat), scN Γ < i + 5 * m + 5 → i + 5 * m ≤ 2561 → Sim D R G E → D = mg D E → 30 * m ≤ kc → 525 * m ≤ kw → Ex Γ l f (ML nm) 28 [some (.ref 1000019), some (.ref 0), some (.ref 17), some (.int (nI i))] [] G D R kc kw lwQ := by
  intro m
  induction m with
  | zero =>
    intro i G D R E kc kw hm hi hS hD h30 h525
    refine il3 dL_law_28 ?_
    refine al0 dL_law_29 (by first | nofun | exact xrv_ne _) ?_
    refine ex_sclen dL_law_30 ?_
    refine ex_iconst (v := 5) dL_law_31 (by decide) ?_
    refine ex_isub dL_law_32 ?_
    refine ex_icmp_gt 1097 dL_law_33 (by decide) (fun h33 => ?_) (fun h33 => ?_)
    · refine ex_iconst (v := 1) dL_law_1097 (by decide) ?_
      refine ex_zret dL_law_1098 rfl (by decide) ?_
      exact rfl
    · exact absurd (sc_le (by omega) hN h33) (by omega)
  | succ m ih =>
    intro i G D R E kc kw hm hi hS hD h30 h525
    have hn : LwI Γ l f nm i (30 * m) (525 * m) := fun G D R E kc' kw' hS hD h1 h2 => by
      refine ic3 (nI (i + 5)) dL_law_1091 (by show nI i + nI 5 = _; rw [nI_add]) ?_
      refine ex_goto 28 dL_law_1094 (by decide) ?_
      exact ih (i + 5) G D R E kc' kw' (by omega) (by omega) hS hD h1 h2
    refine il3 dL_law_28 ?_
    refine al0 dL_law_29 (by first | nofun | exact xrv_ne _) ?_
    refine ex_sclen dL_law_30 ?_
    refine ex_iconst (v := 5) dL_law_31 (by decide) ?_
    refine ex_isub dL_law_32 ?_
    refine ex_icmp_gt 1097 dL_law_33 (by decide) (fun h33 => ?_) (fun h33 => ?_)
    · refine ex_iconst (v := 1) dL_law_1097 (by decide) ?_
      refine ex_zret dL_law_1098 rfl (by decide) ?_
      exact rfl
    · have hi5 := sc_le (by omega) hN h33
      refine al0 dL_law_36 (by first | nofun | exact xrv_ne _) ?_
      refine il3 dL_law_37 ?_
      refine ex_scld dL_law_38 (vi_of (by omega) (by omega)) ?_
      refine ex_bipush (v := 31) dL_law_39 (by decide) ?_
      refine ex_iand dL_law_41 ?_
      refine ex_table 0 1091 [164, 187, 200, 213, 266, 309, 342, 395, 418, 477, 520, 573, 616, 669, 702, 735, 768, 791, 824, 857, 890, 933, 966, 999, 1022, 1035, 1068] dL_law_42 (by decide) (by decide) (by decide) (by decide) (by decide) ⟨fun h42 => ?_, fun h42 => ?_, fun h42 => ?_, fun h42 => ?_, fun h42 => ?_, fun h42 => ?_, fun h42 => ?_, fun h42 => ?_, fun h42 => ?_, fun h42 => ?_, fun h42 => ?_, fun h42 => ?_, fun h42 => ?_, fun h42 => ?_, fun h42 => ?_, fun h42 => ?_, fun h42 => ?_, fun h42 => ?_, fun h42 => ?_, fun h42 => ?_, fun h42 => ?_, fun h42 => ?_, fun h42 => ?_, fun h42 => ?_, fun h42 => ?_, fun h42 => ?_, fun h42 => ?_, trivial⟩ (fun h42 => ?_)
      · change _ = (0 : Int32) at h42
        exact lw_c0 hf hn hi5 hN hS hD (by omega) (by omega)
      · change _ = (1 : Int32) at h42
        exact lw_c1 hf hn hi5 hN hS hD (by omega) (by omega)
      · change _ = (2 : Int32) at h42
        exact lw_c2 hf hn hi5 hN hS hD (by omega) (by omega)
      · change _ = (3 : Int32) at h42
        exact lw_c3 hf hn hi5 hN hS hD (by omega) (by omega)
      · change _ = (4 : Int32) at h42
        exact lw_c4 hf hn hi5 hN hS hD (by omega) (by omega)
      · change _ = (5 : Int32) at h42
        exact lw_c5 hf hn hi5 hN hS hD (by omega) (by omega)
      · change _ = (6 : Int32) at h42
        exact lw_c6 hf hn hi5 hN hS hD (by omega) (by omega)
      · change _ = (7 : Int32) at h42
        exact lw_c7 hf hn hi5 hN hS hD (by omega) (by omega)
      · change _ = (8 : Int32) at h42
        exact lw_c8 hf hn hi5 hN hS hD (by omega) (by omega)
      · change _ = (9 : Int32) at h42
        exact lw_c9 hf hn hi5 hN hS hD (by omega) (by omega)
      · change _ = (10 : Int32) at h42
        exact lw_c10 hf hn hi5 hN hS hD (by omega) (by omega)
      · change _ = (11 : Int32) at h42
        exact lw_c11 hf hn hi5 hN hS hD (by omega) (by omega)
      · change _ = (12 : Int32) at h42
        exact lw_c12 hf hn hi5 hN hS hD (by omega) (by omega)
      · change _ = (13 : Int32) at h42
        exact lw_c13 hf hn hi5 hN hS hD (by omega) (by omega)
      · change _ = (14 : Int32) at h42
        exact lw_c14 hf hn hi5 hN hS hD (by omega) (by omega)
      · change _ = (15 : Int32) at h42
        exact lw_c15 hf hn hi5 hN hS hD (by omega) (by omega)
      · change _ = (16 : Int32) at h42
        exact lw_c16 hf hn hi5 hN hS hD (by omega) (by omega)
      · change _ = (17 : Int32) at h42
        exact lw_c17 hf hn hi5 hN hS hD (by omega) (by omega)
      · change _ = (18 : Int32) at h42
        exact lw_c18 hf hn hi5 hN hS hD (by omega) (by omega)
      · change _ = (19 : Int32) at h42
        exact lw_c19 hf hn hi5 hN hS hD (by omega) (by omega)
      · change _ = (20 : Int32) at h42
        exact lw_c20 hf hn hi5 hN hS hD (by omega) (by omega)
      · change _ = (21 : Int32) at h42
        exact lw_c21 hf hn hi5 hN hS hD (by omega) (by omega)
      · change _ = (22 : Int32) at h42
        exact lw_c22 hf hn hi5 hN hS hD (by omega) (by omega)
      · change _ = (23 : Int32) at h42
        exact lw_c23 hf hn hi5 hN hS hD (by omega) (by omega)
      · change _ = (24 : Int32) at h42
        exact lw_c24 hf hn hi5 hN hS hD (by omega) (by omega)
      · change _ = (25 : Int32) at h42
        exact lw_c25 hf hn hi5 hN hS hD (by omega) (by omega)
      · change _ = (26 : Int32) at h42
        exact lw_c26 hf hn hi5 hN hS hD (by omega) (by omega)
      · obtain ⟨h42_0, h42_1, h42_2, h42_3, h42_4, h42_5, h42_6, h42_7, h42_8, h42_9, h42_10, h42_11, h42_12, h42_13, h42_14, h42_15, h42_16, h42_17, h42_18, h42_19, h42_20, h42_21, h42_22, h42_23, h42_24, h42_25, h42_26, -⟩ := h42
        change ¬ _ = (0 : Int32) at h42_0
        change ¬ _ = (1 : Int32) at h42_1
        change ¬ _ = (2 : Int32) at h42_2
        change ¬ _ = (3 : Int32) at h42_3
        change ¬ _ = (4 : Int32) at h42_4
        change ¬ _ = (5 : Int32) at h42_5
        change ¬ _ = (6 : Int32) at h42_6
        change ¬ _ = (7 : Int32) at h42_7
        change ¬ _ = (8 : Int32) at h42_8
        change ¬ _ = (9 : Int32) at h42_9
        change ¬ _ = (10 : Int32) at h42_10
        change ¬ _ = (11 : Int32) at h42_11
        change ¬ _ = (12 : Int32) at h42_12
        change ¬ _ = (13 : Int32) at h42_13
        change ¬ _ = (14 : Int32) at h42_14
        change ¬ _ = (15 : Int32) at h42_15
        change ¬ _ = (16 : Int32) at h42_16
        change ¬ _ = (17 : Int32) at h42_17
        change ¬ _ = (18 : Int32) at h42_18
        change ¬ _ = (19 : Int32) at h42_19
        change ¬ _ = (20 : Int32) at h42_20
        change ¬ _ = (21 : Int32) at h42_21
        change ¬ _ = (22 : Int32) at h42_22
        change ¬ _ = (23 : Int32) at h42_23
        change ¬ _ = (24 : Int32) at h42_24
        change ¬ _ = (25 : Int32) at h42_25
        change ¬ _ = (26 : Int32) at h42_26
        exact hn G D R E kc kw hS hD (by omega) (by omega)
set_option maxRecDepth 20000 in
set_option maxHeartbeats 1000000 in
theorem lw_body {Γ : xGm} {l : Launch} {f : Nat} {nm : String} (hf : 140 ≤ f) (hN : scN Γ ≤ 2561) : Ex Γ l f (ML nm) 0 [some (.ref 1000019), none, none, none] [] (0, fun _ => (0, 0)) (fun _ _ => 0) (fun _ _ => none) 15407 276014 lwQ := by
  have s0 : St 0 (fun _ _ => none) (fun _ _ => 0) (0, fun _ => (0, 0)) (fun _ _ => 0) (fun _ _ => none) := ⟨rfl, fun q hq => absurd hq (by omega), fun q hq => absurd hq (by omega)⟩
  refine nwL_7 (kc1 := 15406) (kw1 := 276000) rfl dL_law_0 (by omega) (by omega) ?_
  refine st_gen (n := 0) s0 rfl rfl rfl ?_
  intro G1 D1 R1 t1
  change St 1 _ _ _ _ _ at t1
  refine ex_dup dL_law_3 ?_
  refine al0 dL_law_4 (by first | nofun | exact xrv_ne _) ?_
  refine ex_iconst (v := 0) dL_law_5 (by decide) ?_
  refine cdL_9 (f' := f - 1) rfl dL_law_6 (Nat.le_of_ble_eq_true rfl) (by omega) (c_cell hN) ?_
  refine csL_15 (f' := f - 1) rfl dL_law_9 (Nat.le_of_ble_eq_true rfl) (by omega) (by omega) (by omega) (c_in9 (by omega) t1) ?_
  rintro v1 G9 D9 R9 ⟨rfl, r, s17, hr17, r07, r11, rn, rz⟩
  refine as1 dL_law_12 (by first | nofun | exact xrv_ne _) ?_
  refine nwL_18 (kc1 := 15389) (kw1 := 275182) rfl dL_law_13 (by omega) (by omega) ?_
  refine st_gen (n := 17) s17 rfl (by rw [xdu_ne _ _ _ (by decide)]) (rz 17 (by decide)) ?_
  intro G18 D18 R18 t18
  change St 18 _ _ _ _ _ at t18
  refine ex_dup dL_law_16 ?_
  refine al0 dL_law_17 (by first | nofun | exact xrv_ne _) ?_
  refine ex_iconst (v := 0) dL_law_18 (by decide) ?_
  refine cdL_9 (f' := f - 1) rfl dL_law_19 (Nat.le_of_ble_eq_true rfl) (by omega) (c_cell hN) ?_
  refine csL_20 (f' := f - 1) rfl dL_law_22 (Nat.le_of_ble_eq_true rfl) (by omega) (by omega) (by omega) (c_in10 (by omega) t18 (fun q hq => by rw [xdu_ne _ _ _ (by omega)]) (fun q hq => rz q hq)) ?_
  rintro v2 G2 D2 R2 ⟨rfl, r2, s47, hr47, hrr⟩
  have hfr : ∀ w ∈ fxR, r2 w.1 w.2.1 = some w.2.2 := fun w hw => by
    by_cases z : w.1 = 17
    · exact hr47 w hw z
    · rw [hrr w.1 z]
      exact hr17 w hw ((show ∀ w ∈ fxR, w.1 ≠ 17 → w.1 < 17 by decide) w hw z)
  obtain ⟨hS, hD⟩ := Sim_ini s47 hfr (by rw [hrr 0 (by decide)]; exact r07) (by rw [hrr 11 (by decide)]; exact r11) (fun k => by rw [hrr 2 (by decide)]; exact (rn k).2.1) (by unfold sB; split; exact Or.inl rfl; exact Or.inr rfl)
  refine as2 dL_law_25 (by first | nofun | exact xrv_ne _) ?_
  refine ex_iconst (v := 1) dL_law_26 (by decide) ?_
  refine is3 dL_law_27 ?_
  exact lw_loop (by omega) hN 512 1 G2 D2 R2 _ _ _ (by omega) (by omega) hS hD (by omega) (by omega)
