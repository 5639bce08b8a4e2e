/-- the ranges of the reference's numbers -/
def RB (E : xD) : Prop := (vp_in (E 0 1) 21 ∧ vp_in (E 0 3) 21 ∧ vp_in (E 0 6) 21 ∧ vp_in (E 0 11) 11 ∧ vp_in (E 0 14) 41 ∧ vp_in (E 0 27) 31 ∧ vp_in (E 0 29) 401 ∧ vp_in (E 0 41) 201) ∧ (∀ t, t < 20 → vp_in (E 2 t) 21) ∧ (∀ t, t < 20 → vp_in (E 4 t) 9) ∧ (∀ t, t < 10 → vp_in (E 8 t) 11) ∧ (∀ t, t < 41 → vp_in (E 13 t) 41) ∧ (∀ t, t < 1681 → vp_in (E 14 t) 41) ∧ (∀ t, t < 492 → vp_in (E 15 t) 5) ∧ (∀ t, t < 41 → vp_in (E 19 t) 41 ∧ vp_in (E 20 t) 41 ∧ vp_in (E 21 t) 41) ∧ (∀ t, t < 41 → ¬ E 12 t = 0 → vp_in (E 12 t) 7 ∧ t + ix (E 12 t) ≤ ix (E 0 14)) ∧ (∀ t, t < 41 → E 17 t = 0 ∨ (101 ≤ E 17 t ∧ E 17 t ≤ 100 + E 0 3)) ∧ (∀ t, t < 160 → vp_in (E 5 t) 15)
theorem RB.n1 {E : xD} (h : RB E) : vp_in (E 0 1) 21 := h.1.1
theorem RB.n3 {E : xD} (h : RB E) : vp_in (E 0 3) 21 := h.1.2.1
theorem RB.n6 {E : xD} (h : RB E) : vp_in (E 0 6) 21 := h.1.2.2.1
theorem RB.n11 {E : xD} (h : RB E) : vp_in (E 0 11) 11 := h.1.2.2.2.1
theorem RB.n14 {E : xD} (h : RB E) : vp_in (E 0 14) 41 := h.1.2.2.2.2.1
theorem RB.n27 {E : xD} (h : RB E) : vp_in (E 0 27) 31 := h.1.2.2.2.2.2.1
theorem RB.n29 {E : xD} (h : RB E) : vp_in (E 0 29) 401 := h.1.2.2.2.2.2.2.1
theorem RB.n41 {E : xD} (h : RB E) : vp_in (E 0 41) 201 := h.1.2.2.2.2.2.2.2
theorem RB.a2 {E : xD} (h : RB E) {t : Nat} (ht : t < 20) : vp_in (E 2 t) 21 := h.2.1 t ht
theorem RB.a4 {E : xD} (h : RB E) {t : Nat} (ht : t < 20) : vp_in (E 4 t) 9 := h.2.2.1 t ht
theorem RB.a8 {E : xD} (h : RB E) {t : Nat} (ht : t < 10) : vp_in (E 8 t) 11 := h.2.2.2.1 t ht
theorem RB.a13 {E : xD} (h : RB E) {t : Nat} (ht : t < 41) : vp_in (E 13 t) 41 := h.2.2.2.2.1 t ht
theorem RB.a14 {E : xD} (h : RB E) {t : Nat} (ht : t < 1681) : vp_in (E 14 t) 41 := h.2.2.2.2.2.1 t ht
theorem RB.a15 {E : xD} (h : RB E) {t : Nat} (ht : t < 492) : vp_in (E 15 t) 5 := h.2.2.2.2.2.2.1 t ht
theorem RB.a19 {E : xD} (h : RB E) {t : Nat} (ht : t < 41) : vp_in (E 19 t) 41 := (h.2.2.2.2.2.2.2.1 t ht).1
theorem RB.a20 {E : xD} (h : RB E) {t : Nat} (ht : t < 41) : vp_in (E 20 t) 41 := (h.2.2.2.2.2.2.2.1 t ht).2.1
theorem RB.a21 {E : xD} (h : RB E) {t : Nat} (ht : t < 41) : vp_in (E 21 t) 41 := (h.2.2.2.2.2.2.2.1 t ht).2.2
theorem RB.a12 {E : xD} (h : RB E) {t : Nat} (ht : t < 41) (h0 : ¬ E 12 t = 0) : vp_in (E 12 t) 7 ∧ t + ix (E 12 t) ≤ ix (E 0 14) := h.2.2.2.2.2.2.2.2.1 t ht h0
theorem RB.a17 {E : xD} (h : RB E) {t : Nat} (ht : t < 41) : E 17 t = 0 ∨ (101 ≤ E 17 t ∧ E 17 t ≤ 100 + E 0 3) := h.2.2.2.2.2.2.2.2.2.1 t ht
theorem RB.a5 {E : xD} (h : RB E) {t : Nat} (ht : t < 160) : vp_in (E 5 t) 15 := h.2.2.2.2.2.2.2.2.2.2 t ht
/-- a number between 1 and the count of things -/
theorem RB.in14 {E : xD} (h : RB E) {v : Int32} (hv : sIn v 1 (E 0 14) = true) : vp_in v 41 := vi_btw (a := 1) h.n14 (sIn_t.mp hv).1 (sIn_t.mp hv).2 (by decide) (by decide)
theorem vi_lt41 {v : Int32} (h : vp_in v 41) : ix v < 41 := (vi_n h (by decide)).2
theorem vi_n11 {n : Int32} (h : sIn n 0 11 = true) : vp_in n 12 := vi_btw (a := 0) (x := 11) (A := 12) (vi_of (n := 11) (by decide) (by decide)) (sIn_t.mp h).1 (sIn_t.mp h).2 (by decide) (by decide)
theorem vi_pred {v x : Int32} {N : Nat} (hx : vp_in x (N + 1)) (hN : N + 1 < 2 ^ 30) (h : sIn v 0 (x - 1) = true) : vp_in v N := by
  obtain ⟨h1, h2⟩ := sIn_t.mp h
  obtain ⟨e, hlt⟩ := vi_n hx (by omega)
  rw [i32_le] at h1 h2
  have e2 : (x - 1).toInt = (ix x : Int) - 1 := by
    rw [e, show (1 : Int32) = nI 1 from rfl, pk_sub_toInt (by omega) (by decide), ix_nI (by omega)]
    rfl
  rw [e2] at h2
  rw [vp_in_iff]
  have : (0 : Int32).toInt = 0 := rfl
  omega
set_option maxRecDepth 20000 in
set_option maxHeartbeats 1000000 in
theorem r_in {Γ : xGm} {l : Launch} {f : Nat} {G : xG} {D E : xD} {R : xR} (hX : xFix G R) {v a b : Int32} : Cn Γ l f MX10_in [.int v, .int a, .int b] G (mg D E) R 0 0 (xdet (some (.int (bi (sIn v a b)))) G (mg D E) R) := by
  refine cn_of MX10_in_ok (Nat.le_of_ble_eq_true rfl) ?_
  show Ex Γ l f MX10_in 0 [some (.int v), some (.int a), some (.int b)] [] G (mg D E) R 0 0 _
  refine il0 dX10_in_0 ?_
  refine il1 dX10_in_1 ?_
  refine ex_icmp_lt 14 dX10_in_2 (by decide) (fun h2 => ?_) (fun h2 => ?_)
  · refine ex_iconst (v := 0) dX10_in_14 (by decide) ?_
    refine ex_zret dX10_in_15 rfl (by decide) ?_
    refine ⟨?_, rfl, rfl, rfl⟩
    simp only [sIn, bi, *, decide_true, decide_false, Bool.and_true, Bool.and_false, Bool.false_and, Bool.true_and]
  · refine il0 dX10_in_5 ?_
    refine il2 dX10_in_6 ?_
    refine ex_icmp_gt 14 dX10_in_7 (by decide) (fun h7 => ?_) (fun h7 => ?_)
    · refine ex_iconst (v := 0) dX10_in_14 (by decide) ?_
      refine ex_zret dX10_in_15 rfl (by decide) ?_
      refine ⟨?_, rfl, rfl, rfl⟩
      simp only [sIn, bi, *, decide_true, decide_false, Bool.and_true, Bool.and_false, Bool.false_and, Bool.true_and]
    · refine ex_iconst (v := 1) dX10_in_10 (by decide) ?_
      refine ex_goto 15 dX10_in_11 (by decide) ?_
      refine ex_zret dX10_in_15 rfl (by decide) ?_
      refine ⟨?_, rfl, rfl, rfl⟩
      simp only [sIn, bi, *, decide_true, decide_false, Bool.and_true, Bool.and_false, Bool.false_and, Bool.true_and]
set_option maxRecDepth 20000 in
set_option maxHeartbeats 1000000 in
theorem r_letter {Γ : xGm} {l : Launch} {f : Nat} {G : xG} {D E : xD} {R : xR} (hX : xFix G R) (hf : 1 ≤ f) (hB : RB E) {c : Int32} : Cn Γ l f MX10_letter [.ref 17, .int c] G (mg D E) R 0 0 (xdet (some (.int (sLetter E c).1)) G (mg D (sLetter E c).2) R) := by
  refine cn_of MX10_letter_ok (Nat.le_of_ble_eq_true rfl) ?_
  show Ex Γ l f MX10_letter 0 [some (.ref 17), some (.int c)] [] G (mg D E) R 0 0 _
  refine il1 dX10_letter_0 ?_
  refine ex_bipush (v := 32) dX10_letter_1 (by decide) ?_
  refine ex_bipush (v := 126) dX10_letter_3 (by decide) ?_
  refine cd10_102 (f' := f - 1) rfl dX10_letter_5 (Nat.le_of_ble_eq_true rfl) (by omega) (r_in hX) ?_
  refine ex_if_ne 14 dX10_letter_8 (by decide) (fun h8 => ?_) (fun h8 => ?_)
  · simp only [bi_0, Bool.not_eq_false] at h8
    refine al0 dX10_letter_14 (by first | nofun | exact xrv_ne _) ?_
    refine rf_106 hX rfl dX10_letter_15 ?_
    refine ex_bipush (v := 20) dX10_letter_18 (by decide) ?_
    refine ex_icmp_ne 26 dX10_letter_20 (by decide) (fun h20 => ?_) (fun h20 => ?_)
    · refine al0 dX10_letter_26 (by first | nofun | exact xrv_ne _) ?_
      refine rf_7 hX rfl dX10_letter_27 ?_
      refine al0 dX10_letter_30 (by first | nofun | exact xrv_ne _) ?_
      refine rf_106 hX rfl dX10_letter_31 ?_
      refine il1 dX10_letter_34 ?_
      refine rt_1 hX dX10_letter_35 (vi_ne hB.n1 (by decide) h20) ?_
      refine al0 dX10_letter_36 (by first | nofun | exact xrv_ne _) ?_
      refine ex_dup dX10_letter_37 ?_
      refine rf_106 hX rfl dX10_letter_38 ?_
      refine ex_iconst (v := 1) dX10_letter_41 (by decide) ?_
      refine ex_iadd dX10_letter_42 ?_
      refine rp_106 hX rfl dX10_letter_43 ?_
      refine al0 dX10_letter_46 (by first | nofun | exact xrv_ne _) ?_
      refine rf_106 hX rfl dX10_letter_47 ?_
      refine ex_iret dX10_letter_50 rfl ?_
      refine ⟨?_, rfl, ?_, rfl⟩ <;> simp [sLetter, xdu_self, upd_self, xdu_ne, upd_ne, *]
    · refine ex_bipush (v := (-4)) dX10_letter_23 (by decide) ?_
      refine ex_iret dX10_letter_25 rfl ?_
      refine ⟨?_, rfl, ?_, rfl⟩ <;> simp [sLetter, xdu_self, upd_self, xdu_ne, upd_ne, *]
  · simp only [bi_0, Bool.not_eq_false] at h8
    refine ex_bipush (v := (-3)) dX10_letter_11 (by decide) ?_
    refine ex_iret dX10_letter_13 rfl ?_
    refine ⟨?_, rfl, ?_, rfl⟩ <;> simp [sLetter, xdu_self, upd_self, xdu_ne, upd_ne, *]
set_option maxRecDepth 20000 in
set_option maxHeartbeats 1000000 in
theorem r_routine {Γ : xGm} {l : Launch} {f : Nat} {G : xG} {D E : xD} {R : xR} (hX : xFix G R) : Cn Γ l f MX10_routine [.ref 17] G (mg D E) R 0 0 (xdet (some (.int (sRoutine E).1)) G (mg D (sRoutine E).2) R) := by
  refine cn_of MX10_routine_ok (Nat.le_of_ble_eq_true rfl) ?_
  show Ex Γ l f MX10_routine 0 [some (.ref 17)] [] G (mg D E) R 0 0 _
  refine al0 dX10_routine_0 (by first | nofun | exact xrv_ne _) ?_
  refine rf_113 hX rfl dX10_routine_1 ?_
  refine ex_bipush (v := 20) dX10_routine_4 (by decide) ?_
  refine ex_icmp_ne 12 dX10_routine_6 (by decide) (fun h6 => ?_) (fun h6 => ?_)
  · refine al0 dX10_routine_12 (by first | nofun | exact xrv_ne _) ?_
    refine ex_dup dX10_routine_13 ?_
    refine rf_113 hX rfl dX10_routine_14 ?_
    refine ex_iconst (v := 1) dX10_routine_17 (by decide) ?_
    refine ex_iadd dX10_routine_18 ?_
    refine rp_113 hX rfl dX10_routine_19 ?_
    refine ex_sipush (v := 200) dX10_routine_22 (by decide) ?_
    refine al0 dX10_routine_25 (by first | nofun | exact xrv_ne _) ?_
    refine rf_113 hX rfl dX10_routine_26 ?_
    refine ex_iadd dX10_routine_29 ?_
    refine ex_iret dX10_routine_30 rfl ?_
    refine ⟨?_, rfl, ?_, rfl⟩ <;> simp [sRoutine, xdu_self, upd_self, xdu_ne, upd_ne, *]
  · refine ex_bipush (v := (-4)) dX10_routine_9 (by decide) ?_
    refine ex_iret dX10_routine_11 rfl ?_
    refine ⟨?_, rfl, ?_, rfl⟩ <;> simp [sRoutine, xdu_self, upd_self, xdu_ne, upd_ne, *]
set_option maxRecDepth 20000 in
set_option maxHeartbeats 1000000 in
theorem r_act {Γ : xGm} {l : Launch} {f : Nat} {G : xG} {D E : xD} {R : xR} (hX : xFix G R) (hf : 1 ≤ f) (hB : RB E) {r w a b : Int32} : Cn Γ l f MX10_act [.ref 17, .int r, .int w, .int a, .int b] G (mg D E) R 0 0 (xdet (some (.int (sAct E r w a b).1)) G (mg D (sAct E r w a b).2) R) := by
  have hr : sIn (r - 201) 0 (E 0 6 - 1) = true → vp_in (r - 201) 20 := fun h => vi_pred hB.n6 (by decide) h
  refine cn_of MX10_act_ok (Nat.le_of_ble_eq_true rfl) ?_
  show Ex Γ l f MX10_act 0 [some (.ref 17), some (.int r), some (.int w), some (.int a), some (.int b), none, none] [] G (mg D E) R 0 0 _
  refine il1 dX10_act_0 ?_
  refine ex_sipush (v := 201) dX10_act_1 (by decide) ?_
  refine ex_isub dX10_act_4 ?_
  refine is5 dX10_act_5 ?_
  refine il5 dX10_act_7 ?_
  refine ex_iconst (v := 0) dX10_act_9 (by decide) ?_
  refine al0 dX10_act_10 (by first | nofun | exact xrv_ne _) ?_
  refine rf_113 hX rfl dX10_act_11 ?_
  refine ex_iconst (v := 1) dX10_act_14 (by decide) ?_
  refine ex_isub dX10_act_15 ?_
  refine cd10_102 (f' := f - 1) rfl dX10_act_16 (Nat.le_of_ble_eq_true rfl) (by omega) (r_in hX) ?_
  refine ex_if_ne 25 dX10_act_19 (by decide) (fun h19 => ?_) (fun h19 => ?_)
  · simp only [bi_0, Bool.not_eq_false] at h19
    refine il2 dX10_act_25 ?_
    refine ex_iconst (v := 0) dX10_act_26 (by decide) ?_
    refine ex_bipush (v := 14) dX10_act_27 (by decide) ?_
    refine cd10_102 (f' := f - 1) rfl dX10_act_29 (Nat.le_of_ble_eq_true rfl) (by omega) (r_in hX) ?_
    refine ex_if_ne 38 dX10_act_32 (by decide) (fun h32 => ?_) (fun h32 => ?_)
    · simp only [bi_0, Bool.not_eq_false] at h32
      refine al0 dX10_act_38 (by first | nofun | exact xrv_ne _) ?_
      refine rf_19 hX rfl dX10_act_39 ?_
      refine il5 dX10_act_42 ?_
      refine rb_4 hX dX10_act_44 (hr h19) ?_
      refine ex_bipush (v := 8) dX10_act_45 (by decide) ?_
      refine ex_icmp_ne 53 dX10_act_47 (by decide) (fun h47 => ?_) (fun h47 => ?_)
      · refine ex_bipush (v := 8) dX10_act_53 (by decide) ?_
        refine il5 dX10_act_55 ?_
        refine ex_imul dX10_act_57 ?_
        refine al0 dX10_act_58 (by first | nofun | exact xrv_ne _) ?_
        refine rf_19 hX rfl dX10_act_59 ?_
        refine il5 dX10_act_62 ?_
        refine rb_4 hX dX10_act_64 (hr h19) ?_
        refine ex_iadd dX10_act_65 ?_
        refine is6 dX10_act_66 ?_
        refine al0 dX10_act_68 (by first | nofun | exact xrv_ne _) ?_
        refine rf_22 hX rfl dX10_act_69 ?_
        refine il6 dX10_act_72 ?_
        refine il2 dX10_act_74 ?_
        refine rt_5 hX dX10_act_75 (vi_ln 8 (hr h19) (vi_ne (hB.a4 (vi_n (hr h19) (by decide)).2) (by decide) h47) (by decide) (by decide) (by decide) (by decide)).1 ?_
        refine al0 dX10_act_76 (by first | nofun | exact xrv_ne _) ?_
        refine rf_25 hX rfl dX10_act_77 ?_
        refine il6 dX10_act_80 ?_
        refine il3 dX10_act_82 ?_
        refine rt_6 hX dX10_act_83 (vi_ln 8 (hr h19) (vi_ne (hB.a4 (vi_n (hr h19) (by decide)).2) (by decide) h47) (by decide) (by decide) (by decide) (by decide)).1 ?_
        refine al0 dX10_act_84 (by first | nofun | exact xrv_ne _) ?_
        refine rf_28 hX rfl dX10_act_85 ?_
        refine il6 dX10_act_88 ?_
        refine il4 dX10_act_90 ?_
        refine rt_7 hX dX10_act_92 (vi_ln 8 (hr h19) (vi_ne (hB.a4 (vi_n (hr h19) (by decide)).2) (by decide) h47) (by decide) (by decide) (by decide) (by decide)).1 ?_
        refine al0 dX10_act_93 (by first | nofun | exact xrv_ne _) ?_
        refine rf_19 hX rfl dX10_act_94 ?_
        refine il5 dX10_act_97 ?_
        refine ex_dup2 dX10_act_99 ?_
        refine rb_4 hX dX10_act_100 (hr h19) ?_
        refine ex_iconst (v := 1) dX10_act_101 (by decide) ?_
        refine ex_iadd dX10_act_102 ?_
        refine rt_4 hX dX10_act_103 (hr h19) ?_
        refine al0 dX10_act_104 (by first | nofun | exact xrv_ne _) ?_
        refine rf_19 hX rfl dX10_act_105 ?_
        refine il5 dX10_act_108 ?_
        refine rb_4 hX dX10_act_110 (hr h19) ?_
        refine ex_iret dX10_act_111 rfl ?_
        refine ⟨?_, rfl, ?_, rfl⟩ <;> simp [sAct, xdu_self, upd_self, xdu_ne, upd_ne, *]
      · refine ex_bipush (v := (-4)) dX10_act_50 (by decide) ?_
        refine ex_iret dX10_act_52 rfl ?_
        refine ⟨?_, rfl, ?_, rfl⟩ <;> simp [sAct, xdu_self, upd_self, xdu_ne, upd_ne, *]
    · simp only [bi_0, Bool.not_eq_false] at h32
      refine ex_bipush (v := (-3)) dX10_act_35 (by decide) ?_
      refine ex_iret dX10_act_37 rfl ?_
      refine ⟨?_, rfl, ?_, rfl⟩ <;> simp [sAct, xdu_self, upd_self, xdu_ne, upd_ne, *]
  · simp only [bi_0, Bool.not_eq_false] at h19
    refine ex_bipush (v := (-2)) dX10_act_22 (by decide) ?_
    refine ex_iret dX10_act_24 rfl ?_
    refine ⟨?_, rfl, ?_, rfl⟩ <;> simp [sAct, xdu_self, upd_self, xdu_ne, upd_ne, *]
set_option maxRecDepth 20000 in
set_option maxHeartbeats 1000000 in
theorem r_array {Γ : xGm} {l : Launch} {f : Nat} {G : xG} {D E : xD} {R : xR} (hX : xFix G R) (hf : 1 ≤ f) (hB : RB E) {w : Int32} : Cn Γ l f MX10_array [.ref 17, .int w] G (mg D E) R 0 0 (xdet (some (.int (sArray E w).1)) G (mg D (sArray E w).2) R) := by
  refine cn_of MX10_array_ok (Nat.le_of_ble_eq_true rfl) ?_
  show Ex Γ l f MX10_array 0 [some (.ref 17), some (.int w)] [] G (mg D E) R 0 0 _
  refine il1 dX10_array_0 ?_
  refine ex_iconst (v := 1) dX10_array_1 (by decide) ?_
  refine ex_bipush (v := 10) dX10_array_2 (by decide) ?_
  refine cd10_102 (f' := f - 1) rfl dX10_array_4 (Nat.le_of_ble_eq_true rfl) (by omega) (r_in hX) ?_
  refine ex_if_ne 13 dX10_array_7 (by decide) (fun h7 => ?_) (fun h7 => ?_)
  · simp only [bi_0, Bool.not_eq_false] at h7
    refine al0 dX10_array_13 (by first | nofun | exact xrv_ne _) ?_
    refine rf_116 hX rfl dX10_array_14 ?_
    refine ex_bipush (v := 10) dX10_array_17 (by decide) ?_
    refine ex_icmp_ne 25 dX10_array_19 (by decide) (fun h19 => ?_) (fun h19 => ?_)
    · refine al0 dX10_array_25 (by first | nofun | exact xrv_ne _) ?_
      refine rf_31 hX rfl dX10_array_26 ?_
      refine al0 dX10_array_29 (by first | nofun | exact xrv_ne _) ?_
      refine rf_116 hX rfl dX10_array_30 ?_
      refine il1 dX10_array_33 ?_
      refine rt_8 hX dX10_array_34 (vi_ne hB.n11 (by decide) h19) ?_
      refine al0 dX10_array_35 (by first | nofun | exact xrv_ne _) ?_
      refine ex_dup dX10_array_36 ?_
      refine rf_116 hX rfl dX10_array_37 ?_
      refine ex_iconst (v := 1) dX10_array_40 (by decide) ?_
      refine ex_iadd dX10_array_41 ?_
      refine rp_116 hX rfl dX10_array_42 ?_
      refine ex_sipush (v := 300) dX10_array_45 (by decide) ?_
      refine al0 dX10_array_48 (by first | nofun | exact xrv_ne _) ?_
      refine rf_116 hX rfl dX10_array_49 ?_
      refine ex_iadd dX10_array_52 ?_
      refine ex_iret dX10_array_53 rfl ?_
      refine ⟨?_, rfl, ?_, rfl⟩ <;> simp [sArray, xdu_self, upd_self, xdu_ne, upd_ne, *]
    · refine ex_bipush (v := (-4)) dX10_array_22 (by decide) ?_
      refine ex_iret dX10_array_24 rfl ?_
      refine ⟨?_, rfl, ?_, rfl⟩ <;> simp [sArray, xdu_self, upd_self, xdu_ne, upd_ne, *]
  · simp only [bi_0, Bool.not_eq_false] at h7
    refine ex_bipush (v := (-3)) dX10_array_10 (by decide) ?_
    refine ex_iret dX10_array_12 rfl ?_
    refine ⟨?_, rfl, ?_, rfl⟩ <;> simp [sArray, xdu_self, upd_self, xdu_ne, upd_ne, *]
set_option maxRecDepth 20000 in
set_option maxHeartbeats 1000000 in
theorem r_isClass {Γ : xGm} {l : Launch} {f : Nat} {G : xG} {D E : xD} {R : xR} (hX : xFix G R) (hf : 1 ≤ f) (hB : RB E) {v : Int32} : Cn Γ l f MX10_isClass [.ref 17, .int v] G (mg D E) R 0 0 (xdet (some (.int (bi (sIsClass E v)))) G (mg D E) R) := by
  refine cn_of MX10_isClass_ok (Nat.le_of_ble_eq_true rfl) ?_
  show Ex Γ l f MX10_isClass 0 [some (.ref 17), some (.int v)] [] G (mg D E) R 0 0 _
  refine il1 dX10_isClass_0 ?_
  refine ex_iconst (v := 1) dX10_isClass_1 (by decide) ?_
  refine al0 dX10_isClass_2 (by first | nofun | exact xrv_ne _) ?_
  refine rf_119 hX rfl dX10_isClass_3 ?_
  refine cd10_102 (f' := f - 1) rfl dX10_isClass_6 (Nat.le_of_ble_eq_true rfl) (by omega) (r_in hX) ?_
  refine ex_if_eq 25 dX10_isClass_9 (by decide) (fun h9 => ?_) (fun h9 => ?_)
  · simp only [bi_0, Bool.not_eq_false] at h9
    refine ex_iconst (v := 0) dX10_isClass_25 (by decide) ?_
    refine ex_zret dX10_isClass_26 rfl (by decide) ?_
    refine ⟨?_, rfl, rfl, rfl⟩
    simp [sIsClass, bi, *]
  · simp only [bi_0, Bool.not_eq_false] at h9
    refine al0 dX10_isClass_12 (by first | nofun | exact xrv_ne _) ?_
    refine rf_37 hX rfl dX10_isClass_13 ?_
    refine il1 dX10_isClass_16 ?_
    refine rb_10 hX dX10_isClass_17 (hB.in14 h9) ?_
    refine ex_if_eq 25 dX10_isClass_18 (by decide) (fun h18 => ?_) (fun h18 => ?_)
    · refine ex_iconst (v := 0) dX10_isClass_25 (by decide) ?_
      refine ex_zret dX10_isClass_26 rfl (by decide) ?_
      refine ⟨?_, rfl, rfl, rfl⟩
      simp [sIsClass, bi, *]
    · refine ex_iconst (v := 1) dX10_isClass_21 (by decide) ?_
      refine ex_goto 26 dX10_isClass_22 (by decide) ?_
      refine ex_zret dX10_isClass_26 rfl (by decide) ?_
      refine ⟨?_, rfl, rfl, rfl⟩
      simp [sIsClass, bi, *]
set_option maxRecDepth 20000 in
set_option maxHeartbeats 1000000 in
theorem r_meta {Γ : xGm} {l : Launch} {f : Nat} {G : xG} {D E : xD} {R : xR} (hX : xFix G R) (hf : 1 ≤ f) (hB : RB E) {v : Int32} : Cn Γ l f MX10_meta [.ref 17, .int v] G (mg D E) R 0 0 (xdet (some (.int (sMeta E v))) G (mg D E) R) := by
  refine cn_of MX10_meta_ok (Nat.le_of_ble_eq_true rfl) ?_
  show Ex Γ l f MX10_meta 0 [some (.ref 17), some (.int v)] [] G (mg D E) R 0 0 _
  refine il1 dX10_meta_0 ?_
  refine ex_iconst (v := 1) dX10_meta_1 (by decide) ?_
  refine al0 dX10_meta_2 (by first | nofun | exact xrv_ne _) ?_
  refine rf_119 hX rfl dX10_meta_3 ?_
  refine cd10_102 (f' := f - 1) rfl dX10_meta_6 (Nat.le_of_ble_eq_true rfl) (by omega) (r_in hX) ?_
  refine ex_if_eq 40 dX10_meta_9 (by decide) (fun h9 => ?_) (fun h9 => ?_)
  · simp only [bi_0, Bool.not_eq_false] at h9
    refine il1 dX10_meta_40 ?_
    refine ex_bipush (v := 101) dX10_meta_41 (by decide) ?_
    refine ex_bipush (v := 100) dX10_meta_43 (by decide) ?_
    refine al0 dX10_meta_45 (by first | nofun | exact xrv_ne _) ?_
    refine rf_110 hX rfl dX10_meta_46 ?_
    refine ex_iadd dX10_meta_49 ?_
    refine cd10_102 (f' := f - 1) rfl dX10_meta_50 (Nat.le_of_ble_eq_true rfl) (by omega) (r_in hX) ?_
    refine ex_if_eq 60 dX10_meta_53 (by decide) (fun h53 => ?_) (fun h53 => ?_)
    · simp only [bi_0, Bool.not_eq_false] at h53
      refine il1 dX10_meta_60 ?_
      refine ex_sipush (v := 201) dX10_meta_61 (by decide) ?_
      refine ex_sipush (v := 200) dX10_meta_64 (by decide) ?_
      refine al0 dX10_meta_67 (by first | nofun | exact xrv_ne _) ?_
      refine rf_113 hX rfl dX10_meta_68 ?_
      refine ex_iadd dX10_meta_71 ?_
      refine cd10_102 (f' := f - 1) rfl dX10_meta_72 (Nat.le_of_ble_eq_true rfl) (by omega) (r_in hX) ?_
      refine ex_if_eq 82 dX10_meta_75 (by decide) (fun h75 => ?_) (fun h75 => ?_)
      · simp only [bi_0, Bool.not_eq_false] at h75
        refine il1 dX10_meta_82 ?_
        refine ex_sipush (v := 301) dX10_meta_83 (by decide) ?_
        refine ex_sipush (v := 300) dX10_meta_86 (by decide) ?_
        refine al0 dX10_meta_89 (by first | nofun | exact xrv_ne _) ?_
        refine rf_116 hX rfl dX10_meta_90 ?_
        refine ex_iadd dX10_meta_93 ?_
        refine cd10_102 (f' := f - 1) rfl dX10_meta_94 (Nat.le_of_ble_eq_true rfl) (by omega) (r_in hX) ?_
        refine ex_if_eq 104 dX10_meta_97 (by decide) (fun h97 => ?_) (fun h97 => ?_)
        · simp only [bi_0, Bool.not_eq_false] at h97
          refine ex_iconst (v := 0) dX10_meta_104 (by decide) ?_
          refine ex_iret dX10_meta_105 rfl ?_
          refine ⟨?_, rfl, rfl, rfl⟩
          simp [sMeta, *]
        · simp only [bi_0, Bool.not_eq_false] at h97
          refine ex_iconst (v := 5) dX10_meta_100 (by decide) ?_
          refine ex_goto 105 dX10_meta_101 (by decide) ?_
          refine ex_iret dX10_meta_105 rfl ?_
          refine ⟨?_, rfl, rfl, rfl⟩
          simp [sMeta, *]
      · simp only [bi_0, Bool.not_eq_false] at h75
        refine ex_iconst (v := 4) dX10_meta_78 (by decide) ?_
        refine ex_goto 105 dX10_meta_79 (by decide) ?_
        refine ex_iret dX10_meta_105 rfl ?_
        refine ⟨?_, rfl, rfl, rfl⟩
        simp [sMeta, *]
    · simp only [bi_0, Bool.not_eq_false] at h53
      refine ex_iconst (v := 3) dX10_meta_56 (by decide) ?_
      refine ex_goto 105 dX10_meta_57 (by decide) ?_
      refine ex_iret dX10_meta_105 rfl ?_
      refine ⟨?_, rfl, rfl, rfl⟩
      simp [sMeta, *]
  · simp only [bi_0, Bool.not_eq_false] at h9
    refine al0 dX10_meta_12 (by first | nofun | exact xrv_ne _) ?_
    refine rf_37 hX rfl dX10_meta_13 ?_
    refine il1 dX10_meta_16 ?_
    refine rb_10 hX dX10_meta_17 (hB.in14 h9) ?_
    refine ex_if_eq 25 dX10_meta_18 (by decide) (fun h18 => ?_) (fun h18 => ?_)
    · refine al0 dX10_meta_25 (by first | nofun | exact xrv_ne _) ?_
      refine rf_41 hX rfl dX10_meta_26 ?_
      refine il1 dX10_meta_29 ?_
      refine rb_11 hX dX10_meta_30 (hB.in14 h9) ?_
      refine ex_if_eq 38 dX10_meta_31 (by decide) (fun h31 => ?_) (fun h31 => ?_)
      · refine ex_iconst (v := 0) dX10_meta_38 (by decide) ?_
        refine ex_iret dX10_meta_39 rfl ?_
        refine ⟨?_, rfl, rfl, rfl⟩
        simp [sMeta, *]
      · refine ex_iconst (v := 2) dX10_meta_34 (by decide) ?_
        refine ex_goto 39 dX10_meta_35 (by decide) ?_
        refine ex_iret dX10_meta_39 rfl ?_
        refine ⟨?_, rfl, rfl, rfl⟩
        simp [sMeta, *]
    · refine ex_iconst (v := 1) dX10_meta_21 (by decide) ?_
      refine ex_goto 39 dX10_meta_22 (by decide) ?_
      refine ex_iret dX10_meta_39 rfl ?_
      refine ⟨?_, rfl, rfl, rfl⟩
      simp [sMeta, *]
set_option maxRecDepth 20000 in
set_option maxHeartbeats 1000000 in
theorem r_newThing {Γ : xGm} {l : Launch} {f : Nat} {G : xG} {D E : xD} {R : xR} (hX : xFix G R) (hB : vp_in (E 0 14 + 1) 41) {b : Int32} (hb : b = 0 ∨ b = 1) : Cn Γ l f MX10_newThing [.ref 17, .int b] G (mg D E) R 0 0 (xdet (some (.int (E 0 14 + 1))) G (mg D (sNew E b)) R) := by
  refine cn_of MX10_newThing_ok (Nat.le_of_ble_eq_true rfl) ?_
  show Ex Γ l f MX10_newThing 0 [some (.ref 17), some (.int b)] [] G (mg D E) R 0 0 _
  refine al0 dX10_newThing_0 (by first | nofun | exact xrv_ne _) ?_
  refine ex_dup dX10_newThing_1 ?_
  refine rf_119 hX rfl dX10_newThing_2 ?_
  refine ex_iconst (v := 1) dX10_newThing_5 (by decide) ?_
  refine ex_iadd dX10_newThing_6 ?_
  refine rp_119 hX rfl dX10_newThing_7 ?_
  refine al0 dX10_newThing_10 (by first | nofun | exact xrv_ne _) ?_
  refine rf_37 hX rfl dX10_newThing_11 ?_
  refine al0 dX10_newThing_14 (by first | nofun | exact xrv_ne _) ?_
  refine rf_119 hX rfl dX10_newThing_15 ?_
  refine il1 dX10_newThing_18 ?_
  refine rt_10 hX dX10_newThing_19 hB hb ?_
  refine al0 dX10_newThing_20 (by first | nofun | exact xrv_ne _) ?_
  refine rf_119 hX rfl dX10_newThing_21 ?_
  refine ex_iret dX10_newThing_24 rfl ?_
  refine ⟨?_, rfl, ?_, rfl⟩ <;> simp [sNew, xdu_self, upd_self, xdu_ne, upd_ne, *]
theorem vi_n3 {n : Int32} (h : sIn n 0 3 = true) : vp_in n 4 := vi_btw (a := 0) (x := 3) (A := 4) (vi_of (n := 3) (by decide) (by decide)) (sIn_t.mp h).1 (sIn_t.mp h).2 (by decide) (by decide)
set_option maxRecDepth 20000 in
set_option maxHeartbeats 1000000 in
theorem r_value {Γ : xGm} {l : Launch} {f : Nat} {G : xG} {D E : xD} {R : xR} (hX : xFix G R) (hf : 1 ≤ f) (hB : RB E) {t n i v : Int32} : Cn Γ l f MX10_value [.ref 17, .int t, .int n, .int i, .int v] G (mg D E) R 0 0 (xdet (some (.int (sValue E t n i v).1)) G (mg D (sValue E t n i v).2) R) := by
  refine cn_of MX10_value_ok (Nat.le_of_ble_eq_true rfl) ?_
  show Ex Γ l f MX10_value 0 [some (.ref 17), some (.int t), some (.int n), some (.int i), some (.int v), none] [] G (mg D E) R 0 0 _
  refine il1 dX10_value_0 ?_
  refine ex_iconst (v := 1) dX10_value_1 (by decide) ?_
  refine al0 dX10_value_2 (by first | nofun | exact xrv_ne _) ?_
  refine rf_119 hX rfl dX10_value_3 ?_
  refine cd10_102 (f' := f - 1) rfl dX10_value_6 (Nat.le_of_ble_eq_true rfl) (by omega) (r_in hX) ?_
  refine ex_if_ne 15 dX10_value_9 (by decide) (fun h9 => ?_) (fun h9 => ?_)
  · simp only [bi_0, Bool.not_eq_false] at h9
    refine il2 dX10_value_15 ?_
    refine ex_iconst (v := 0) dX10_value_16 (by decide) ?_
    refine ex_bipush (v := 11) dX10_value_17 (by decide) ?_
    refine cd10_102 (f' := f - 1) rfl dX10_value_19 (Nat.le_of_ble_eq_true rfl) (by omega) (r_in hX) ?_
    refine ex_if_eq 49 dX10_value_22 (by decide) (fun h22 => ?_) (fun h22 => ?_)
    · simp only [bi_0, Bool.not_eq_false] at h22
      refine ex_bipush (v := (-3)) dX10_value_49 (by decide) ?_
      refine ex_iret dX10_value_51 rfl ?_
      refine ⟨?_, rfl, ?_, rfl⟩ <;> simp [sValue, xdu_self, upd_self, xdu_ne, upd_ne, *]
    · simp only [bi_0, Bool.not_eq_false] at h22
      refine il3 dX10_value_25 ?_
      refine ex_iconst (v := 0) dX10_value_26 (by decide) ?_
      refine ex_iconst (v := 3) dX10_value_27 (by decide) ?_
      refine cd10_102 (f' := f - 1) rfl dX10_value_28 (Nat.le_of_ble_eq_true rfl) (by omega) (r_in hX) ?_
      refine ex_if_eq 49 dX10_value_31 (by decide) (fun h31 => ?_) (fun h31 => ?_)
      · simp only [bi_0, Bool.not_eq_false] at h31
        refine ex_bipush (v := (-3)) dX10_value_49 (by decide) ?_
        refine ex_iret dX10_value_51 rfl ?_
        refine ⟨?_, rfl, ?_, rfl⟩ <;> simp [sValue, xdu_self, upd_self, xdu_ne, upd_ne, *]
      · simp only [bi_0, Bool.not_eq_false] at h31
        refine il3 dX10_value_34 ?_
        refine al0 dX10_value_35 (by first | nofun | exact xrv_ne _) ?_
        refine rf_53 hX rfl dX10_value_36 ?_
        refine ex_bipush (v := 12) dX10_value_39 (by decide) ?_
        refine il1 dX10_value_41 ?_
        refine ex_imul dX10_value_42 ?_
        refine il2 dX10_value_43 ?_
        refine ex_iadd dX10_value_44 ?_
        refine rb_15 hX dX10_value_45 (vi_ln (N := 492) 12 (hB.in14 h9) (vi_n11 h22) (by decide) (by decide) (by decide) (by decide)).1 ?_
        refine ex_icmp_le 52 dX10_value_46 (by decide) (fun h46 => ?_) (fun h46 => ?_)
        · refine ex_bipush (v := 12) dX10_value_52 (by decide) ?_
          refine il1 dX10_value_54 ?_
          refine ex_imul dX10_value_55 ?_
          refine il2 dX10_value_56 ?_
          refine ex_iadd dX10_value_57 ?_
          refine is5 dX10_value_58 ?_
          refine al0 dX10_value_60 (by first | nofun | exact xrv_ne _) ?_
          refine rf_56 hX rfl dX10_value_61 ?_
          refine ex_iconst (v := 4) dX10_value_64 (by decide) ?_
          refine il5 dX10_value_65 ?_
          refine ex_imul dX10_value_67 ?_
          refine il3 dX10_value_68 ?_
          refine ex_iadd dX10_value_69 ?_
          refine il4 dX10_value_70 ?_
          refine rt_16 hX dX10_value_72 (vi_ln 4 (vi_ln (N := 492) 12 (hB.in14 h9) (vi_n11 h22) (by decide) (by decide) (by decide) (by decide)).1 (vi_n3 h31) (by decide) (by decide) (by decide) (by decide)).1 ?_
          refine al0 dX10_value_73 (by first | nofun | exact xrv_ne _) ?_
          refine rf_53 hX rfl dX10_value_74 ?_
          refine il5 dX10_value_77 ?_
          refine il3 dX10_value_79 ?_
          refine al0 dX10_value_80 (by first | nofun | exact xrv_ne _) ?_
          refine rf_53 hX rfl dX10_value_81 ?_
          refine il5 dX10_value_84 ?_
          refine rb_15 hX dX10_value_86 (vi_ln (N := 492) 12 (hB.in14 h9) (vi_n11 h22) (by decide) (by decide) (by decide) (by decide)).1 ?_
          refine ex_icmp_ne 96 dX10_value_87 (by decide) (fun h87 => ?_) (fun h87 => ?_)
          · rw [xdu_ne _ _ _ (by decide)] at h87
            refine al0 dX10_value_96 (by first | nofun | exact xrv_ne _) ?_
            refine rf_53 hX rfl dX10_value_97 ?_
            refine il5 dX10_value_100 ?_
            refine rb_15 hX dX10_value_102 (vi_ln (N := 492) 12 (hB.in14 h9) (vi_n11 h22) (by decide) (by decide) (by decide) (by decide)).1 ?_
            refine rt_15 hX dX10_value_103 (vi_ln (N := 492) 12 (hB.in14 h9) (vi_n11 h22) (by decide) (by decide) (by decide) (by decide)).1 ?_
            refine al0 dX10_value_104 (by first | nofun | exact xrv_ne _) ?_
            refine rf_53 hX rfl dX10_value_105 ?_
            refine il5 dX10_value_108 ?_
            refine rb_15 hX dX10_value_110 (vi_ln (N := 492) 12 (hB.in14 h9) (vi_n11 h22) (by decide) (by decide) (by decide) (by decide)).1 ?_
            refine ex_iret dX10_value_111 rfl ?_
            refine ⟨?_, rfl, ?_, rfl⟩ <;> simp [sValue, xdu_self, upd_self, xdu_ne, upd_ne, *]
          · rw [xdu_ne _ _ _ (by decide)] at h87
            have g87 := eq_true h87
            clear h87
            refine il3 dX10_value_90 ?_
            refine ex_iconst (v := 1) dX10_value_91 (by decide) ?_
            refine ex_iadd dX10_value_92 ?_
            refine ex_goto 103 dX10_value_93 (by decide) ?_
            refine rt_15 hX dX10_value_103 (vi_ln (N := 492) 12 (hB.in14 h9) (vi_n11 h22) (by decide) (by decide) (by decide) (by decide)).1 ?_
            refine al0 dX10_value_104 (by first | nofun | exact xrv_ne _) ?_
            refine rf_53 hX rfl dX10_value_105 ?_
            refine il5 dX10_value_108 ?_
            refine rb_15 hX dX10_value_110 (vi_ln (N := 492) 12 (hB.in14 h9) (vi_n11 h22) (by decide) (by decide) (by decide) (by decide)).1 ?_
            refine ex_iret dX10_value_111 rfl ?_
            refine ⟨?_, rfl, ?_, rfl⟩ <;> simp [sValue, xdu_self, upd_self, xdu_ne, upd_ne, *]
        · refine ex_bipush (v := (-3)) dX10_value_49 (by decide) ?_
          refine ex_iret dX10_value_51 rfl ?_
          refine ⟨?_, rfl, ?_, rfl⟩ <;> simp [sValue, xdu_self, upd_self, xdu_ne, upd_ne, *]
  · simp only [bi_0, Bool.not_eq_false] at h9
    refine ex_bipush (v := (-2)) dX10_value_12 (by decide) ?_
    refine ex_iret dX10_value_14 rfl ?_
    refine ⟨?_, rfl, ?_, rfl⟩ <;> simp [sValue, xdu_self, upd_self, xdu_ne, upd_ne, *]
set_option maxRecDepth 20000 in
set_option maxHeartbeats 1000000 in
theorem r_called {Γ : xGm} {l : Launch} {f : Nat} {G : xG} {D E : xD} {R : xR} (hX : xFix G R) (hf : 2 ≤ f) (hB : RB E) {t x p : Int32} (hp : p = 0 ∨ p = 1) : Cn Γ l f MX10_called [.ref 17, .int t, .int x, .int p] G (mg D E) R 0 0 (xdet (some (.int (sCalled E t x p).1)) G (mg D (sCalled E t x p).2) R) := by
  refine cn_of MX10_called_ok (Nat.le_of_ble_eq_true rfl) ?_
  show Ex Γ l f MX10_called 0 [some (.ref 17), some (.int t), some (.int x), some (.int p)] [] G (mg D E) R 0 0 _
  refine il1 dX10_called_0 ?_
  refine ex_iconst (v := 1) dX10_called_1 (by decide) ?_
  refine al0 dX10_called_2 (by first | nofun | exact xrv_ne _) ?_
  refine rf_119 hX rfl dX10_called_3 ?_
  refine cd10_102 (f' := f - 1) rfl dX10_called_6 (Nat.le_of_ble_eq_true rfl) (by omega) (r_in hX) ?_
  refine ex_if_eq 25 dX10_called_9 (by decide) (fun h9 => ?_) (fun h9 => ?_)
  · simp only [bi_0, Bool.not_eq_false] at h9
    refine ex_bipush (v := (-2)) dX10_called_25 (by decide) ?_
    refine ex_iret dX10_called_27 rfl ?_
    refine ⟨?_, rfl, ?_, rfl⟩ <;> simp [sCalled, xdu_self, upd_self, xdu_ne, upd_ne, *]
  · simp only [bi_0, Bool.not_eq_false] at h9
    refine il2 dX10_called_12 ?_
    refine ex_if_eq 28 dX10_called_13 (by decide) (fun h13 => ?_) (fun h13 => ?_)
    · refine al0 dX10_called_28 (by first | nofun | exact xrv_ne _) ?_
      refine rf_59 hX rfl dX10_called_29 ?_
      refine il1 dX10_called_32 ?_
      refine il2 dX10_called_33 ?_
      refine rt_17 hX dX10_called_34 (hB.in14 h9) ?_
      refine al0 dX10_called_35 (by first | nofun | exact xrv_ne _) ?_
      refine rf_62 hX rfl dX10_called_36 ?_
      refine il1 dX10_called_39 ?_
      refine il3 dX10_called_40 ?_
      refine rt_18 hX dX10_called_41 (hB.in14 h9) hp ?_
      refine ex_iconst (v := 1) dX10_called_42 (by decide) ?_
      refine ex_iret dX10_called_43 rfl ?_
      refine ⟨?_, rfl, ?_, rfl⟩ <;> simp [sCalled, xdu_self, upd_self, xdu_ne, upd_ne, *]
    · refine al0 dX10_called_16 (by first | nofun | exact xrv_ne _) ?_
      refine il2 dX10_called_17 ?_
      refine cd10_141 (f' := f - 1) rfl dX10_called_18 (Nat.le_of_ble_eq_true rfl) (fx17 hX) (by omega) (r_meta hX (by omega) hB) ?_
      refine ex_iconst (v := 3) dX10_called_21 (by decide) ?_
      refine ex_icmp_eq 28 dX10_called_22 (by decide) (fun h22 => ?_) (fun h22 => ?_)
      · refine al0 dX10_called_28 (by first | nofun | exact xrv_ne _) ?_
        refine rf_59 hX rfl dX10_called_29 ?_
        refine il1 dX10_called_32 ?_
        refine il2 dX10_called_33 ?_
        refine rt_17 hX dX10_called_34 (hB.in14 h9) ?_
        refine al0 dX10_called_35 (by first | nofun | exact xrv_ne _) ?_
        refine rf_62 hX rfl dX10_called_36 ?_
        refine il1 dX10_called_39 ?_
        refine il3 dX10_called_40 ?_
        refine rt_18 hX dX10_called_41 (hB.in14 h9) hp ?_
        refine ex_iconst (v := 1) dX10_called_42 (by decide) ?_
        refine ex_iret dX10_called_43 rfl ?_
        refine ⟨?_, rfl, ?_, rfl⟩ <;> simp [sCalled, xdu_self, upd_self, xdu_ne, upd_ne, *]
      · refine ex_bipush (v := (-2)) dX10_called_25 (by decide) ?_
        refine ex_iret dX10_called_27 rfl ?_
        refine ⟨?_, rfl, ?_, rfl⟩ <;> simp [sCalled, xdu_self, upd_self, xdu_ne, upd_ne, *]
theorem vi_3 {x : Int32} (h : vp_in x 30) : vp_in (3 * x) 90 ∧ vp_in (3 * x + 1) 90 ∧ vp_in (3 * x + 2) 90 := ⟨(vi_sc 3 h (by decide) (by decide) (by decide)).1, (vi_ln 3 h (vi_of (n := 1) (N := 2) (by decide) (by decide)) (by decide) (by decide) (by decide) (by decide)).1, (vi_ln 3 h (vi_of (n := 2) (N := 3) (by decide) (by decide)) (by decide) (by decide) (by decide) (by decide)).1⟩
set_option maxRecDepth 20000 in
set_option maxHeartbeats 1000000 in
theorem r_fails {Γ : xGm} {l : Launch} {f : Nat} {G : xG} {D E : xD} {R : xR} (hX : xFix G R) (hB : vp_in (E 0 27) 31) {k a b : Int32} : Cn Γ l f MX10_fails [.ref 17, .int k, .int a, .int b] G (mg D E) R 0 0 (xdet (some (.int 0)) G (mg D (sFails E k a b)) R) := by
  refine cn_of MX10_fails_ok (Nat.le_of_ble_eq_true rfl) ?_
  show Ex Γ l f MX10_fails 0 [some (.ref 17), some (.int k), some (.int a), some (.int b)] [] G (mg D E) R 0 0 _
  refine al0 dX10_fails_0 (by first | nofun | exact xrv_ne _) ?_
  refine rf_98 hX rfl dX10_fails_1 ?_
  refine ex_if_eq 66 dX10_fails_4 (by decide) (fun h4 => ?_) (fun h4 => ?_)
  · refine ex_iconst (v := 0) dX10_fails_66 (by decide) ?_
    refine ex_iret dX10_fails_67 rfl ?_
    refine ⟨rfl, rfl, ?_, rfl⟩
    simp [sFails, xdu_self, upd_self, xdu_ne, upd_ne, *]
  · refine al0 dX10_fails_7 (by first | nofun | exact xrv_ne _) ?_
    refine rf_145 hX rfl dX10_fails_8 ?_
    refine ex_bipush (v := 30) dX10_fails_11 (by decide) ?_
    refine ex_icmp_ge 66 dX10_fails_13 (by decide) (fun h13 => ?_) (fun h13 => ?_)
    · refine ex_iconst (v := 0) dX10_fails_66 (by decide) ?_
      refine ex_iret dX10_fails_67 rfl ?_
      refine ⟨rfl, rfl, ?_, rfl⟩
      simp [sFails, xdu_self, upd_self, xdu_ne, upd_ne, *]
    · refine al0 dX10_fails_16 (by first | nofun | exact xrv_ne _) ?_
      refine rf_74 hX rfl dX10_fails_17 ?_
      refine ex_iconst (v := 3) dX10_fails_20 (by decide) ?_
      refine al0 dX10_fails_21 (by first | nofun | exact xrv_ne _) ?_
      refine rf_145 hX rfl dX10_fails_22 ?_
      refine ex_imul dX10_fails_25 ?_
      refine il1 dX10_fails_26 ?_
      refine rt_22 hX dX10_fails_27 (vi_3 (vi_lt hB (by decide) h13)).1 ?_
      refine al0 dX10_fails_28 (by first | nofun | exact xrv_ne _) ?_
      refine rf_74 hX rfl dX10_fails_29 ?_
      refine ex_iconst (v := 3) dX10_fails_32 (by decide) ?_
      refine al0 dX10_fails_33 (by first | nofun | exact xrv_ne _) ?_
      refine rf_145 hX rfl dX10_fails_34 ?_
      refine ex_imul dX10_fails_37 ?_
      refine ex_iconst (v := 1) dX10_fails_38 (by decide) ?_
      refine ex_iadd dX10_fails_39 ?_
      refine il2 dX10_fails_40 ?_
      refine rt_22 hX dX10_fails_41 (by simp only [xdu_ne _ _ _ (show (0 : Nat) ≠ 22 by decide)]; exact (vi_3 (vi_lt hB (by decide) h13)).2.1) ?_
      refine al0 dX10_fails_42 (by first | nofun | exact xrv_ne _) ?_
      refine rf_74 hX rfl dX10_fails_43 ?_
      refine ex_iconst (v := 3) dX10_fails_46 (by decide) ?_
      refine al0 dX10_fails_47 (by first | nofun | exact xrv_ne _) ?_
      refine rf_145 hX rfl dX10_fails_48 ?_
      refine ex_imul dX10_fails_51 ?_
      refine ex_iconst (v := 2) dX10_fails_52 (by decide) ?_
      refine ex_iadd dX10_fails_53 ?_
      refine il3 dX10_fails_54 ?_
      refine rt_22 hX dX10_fails_55 (by simp only [xdu_ne _ _ _ (show (0 : Nat) ≠ 22 by decide)]; exact (vi_3 (vi_lt hB (by decide) h13)).2.2) ?_
      refine al0 dX10_fails_56 (by first | nofun | exact xrv_ne _) ?_
      refine ex_dup dX10_fails_57 ?_
      refine rf_145 hX rfl dX10_fails_58 ?_
      refine ex_iconst (v := 1) dX10_fails_61 (by decide) ?_
      refine ex_iadd dX10_fails_62 ?_
      refine rp_145 hX rfl dX10_fails_63 ?_
      refine ex_iconst (v := 0) dX10_fails_66 (by decide) ?_
      refine ex_iret dX10_fails_67 rfl ?_
      refine ⟨rfl, rfl, ?_, rfl⟩
      simp [sFails, xdu_self, upd_self, xdu_ne, upd_ne, *]
set_option maxRecDepth 20000 in
set_option maxHeartbeats 1000000 in
theorem r_say {Γ : xGm} {l : Launch} {f : Nat} {G : xG} {D E : xD} {R : xR} (hX : xFix G R) (hB : vp_in (E 0 29) 401) {c : Int32} : Cn Γ l f MX10_say [.ref 17, .int c] G (mg D E) R 0 0 (xdet none G (mg D (sSay E c)) R) := by
  refine cn_of MX10_say_ok (Nat.le_of_ble_eq_true rfl) ?_
  show Ex Γ l f MX10_say 0 [some (.ref 17), some (.int c)] [] G (mg D E) R 0 0 _
  refine al0 dX10_say_0 (by first | nofun | exact xrv_ne _) ?_
  refine rf_148 hX rfl dX10_say_1 ?_
  refine ex_sipush (v := 400) dX10_say_4 (by decide) ?_
  refine ex_icmp_ge 30 dX10_say_7 (by decide) (fun h7 => ?_) (fun h7 => ?_)
  · refine ex_vret dX10_say_30 rfl ?_
    refine ⟨rfl, rfl, ?_, rfl⟩
    simp [sSay, xdu_self, upd_self, xdu_ne, upd_ne, *]
  · refine al0 dX10_say_10 (by first | nofun | exact xrv_ne _) ?_
    refine rf_77 hX rfl dX10_say_11 ?_
    refine al0 dX10_say_14 (by first | nofun | exact xrv_ne _) ?_
    refine rf_148 hX rfl dX10_say_15 ?_
    refine il1 dX10_say_18 ?_
    refine rt_23 hX dX10_say_19 (vi_lt hB (by decide) h7) ?_
    refine al0 dX10_say_20 (by first | nofun | exact xrv_ne _) ?_
    refine ex_dup dX10_say_21 ?_
    refine rf_148 hX rfl dX10_say_22 ?_
    refine ex_iconst (v := 1) dX10_say_25 (by decide) ?_
    refine ex_iadd dX10_say_26 ?_
    refine rp_148 hX rfl dX10_say_27 ?_
    refine ex_vret dX10_say_30 rfl ?_
    refine ⟨rfl, rfl, ?_, rfl⟩
    simp [sSay, xdu_self, upd_self, xdu_ne, upd_ne, *]
