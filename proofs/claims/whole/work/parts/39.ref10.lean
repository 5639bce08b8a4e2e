theorem sIsOf_g {E : xD} (hI : Iv E) {v g : Int32} (h : sIsOf E v g = true) : isC E g ∧ vp_in g 41 ∧ sMeta E v = 2 := by
  unfold sIsOf at h
  rw [Bool.and_eq_true, decide_eq_true_eq] at h
  obtain ⟨h1, h2⟩ := h
  obtain ⟨a, rfl, a1, a2⟩ := sMeta_n hI.1 h1
  obtain ⟨i, i1, i2⟩ := (sAddTo_has a2 (hI.1.a13 a2)).mp h2
  have := (hI.2.1.2.2 a a2).2.1 i i1
  rw [i2] at this
  exact ⟨this, hI.1.in14 this.1, h1⟩
theorem sMeta_1n {E : xD} (hB : RB E) {v : Int32} (h : sMeta E v = 1) : ∃ a, v = nI a ∧ 1 ≤ a ∧ a < 41 := by
  have hs := sMeta_1 h
  have hv := hB.in14 hs
  have e := vi_n hv (by decide)
  have g := (sIn_t.mp hs).1
  rw [e.1] at g
  have := (nI_leI (a := 1) (by decide) (by omega)).mp g
  exact ⟨ix v, e.1, this, e.2⟩
def mEnds (S : xD) (t : Nat) : xD := mAns (xdu (xdu S 0 31 (nI t)) 0 32 (S 0 32 - 1)) (S 29 t)
noncomputable def mAct (S E : xD) (t : Nat) (c a b : Int32) : xD × xD :=
  if c = 0 then (xdu S 29 t a, E) else if c = 1 then (xdu S 29 t (S 28 t), E) else if c = 2 then (xdu S 29 t (S 27 t), E) else if c = 3 then (xdu S 29 t (S 29 t + a), E)
  else if c = 4 then (xdu S 29 t (sRead E (S 27 t) a b).1, (sRead E (S 27 t) a b).2) else if c = 5 then (S, (sWrite E (S 27 t) a b (S 29 t)).2)
  else if c = 6 then mSends S E (S 29 t) a b else if c = 7 then mSendsAs S E b (S 27 t) a (S 28 t) else if c = 8 then (S, (sMove E (S 27 t) (S 29 t)).2)
  else if c = 9 then (xdu S 29 t (sTree E (S 29 t) 0).1, (sTree E (S 29 t) 0).2) else if c = 10 then (xdu S 29 t (sTree E (S 29 t) 1).1, (sTree E (S 29 t) 1).2) else if c = 11 then (xdu S 29 t (sTree E (S 29 t) 2).1, (sTree E (S 29 t) 2).2)
  else if c = 12 then (if S 29 t = 0 then mEnds S t else S, E) else if c = 13 then (S, sName E (S 29 t) a)
  else (if sIsOf E (S 29 t) a = true then mEnds (xdu S 29 t (bi (sIsOf E (S 29 t) a))) t else xdu S 29 t (bi (sIsOf E (S 29 t) a)), E)
noncomputable def mStep (S E : xD) (t : Nat) : xD × xD := if S 26 t = E 4 (ix (S 25 t)) then (mEnds S t, E) else if E 0 41 = 200 then (mEnds S t, sSpend E (S 27 t)) else
  mAct (xdu S 26 t (S 26 t + 1)) (xdu E 0 41 (E 0 41 + 1)) t (E 5 (ix (8 * S 25 t + S 26 t))) (E 6 (ix (8 * S 25 t + S 26 t))) (E 7 (ix (8 * S 25 t + S 26 t)))
set_option maxRecDepth 20000 in
set_option maxHeartbeats 1000000 in
theorem q_sends {Γ : xGm} {l : Launch} {f : Nat} {G : xG} {D S E : xD} {R : xR} (hX : xFix G R) (hf : 6 ≤ f) (hI : Iv E) (ht : vp_in (S 0 31) 40) (ht2 : vp_in (S 0 31 + 1) 40) {o n w : Int32} : Cn Γ l f MX10_sends [.ref 17, .int o, .int n, .int w] G (mg D (ms S E)) R 0 0 (xdet none G (mg D (ms (mSends S E o n w).1 (mSends S E o n w).2)) R) := by
  refine cn_of MX10_sends_ok (Nat.le_of_ble_eq_true rfl) ?_
  show Ex Γ l f MX10_sends 0 [some (.ref 17), some (.int o), some (.int n), some (.int w), none] [] G (mg D (ms S E)) R 0 0 _
  refine al0 dX10_sends_0 (by first | nofun | exact xrv_ne _) ?_
  refine il1 dX10_sends_1 ?_
  refine cd10_141 (f' := f - 1) rfl dX10_sends_2 (Nat.le_of_ble_eq_true rfl) (fx17 hX) (by omega) (q_meta hX (by omega) hI.1) ?_
  refine is4 dX10_sends_5 ?_
  refine il4 dX10_sends_7 ?_
  refine ex_iconst (v := 1) dX10_sends_9 (by decide) ?_
  refine ex_icmp_ne 23 dX10_sends_10 (by decide) (fun h10 => ?_) (fun h10 => ?_)
  · refine il4 dX10_sends_23 ?_
    refine ex_iconst (v := 2) dX10_sends_25 (by decide) ?_
    refine ex_icmp_ne 39 dX10_sends_26 (by decide) (fun h26 => ?_) (fun h26 => ?_)
    · refine al0 dX10_sends_39 (by first | nofun | exact xrv_ne _) ?_
      refine al0 dX10_sends_40 (by first | nofun | exact xrv_ne _) ?_
      refine ex_iconst (v := 1) dX10_sends_41 (by decide) ?_
      refine il1 dX10_sends_42 ?_
      refine il2 dX10_sends_43 ?_
      refine cd10_174 (f' := f - 1) rfl dX10_sends_44 (Nat.le_of_ble_eq_true rfl) (fx17 hX) (by omega) (q_fails hX hI.1) ?_
      refine cd10_192 (f' := f - 1) rfl dX10_sends_47 (Nat.le_of_ble_eq_true rfl) (fx17 hX) (by omega) (q_answers hX) ?_
      refine ex_vret dX10_sends_50 rfl ?_
      refine ⟨rfl, rfl, ?_, rfl⟩
      simp [mSends, *]
    · refine al0 dX10_sends_29 (by first | nofun | exact xrv_ne _) ?_
      refine il1 dX10_sends_30 ?_
      refine il2 dX10_sends_31 ?_
      refine il3 dX10_sends_32 ?_
      refine cd10_208 (f' := f - 1) rfl dX10_sends_33 (Nat.le_of_ble_eq_true rfl) (fx17 hX) (by omega) (q_sendObject hX (by omega) hI.1 ht (hI.1.in14 (sMeta_2 h26))) ?_
      refine ex_goto 50 dX10_sends_36 (by decide) ?_
      refine ex_vret dX10_sends_50 rfl ?_
      refine ⟨rfl, rfl, ?_, rfl⟩
      simp [mSends, *]
  · obtain ⟨c, rfl, c1, c2⟩ := sMeta_1n hI.1 h10
    refine al0 dX10_sends_13 (by first | nofun | exact xrv_ne _) ?_
    refine il1 dX10_sends_14 ?_
    refine il2 dX10_sends_15 ?_
    refine il3 dX10_sends_16 ?_
    refine cd10_211 (f' := f - 1) rfl dX10_sends_17 (Nat.le_of_ble_eq_true rfl) (fx17 hX) (by omega) (q_sendGroup hX (by omega) hI ht ht2 c2) ?_
    refine ex_goto 50 dX10_sends_20 (by decide) ?_
    refine ex_vret dX10_sends_50 rfl ?_
    refine ⟨rfl, rfl, ?_, rfl⟩
    simp [mSends, *]
set_option maxRecDepth 20000 in
set_option maxHeartbeats 1000000 in
theorem q_sendsAs {Γ : xGm} {l : Launch} {f : Nat} {G : xG} {D S E : xD} {R : xR} (hX : xFix G R) (hf : 3 ≤ f) (hI : Iv E) (ht : vp_in (S 0 31) 40) {g o n w : Int32} : Cn Γ l f MX10_sendsAs [.ref 17, .int g, .int o, .int n, .int w] G (mg D (ms S E)) R 0 0 (xdet none G (mg D (ms (mSendsAs S E g o n w).1 (mSendsAs S E g o n w).2)) R) := by
  refine cn_of MX10_sendsAs_ok (Nat.le_of_ble_eq_true rfl) ?_
  show Ex Γ l f MX10_sendsAs 0 [some (.ref 17), some (.int g), some (.int o), some (.int n), some (.int w)] [] G (mg D (ms S E)) R 0 0 _
  refine al0 dX10_sendsAs_0 (by first | nofun | exact xrv_ne _) ?_
  refine il2 dX10_sendsAs_1 ?_
  refine cd10_141 (f' := f - 1) rfl dX10_sendsAs_2 (Nat.le_of_ble_eq_true rfl) (fx17 hX) (by omega) (q_meta hX (by omega) hI.1) ?_
  refine ex_iconst (v := 2) dX10_sendsAs_5 (by decide) ?_
  refine ex_icmp_eq 23 dX10_sendsAs_6 (by decide) (fun h6 => ?_) (fun h6 => ?_)
  · refine al0 dX10_sendsAs_23 (by first | nofun | exact xrv_ne _) ?_
    refine il2 dX10_sendsAs_24 ?_
    refine il1 dX10_sendsAs_25 ?_
    refine cd10_214 (f' := f - 1) rfl dX10_sendsAs_26 (Nat.le_of_ble_eq_true rfl) (fx17 hX) (by omega) (q_isOf hX (by omega) hI.1) ?_
    refine ex_if_ne 46 dX10_sendsAs_29 (by decide) (fun h29 => ?_) (fun h29 => ?_)
    · simp only [bi_0, Bool.not_eq_false] at h29
      refine al0 dX10_sendsAs_46 (by first | nofun | exact xrv_ne _) ?_
      refine il1 dX10_sendsAs_47 ?_
      refine il3 dX10_sendsAs_48 ?_
      refine cd10_166 (f' := f - 1) rfl dX10_sendsAs_49 (Nat.le_of_ble_eq_true rfl) (fx17 hX) (by omega) (q_rowAt hX (by omega) hI.1 (sIsOf_g hI h29).2.1) ?_
      refine ex_if_ne 69 dX10_sendsAs_52 (by decide) (fun h52 => ?_) (fun h52 => ?_)
      · refine al0 dX10_sendsAs_69 (by first | nofun | exact xrv_ne _) ?_
        refine al0 dX10_sendsAs_70 (by first | nofun | exact xrv_ne _) ?_
        refine rf_56 hX rfl dX10_sendsAs_71 ?_
        refine ex_iconst (v := 4) dX10_sendsAs_74 (by decide) ?_
        refine ex_bipush (v := 12) dX10_sendsAs_75 (by decide) ?_
        refine il1 dX10_sendsAs_77 ?_
        refine ex_imul dX10_sendsAs_78 ?_
        refine il3 dX10_sendsAs_79 ?_
        refine ex_iadd dX10_sendsAs_80 ?_
        refine ex_imul dX10_sendsAs_81 ?_
        refine qb_16 hX dX10_sendsAs_82 (vi_sc (N := 1968) 4 (vi_ln (N := 492) 12 (sIsOf_g hI h29).2.1 (sRowAt_n h52) (by decide) (by decide) (by decide) (by decide)).1 (by decide) (by decide) (by decide)).1 ?_
        refine il2 dX10_sendsAs_83 ?_
        refine il4 dX10_sendsAs_84 ?_
        refine cd10_202 (f' := f - 1) rfl dX10_sendsAs_86 (Nat.le_of_ble_eq_true rfl) (fx17 hX) (by omega) (q_does hX (by omega) hI.1 ht) ?_
        refine ex_vret dX10_sendsAs_89 rfl ?_
        refine ⟨rfl, rfl, ?_, rfl⟩
        simp [mSendsAs, *]
      · refine al0 dX10_sendsAs_55 (by first | nofun | exact xrv_ne _) ?_
        refine al0 dX10_sendsAs_56 (by first | nofun | exact xrv_ne _) ?_
        refine ex_iconst (v := 3) dX10_sendsAs_57 (by decide) ?_
        refine il2 dX10_sendsAs_58 ?_
        refine il3 dX10_sendsAs_59 ?_
        refine cd10_174 (f' := f - 1) rfl dX10_sendsAs_60 (Nat.le_of_ble_eq_true rfl) (fx17 hX) (by omega) (q_fails hX hI.1) ?_
        refine cd10_192 (f' := f - 1) rfl dX10_sendsAs_63 (Nat.le_of_ble_eq_true rfl) (fx17 hX) (by omega) (q_answers hX) ?_
        refine ex_goto 89 dX10_sendsAs_66 (by decide) ?_
        refine ex_vret dX10_sendsAs_89 rfl ?_
        refine ⟨rfl, rfl, ?_, rfl⟩
        simp [mSendsAs, *]
    · simp only [bi_0, Bool.not_eq_false] at h29
      refine al0 dX10_sendsAs_32 (by first | nofun | exact xrv_ne _) ?_
      refine al0 dX10_sendsAs_33 (by first | nofun | exact xrv_ne _) ?_
      refine ex_iconst (v := 4) dX10_sendsAs_34 (by decide) ?_
      refine il2 dX10_sendsAs_35 ?_
      refine il3 dX10_sendsAs_36 ?_
      refine cd10_174 (f' := f - 1) rfl dX10_sendsAs_37 (Nat.le_of_ble_eq_true rfl) (fx17 hX) (by omega) (q_fails hX hI.1) ?_
      refine cd10_192 (f' := f - 1) rfl dX10_sendsAs_40 (Nat.le_of_ble_eq_true rfl) (fx17 hX) (by omega) (q_answers hX) ?_
      refine ex_goto 89 dX10_sendsAs_43 (by decide) ?_
      refine ex_vret dX10_sendsAs_89 rfl ?_
      refine ⟨rfl, rfl, ?_, rfl⟩
      simp [mSendsAs, *]
  · refine al0 dX10_sendsAs_9 (by first | nofun | exact xrv_ne _) ?_
    refine al0 dX10_sendsAs_10 (by first | nofun | exact xrv_ne _) ?_
    refine ex_iconst (v := 1) dX10_sendsAs_11 (by decide) ?_
    refine il2 dX10_sendsAs_12 ?_
    refine il3 dX10_sendsAs_13 ?_
    refine cd10_174 (f' := f - 1) rfl dX10_sendsAs_14 (Nat.le_of_ble_eq_true rfl) (fx17 hX) (by omega) (q_fails hX hI.1) ?_
    refine cd10_192 (f' := f - 1) rfl dX10_sendsAs_17 (Nat.le_of_ble_eq_true rfl) (fx17 hX) (by omega) (q_answers hX) ?_
    refine ex_goto 89 dX10_sendsAs_20 (by decide) ?_
    refine ex_vret dX10_sendsAs_89 rfl ?_
    refine ⟨rfl, rfl, ?_, rfl⟩
    simp [mSendsAs, *]
set_option maxRecDepth 20000 in
set_option maxHeartbeats 1000000 in
theorem q_ends {Γ : xGm} {l : Launch} {f : Nat} {G : xG} {D S E : xD} {R : xR} (hX : xFix G R) (hf : 1 ≤ f) {t : Nat} (ht : t < 40) (h31 : S 0 31 = nI (t + 1)) : Cn Γ l f MX10_ends [.ref 17, .int (nI t)] G (mg D (ms S E)) R 0 0 (xdet none G (mg D (ms (mEnds S t) E)) R) := by
  refine cn_of MX10_ends_ok (Nat.le_of_ble_eq_true rfl) ?_
  show Ex Γ l f MX10_ends 0 [some (.ref 17), some (.int (nI t))] [] G (mg D (ms S E)) R 0 0 _
  refine al0 dX10_ends_0 (by first | nofun | exact xrv_ne _) ?_
  refine ex_dup dX10_ends_1 ?_
  refine qf_186 hX rfl dX10_ends_2 ?_
  refine ex_iconst (v := 1) dX10_ends_5 (by decide) ?_
  refine ex_isub dX10_ends_6 ?_
  rw [h31, nI_pred]
  refine qp_186 hX rfl dX10_ends_7 ?_
  refine al0 dX10_ends_10 (by first | nofun | exact xrv_ne _) ?_
  refine ex_dup dX10_ends_11 ?_
  refine qf_189 hX rfl dX10_ends_12 ?_
  refine ex_iconst (v := 1) dX10_ends_15 (by decide) ?_
  refine ex_isub dX10_ends_16 ?_
  refine qp_189 hX rfl dX10_ends_17 ?_
  refine al0 dX10_ends_20 (by first | nofun | exact xrv_ne _) ?_
  refine al0 dX10_ends_21 (by first | nofun | exact xrv_ne _) ?_
  refine rf_95 hX rfl dX10_ends_22 ?_
  refine il1 dX10_ends_25 ?_
  refine qb_29 hX dX10_ends_26 (vi_of ht (by decide)) ?_
  refine cd10_192 (f' := f - 1) rfl dX10_ends_27 (Nat.le_of_ble_eq_true rfl) (fx17 hX) (by omega) (q_answers hX) ?_
  refine ex_vret dX10_ends_30 rfl ?_
  refine ⟨rfl, rfl, ?_, rfl⟩
  simp [mEnds, xdu_self, upd_self, xdu_ne, upd_ne, ix_nI (show t < 2 ^ 31 by omega)]
set_option maxRecDepth 20000 in
set_option maxHeartbeats 1000000 in
theorem q_begins {Γ : xGm} {l : Launch} {f : Nat} {G : xG} {D S E : xD} {R : xR} (hX : xFix G R) : Cn Γ l f MX10_begins [.ref 17] G (mg D (ms S E)) R 0 0 (xdet none G (mg D (ms (xdu (xdu (xdu S 0 31 0) 0 32 0) 0 39 0) (sBegin E))) R) := by
  refine cn_of MX10_begins_ok (Nat.le_of_ble_eq_true rfl) ?_
  show Ex Γ l f MX10_begins 0 [some (.ref 17)] [] G (mg D (ms S E)) R 0 0 _
  refine al0 dX10_begins_0 (by first | nofun | exact xrv_ne _) ?_
  refine ex_iconst (v := 0) dX10_begins_1 (by decide) ?_
  refine qp_186 hX rfl dX10_begins_2 ?_
  refine al0 dX10_begins_5 (by first | nofun | exact xrv_ne _) ?_
  refine ex_iconst (v := 0) dX10_begins_6 (by decide) ?_
  refine qp_189 hX rfl dX10_begins_7 ?_
  refine al0 dX10_begins_10 (by first | nofun | exact xrv_ne _) ?_
  refine ex_iconst (v := 0) dX10_begins_11 (by decide) ?_
  refine qp_220 hX rfl dX10_begins_12 ?_
  refine al0 dX10_begins_15 (by first | nofun | exact xrv_ne _) ?_
  refine ex_iconst (v := 0) dX10_begins_16 (by decide) ?_
  refine qp_223 hX rfl dX10_begins_17 (by decide) ?_
  refine al0 dX10_begins_20 (by first | nofun | exact xrv_ne _) ?_
  refine ex_iconst (v := 0) dX10_begins_21 (by decide) ?_
  refine qp_180 hX rfl dX10_begins_22 (by decide) ?_
  refine ex_vret dX10_begins_25 rfl ?_
  refine ⟨rfl, rfl, ?_, rfl⟩
  rfl
set_option maxRecDepth 20000 in
set_option maxHeartbeats 1000000 in
theorem q_doAct {Γ : xGm} {l : Launch} {f : Nat} {G : xG} {D S E : xD} {R : xR} (hX : xFix G R) (hf : 7 ≤ f) (hI : Iv E) {t : Nat} (ht : t < 40) (h31 : S 0 31 = nI (t + 1)) (ht31 : vp_in (S 0 31) 40) (ht32 : vp_in (S 0 31 + 1) 40) {c a b : Int32} : Cn Γ l f MX10_doAct [.ref 17, .int (nI t), .int c, .int a, .int b] G (mg D (ms S E)) R 0 0 (xdet none G (mg D (ms (mAct S E t c a b).1 (mAct S E t c a b).2)) R) := by
  refine cn_of MX10_doAct_ok (Nat.le_of_ble_eq_true rfl) ?_
  show Ex Γ l f MX10_doAct 0 [some (.ref 17), some (.int (nI t)), some (.int c), some (.int a), some (.int b), none, none, none] [] G (mg D (ms S E)) R 0 0 _
  refine il2 dX10_doAct_0 ?_
  refine ex_table 0 286 [72, 82, 97, 112, 125, 147, 171, 187, 209, 230, 230, 230, 253, 270] dX10_doAct_1 (by decide) (by decide) (by decide) (by decide) (by decide) ⟨fun h1 => ?_, fun h1 => ?_, fun h1 => ?_, fun h1 => ?_, fun h1 => ?_, fun h1 => ?_, fun h1 => ?_, fun h1 => ?_, fun h1 => ?_, fun h1 => ?_, fun h1 => ?_, fun h1 => ?_, fun h1 => ?_, fun h1 => ?_, trivial⟩ (fun h1 => ?_)
  · change _ = (0 : Int32) at h1
    skip
    refine al0 dX10_doAct_72 (by first | nofun | exact xrv_ne _) ?_
    refine rf_95 hX rfl dX10_doAct_73 ?_
    refine il1 dX10_doAct_76 ?_
    refine il3 dX10_doAct_77 ?_
    refine qt_29 hX dX10_doAct_78 (vi_of ht (by decide)) ?_
    refine ex_goto 318 dX10_doAct_79 (by decide) ?_
    refine ex_vret dX10_doAct_318 rfl ?_
    refine ⟨rfl, rfl, ?_, rfl⟩
    simp_all [mAct, ix_nI (show t < 2 ^ 31 by omega), xdu_self, upd_self, bi_1]
  · change _ = (1 : Int32) at h1
    skip
    refine al0 dX10_doAct_82 (by first | nofun | exact xrv_ne _) ?_
    refine rf_95 hX rfl dX10_doAct_83 ?_
    refine il1 dX10_doAct_86 ?_
    refine al0 dX10_doAct_87 (by first | nofun | exact xrv_ne _) ?_
    refine rf_92 hX rfl dX10_doAct_88 ?_
    refine il1 dX10_doAct_91 ?_
    refine qb_28 hX dX10_doAct_92 (vi_of ht (by decide)) ?_
    refine qt_29 hX dX10_doAct_93 (vi_of ht (by decide)) ?_
    refine ex_goto 318 dX10_doAct_94 (by decide) ?_
    refine ex_vret dX10_doAct_318 rfl ?_
    refine ⟨rfl, rfl, ?_, rfl⟩
    simp_all [mAct, ix_nI (show t < 2 ^ 31 by omega), xdu_self, upd_self, bi_1]
  · change _ = (2 : Int32) at h1
    skip
    refine al0 dX10_doAct_97 (by first | nofun | exact xrv_ne _) ?_
    refine rf_95 hX rfl dX10_doAct_98 ?_
    refine il1 dX10_doAct_101 ?_
    refine al0 dX10_doAct_102 (by first | nofun | exact xrv_ne _) ?_
    refine rf_89 hX rfl dX10_doAct_103 ?_
    refine il1 dX10_doAct_106 ?_
    refine qb_27 hX dX10_doAct_107 (vi_of ht (by decide)) ?_
    refine qt_29 hX dX10_doAct_108 (vi_of ht (by decide)) ?_
    refine ex_goto 318 dX10_doAct_109 (by decide) ?_
    refine ex_vret dX10_doAct_318 rfl ?_
    refine ⟨rfl, rfl, ?_, rfl⟩
    simp_all [mAct, ix_nI (show t < 2 ^ 31 by omega), xdu_self, upd_self, bi_1]
  · change _ = (3 : Int32) at h1
    skip
    refine al0 dX10_doAct_112 (by first | nofun | exact xrv_ne _) ?_
    refine rf_95 hX rfl dX10_doAct_113 ?_
    refine il1 dX10_doAct_116 ?_
    refine ex_dup2 dX10_doAct_117 ?_
    refine qb_29 hX dX10_doAct_118 (vi_of ht (by decide)) ?_
    refine il3 dX10_doAct_119 ?_
    refine ex_iadd dX10_doAct_120 ?_
    refine qt_29 hX dX10_doAct_121 (vi_of ht (by decide)) ?_
    refine ex_goto 318 dX10_doAct_122 (by decide) ?_
    refine ex_vret dX10_doAct_318 rfl ?_
    refine ⟨rfl, rfl, ?_, rfl⟩
    simp_all [mAct, ix_nI (show t < 2 ^ 31 by omega), xdu_self, upd_self, bi_1]
  · change _ = (4 : Int32) at h1
    skip
    refine al0 dX10_doAct_125 (by first | nofun | exact xrv_ne _) ?_
    refine rf_95 hX rfl dX10_doAct_126 ?_
    refine il1 dX10_doAct_129 ?_
    refine al0 dX10_doAct_130 (by first | nofun | exact xrv_ne _) ?_
    refine al0 dX10_doAct_131 (by first | nofun | exact xrv_ne _) ?_
    refine rf_89 hX rfl dX10_doAct_132 ?_
    refine il1 dX10_doAct_135 ?_
    refine qb_27 hX dX10_doAct_136 (vi_of ht (by decide)) ?_
    refine il3 dX10_doAct_137 ?_
    refine il4 dX10_doAct_138 ?_
    refine cd10_230 (f' := f - 1) rfl dX10_doAct_140 (Nat.le_of_ble_eq_true rfl) (fx17 hX) (by omega) (q_read hX (by omega) hI.1) ?_
    refine qt_29 hX dX10_doAct_143 (vi_of ht (by decide)) ?_
    refine ex_goto 318 dX10_doAct_144 (by decide) ?_
    refine ex_vret dX10_doAct_318 rfl ?_
    refine ⟨rfl, rfl, ?_, rfl⟩
    simp_all [mAct, ix_nI (show t < 2 ^ 31 by omega), xdu_self, upd_self, bi_1]
  · change _ = (5 : Int32) at h1
    skip
    refine al0 dX10_doAct_147 (by first | nofun | exact xrv_ne _) ?_
    refine al0 dX10_doAct_148 (by first | nofun | exact xrv_ne _) ?_
    refine rf_89 hX rfl dX10_doAct_149 ?_
    refine il1 dX10_doAct_152 ?_
    refine qb_27 hX dX10_doAct_153 (vi_of ht (by decide)) ?_
    refine il3 dX10_doAct_154 ?_
    refine il4 dX10_doAct_155 ?_
    refine al0 dX10_doAct_157 (by first | nofun | exact xrv_ne _) ?_
    refine rf_95 hX rfl dX10_doAct_158 ?_
    refine il1 dX10_doAct_161 ?_
    refine qb_29 hX dX10_doAct_162 (vi_of ht (by decide)) ?_
    refine cd10_233 (f' := f - 1) rfl dX10_doAct_163 (Nat.le_of_ble_eq_true rfl) (fx17 hX) (by omega) (q_write hX (by omega) hI.1) ?_
    refine is5 dX10_doAct_166 ?_
    refine ex_goto 318 dX10_doAct_168 (by decide) ?_
    refine ex_vret dX10_doAct_318 rfl ?_
    refine ⟨rfl, rfl, ?_, rfl⟩
    simp_all [mAct, ix_nI (show t < 2 ^ 31 by omega), xdu_self, upd_self, bi_1]
  · change _ = (6 : Int32) at h1
    skip
    refine al0 dX10_doAct_171 (by first | nofun | exact xrv_ne _) ?_
    refine al0 dX10_doAct_172 (by first | nofun | exact xrv_ne _) ?_
    refine rf_95 hX rfl dX10_doAct_173 ?_
    refine il1 dX10_doAct_176 ?_
    refine qb_29 hX dX10_doAct_177 (vi_of ht (by decide)) ?_
    refine il3 dX10_doAct_178 ?_
    refine il4 dX10_doAct_179 ?_
    refine cd10_237 (f' := f - 1) rfl dX10_doAct_181 (Nat.le_of_ble_eq_true rfl) (fx17 hX) (by omega) (q_sends hX (by omega) hI ht31 ht32) ?_
    refine ex_goto 318 dX10_doAct_184 (by decide) ?_
    refine ex_vret dX10_doAct_318 rfl ?_
    refine ⟨rfl, rfl, ?_, rfl⟩
    simp_all [mAct, ix_nI (show t < 2 ^ 31 by omega), xdu_self, upd_self, bi_1]
  · change _ = (7 : Int32) at h1
    skip
    refine al0 dX10_doAct_187 (by first | nofun | exact xrv_ne _) ?_
    refine il4 dX10_doAct_188 ?_
    refine al0 dX10_doAct_190 (by first | nofun | exact xrv_ne _) ?_
    refine rf_89 hX rfl dX10_doAct_191 ?_
    refine il1 dX10_doAct_194 ?_
    refine qb_27 hX dX10_doAct_195 (vi_of ht (by decide)) ?_
    refine il3 dX10_doAct_196 ?_
    refine al0 dX10_doAct_197 (by first | nofun | exact xrv_ne _) ?_
    refine rf_92 hX rfl dX10_doAct_198 ?_
    refine il1 dX10_doAct_201 ?_
    refine qb_28 hX dX10_doAct_202 (vi_of ht (by decide)) ?_
    refine cd10_240 (f' := f - 1) rfl dX10_doAct_203 (Nat.le_of_ble_eq_true rfl) (fx17 hX) (by omega) (q_sendsAs hX (by omega) hI ht31) ?_
    refine ex_goto 318 dX10_doAct_206 (by decide) ?_
    refine ex_vret dX10_doAct_318 rfl ?_
    refine ⟨rfl, rfl, ?_, rfl⟩
    simp_all [mAct, ix_nI (show t < 2 ^ 31 by omega), xdu_self, upd_self, bi_1]
  · change _ = (8 : Int32) at h1
    skip
    refine al0 dX10_doAct_209 (by first | nofun | exact xrv_ne _) ?_
    refine al0 dX10_doAct_210 (by first | nofun | exact xrv_ne _) ?_
    refine rf_89 hX rfl dX10_doAct_211 ?_
    refine il1 dX10_doAct_214 ?_
    refine qb_27 hX dX10_doAct_215 (vi_of ht (by decide)) ?_
    refine al0 dX10_doAct_216 (by first | nofun | exact xrv_ne _) ?_
    refine rf_95 hX rfl dX10_doAct_217 ?_
    refine il1 dX10_doAct_220 ?_
    refine qb_29 hX dX10_doAct_221 (vi_of ht (by decide)) ?_
    refine cd10_243 (f' := f - 1) rfl dX10_doAct_222 (Nat.le_of_ble_eq_true rfl) (fx17 hX) (by omega) (q_move hX (by omega) hI) ?_
    refine is6 dX10_doAct_225 ?_
    refine ex_goto 318 dX10_doAct_227 (by decide) ?_
    refine ex_vret dX10_doAct_318 rfl ?_
    refine ⟨rfl, rfl, ?_, rfl⟩
    simp_all [mAct, ix_nI (show t < 2 ^ 31 by omega), xdu_self, upd_self, bi_1]
  · change _ = (9 : Int32) at h1
    skip
    refine al0 dX10_doAct_230 (by first | nofun | exact xrv_ne _) ?_
    refine rf_95 hX rfl dX10_doAct_231 ?_
    refine il1 dX10_doAct_234 ?_
    refine al0 dX10_doAct_235 (by first | nofun | exact xrv_ne _) ?_
    refine al0 dX10_doAct_236 (by first | nofun | exact xrv_ne _) ?_
    refine rf_95 hX rfl dX10_doAct_237 ?_
    refine il1 dX10_doAct_240 ?_
    refine qb_29 hX dX10_doAct_241 (vi_of ht (by decide)) ?_
    refine il2 dX10_doAct_242 ?_
    refine ex_bipush (v := 9) dX10_doAct_243 (by decide) ?_
    refine ex_isub dX10_doAct_245 ?_
    refine cd10_246 (f' := f - 1) rfl dX10_doAct_246 (Nat.le_of_ble_eq_true rfl) (fx17 hX) (by omega) (q_tree hX (by omega) hI) ?_
    refine qt_29 hX dX10_doAct_249 (vi_of ht (by decide)) ?_
    refine ex_goto 318 dX10_doAct_250 (by decide) ?_
    refine ex_vret dX10_doAct_318 rfl ?_
    refine ⟨rfl, rfl, ?_, rfl⟩
    simp_all [mAct, ix_nI (show t < 2 ^ 31 by omega), xdu_self, upd_self, bi_1]
  · change _ = (10 : Int32) at h1
    skip
    refine al0 dX10_doAct_230 (by first | nofun | exact xrv_ne _) ?_
    refine rf_95 hX rfl dX10_doAct_231 ?_
    refine il1 dX10_doAct_234 ?_
    refine al0 dX10_doAct_235 (by first | nofun | exact xrv_ne _) ?_
    refine al0 dX10_doAct_236 (by first | nofun | exact xrv_ne _) ?_
    refine rf_95 hX rfl dX10_doAct_237 ?_
    refine il1 dX10_doAct_240 ?_
    refine qb_29 hX dX10_doAct_241 (vi_of ht (by decide)) ?_
    refine il2 dX10_doAct_242 ?_
    refine ex_bipush (v := 9) dX10_doAct_243 (by decide) ?_
    refine ex_isub dX10_doAct_245 ?_
    refine cd10_246 (f' := f - 1) rfl dX10_doAct_246 (Nat.le_of_ble_eq_true rfl) (fx17 hX) (by omega) (q_tree hX (by omega) hI) ?_
    refine qt_29 hX dX10_doAct_249 (vi_of ht (by decide)) ?_
    refine ex_goto 318 dX10_doAct_250 (by decide) ?_
    refine ex_vret dX10_doAct_318 rfl ?_
    refine ⟨rfl, rfl, ?_, rfl⟩
    simp_all [mAct, ix_nI (show t < 2 ^ 31 by omega), xdu_self, upd_self, bi_1]
  · change _ = (11 : Int32) at h1
    skip
    refine al0 dX10_doAct_230 (by first | nofun | exact xrv_ne _) ?_
    refine rf_95 hX rfl dX10_doAct_231 ?_
    refine il1 dX10_doAct_234 ?_
    refine al0 dX10_doAct_235 (by first | nofun | exact xrv_ne _) ?_
    refine al0 dX10_doAct_236 (by first | nofun | exact xrv_ne _) ?_
    refine rf_95 hX rfl dX10_doAct_237 ?_
    refine il1 dX10_doAct_240 ?_
    refine qb_29 hX dX10_doAct_241 (vi_of ht (by decide)) ?_
    refine il2 dX10_doAct_242 ?_
    refine ex_bipush (v := 9) dX10_doAct_243 (by decide) ?_
    refine ex_isub dX10_doAct_245 ?_
    refine cd10_246 (f' := f - 1) rfl dX10_doAct_246 (Nat.le_of_ble_eq_true rfl) (fx17 hX) (by omega) (q_tree hX (by omega) hI) ?_
    refine qt_29 hX dX10_doAct_249 (vi_of ht (by decide)) ?_
    refine ex_goto 318 dX10_doAct_250 (by decide) ?_
    refine ex_vret dX10_doAct_318 rfl ?_
    refine ⟨rfl, rfl, ?_, rfl⟩
    simp_all [mAct, ix_nI (show t < 2 ^ 31 by omega), xdu_self, upd_self, bi_1]
  · change _ = (12 : Int32) at h1
    skip
    refine al0 dX10_doAct_253 (by first | nofun | exact xrv_ne _) ?_
    refine rf_95 hX rfl dX10_doAct_254 ?_
    refine il1 dX10_doAct_257 ?_
    refine qb_29 hX dX10_doAct_258 (vi_of ht (by decide)) ?_
    refine ex_if_ne 318 dX10_doAct_259 (by decide) (fun h259 => ?_) (fun h259 => ?_)
    · refine ex_vret dX10_doAct_318 rfl ?_
      refine ⟨rfl, rfl, ?_, rfl⟩
      simp_all [mAct, ix_nI (show t < 2 ^ 31 by omega), xdu_self, upd_self, bi_1]
    · refine al0 dX10_doAct_262 (by first | nofun | exact xrv_ne _) ?_
      refine il1 dX10_doAct_263 ?_
      refine cd10_217 (f' := f - 1) rfl dX10_doAct_264 (Nat.le_of_ble_eq_true rfl) (fx17 hX) (by omega) (q_ends hX (by omega) ht h31) ?_
      refine ex_goto 318 dX10_doAct_267 (by decide) ?_
      refine ex_vret dX10_doAct_318 rfl ?_
      refine ⟨rfl, rfl, ?_, rfl⟩
      simp_all [mAct, ix_nI (show t < 2 ^ 31 by omega), xdu_self, upd_self, bi_1]
  · change _ = (13 : Int32) at h1
    skip
    refine al0 dX10_doAct_270 (by first | nofun | exact xrv_ne _) ?_
    refine al0 dX10_doAct_271 (by first | nofun | exact xrv_ne _) ?_
    refine rf_95 hX rfl dX10_doAct_272 ?_
    refine il1 dX10_doAct_275 ?_
    refine qb_29 hX dX10_doAct_276 (vi_of ht (by decide)) ?_
    refine il3 dX10_doAct_277 ?_
    refine cd10_249 (f' := f - 1) rfl dX10_doAct_278 (Nat.le_of_ble_eq_true rfl) (fx17 hX) (by omega) (q_name hX (by omega) hI.1) ?_
    refine is7 dX10_doAct_281 ?_
    refine ex_goto 318 dX10_doAct_283 (by decide) ?_
    refine ex_vret dX10_doAct_318 rfl ?_
    refine ⟨rfl, rfl, ?_, rfl⟩
    simp_all [mAct, ix_nI (show t < 2 ^ 31 by omega), xdu_self, upd_self, bi_1]
  · obtain ⟨h1_0, h1_1, h1_2, h1_3, h1_4, h1_5, h1_6, h1_7, h1_8, h1_9, h1_10, h1_11, h1_12, h1_13, -⟩ := h1
    change ¬ _ = (0 : Int32) at h1_0
    change ¬ _ = (1 : Int32) at h1_1
    change ¬ _ = (2 : Int32) at h1_2
    change ¬ _ = (3 : Int32) at h1_3
    change ¬ _ = (4 : Int32) at h1_4
    change ¬ _ = (5 : Int32) at h1_5
    change ¬ _ = (6 : Int32) at h1_6
    change ¬ _ = (7 : Int32) at h1_7
    change ¬ _ = (8 : Int32) at h1_8
    change ¬ _ = (9 : Int32) at h1_9
    change ¬ _ = (10 : Int32) at h1_10
    change ¬ _ = (11 : Int32) at h1_11
    change ¬ _ = (12 : Int32) at h1_12
    change ¬ _ = (13 : Int32) at h1_13
    skip
    refine al0 dX10_doAct_286 (by first | nofun | exact xrv_ne _) ?_
    refine rf_95 hX rfl dX10_doAct_287 ?_
    refine il1 dX10_doAct_290 ?_
    refine al0 dX10_doAct_291 (by first | nofun | exact xrv_ne _) ?_
    refine al0 dX10_doAct_292 (by first | nofun | exact xrv_ne _) ?_
    refine rf_95 hX rfl dX10_doAct_293 ?_
    refine il1 dX10_doAct_296 ?_
    refine qb_29 hX dX10_doAct_297 (vi_of ht (by decide)) ?_
    refine il3 dX10_doAct_298 ?_
    refine cd10_214 (f' := f - 1) rfl dX10_doAct_299 (Nat.le_of_ble_eq_true rfl) (fx17 hX) (by omega) (q_isOf hX (by omega) hI.1) ?_
    refine qt_29 hX dX10_doAct_302 (vi_of ht (by decide)) ?_
    refine al0 dX10_doAct_303 (by first | nofun | exact xrv_ne _) ?_
    refine rf_95 hX rfl dX10_doAct_304 ?_
    refine il1 dX10_doAct_307 ?_
    refine qb_29 hX dX10_doAct_308 (vi_of ht (by decide)) ?_
    refine ex_iconst (v := 1) dX10_doAct_309 (by decide) ?_
    refine ex_icmp_ne 318 dX10_doAct_310 (by decide) (fun h310 => ?_) (fun h310 => ?_)
    · refine ex_vret dX10_doAct_318 rfl ?_
      refine ⟨rfl, rfl, ?_, rfl⟩
      simp_all [mAct, ix_nI (show t < 2 ^ 31 by omega), xdu_self, upd_self, bi_1]
    · refine al0 dX10_doAct_313 (by first | nofun | exact xrv_ne _) ?_
      refine il1 dX10_doAct_314 ?_
      refine cd10_217 (f' := f - 1) rfl dX10_doAct_315 (Nat.le_of_ble_eq_true rfl) (fx17 hX) (by omega) (q_ends hX (by omega) ht (by rw [xdu_ne _ _ _ (by decide)]; exact h31)) ?_
      refine ex_vret dX10_doAct_318 rfl ?_
      refine ⟨rfl, rfl, ?_, rfl⟩
      simp_all [mAct, ix_nI (show t < 2 ^ 31 by omega), xdu_self, upd_self, bi_1]
set_option maxRecDepth 20000 in
set_option maxHeartbeats 1000000 in
theorem q_step {Γ : xGm} {l : Launch} {f : Nat} {G : xG} {D S E : xD} {R : xR} (hX : xFix G R) (hf : 8 ≤ f) (hI : Iv E) {t : Nat} (ht : t < 40) (h31 : S 0 31 = nI (t + 1)) (ht31 : vp_in (S 0 31) 40) (ht32 : vp_in (S 0 31 + 1) 40) (hr : vp_in (S 25 t) 20) (hk : ¬ S 26 t = E 4 (ix (S 25 t)) → vp_in (S 26 t) 8) : Cn Γ l f MX10_step [.ref 17] G (mg D (ms S E)) R 0 0 (xdet none G (mg D (ms (mStep S E t).1 (mStep S E t).2)) R) := by
  refine cn_of MX10_step_ok (Nat.le_of_ble_eq_true rfl) ?_
  show Ex Γ l f MX10_step 0 [some (.ref 17), none, none, none] [] G (mg D (ms S E)) R 0 0 _
  refine al0 dX10_step_0 (by first | nofun | exact xrv_ne _) ?_
  refine qf_186 hX rfl dX10_step_1 ?_
  refine ex_iconst (v := 1) dX10_step_4 (by decide) ?_
  refine ex_isub dX10_step_5 ?_
  rw [h31, nI_pred]
  refine is1 dX10_step_6 ?_
  refine al0 dX10_step_7 (by first | nofun | exact xrv_ne _) ?_
  refine rf_83 hX rfl dX10_step_8 ?_
  refine il1 dX10_step_11 ?_
  refine qb_25 hX dX10_step_12 (vi_of ht (by decide)) ?_
  rw [ix_nI (show t < 2 ^ 31 by omega)]
  refine is2 dX10_step_13 ?_
  refine al0 dX10_step_14 (by first | nofun | exact xrv_ne _) ?_
  refine rf_86 hX rfl dX10_step_15 ?_
  refine il1 dX10_step_18 ?_
  refine qb_26 hX dX10_step_19 (vi_of ht (by decide)) ?_
  rw [ix_nI (show t < 2 ^ 31 by omega)]
  refine al0 dX10_step_20 (by first | nofun | exact xrv_ne _) ?_
  refine rf_19 hX rfl dX10_step_21 ?_
  refine il2 dX10_step_24 ?_
  refine qb_4 hX dX10_step_25 hr ?_
  refine ex_icmp_ne 35 dX10_step_26 (by decide) (fun h26 => ?_) (fun h26 => ?_)
  · refine al0 dX10_step_35 (by first | nofun | exact xrv_ne _) ?_
    refine qf_220 hX rfl dX10_step_36 ?_
    refine ex_sipush (v := 200) dX10_step_39 (by decide) ?_
    refine ex_icmp_ne 77 dX10_step_42 (by decide) (fun h42 => ?_) (fun h42 => ?_)
    · have hac : vp_in (E 0 41 + 1) 201 := (vi_ad (vi_ne hI.1.n41 (by decide) h42) (vi_of (n := 1) (N := 2) (by decide) (by decide)) (by decide) (by decide) (by decide) (by decide)).1
      have hat : vp_in (8 * S 25 t + S 26 t) 160 := (vi_ln (N := 160) 8 hr (hk h26) (by decide) (by decide) (by decide) (by decide)).1
      refine al0 dX10_step_77 (by first | nofun | exact xrv_ne _) ?_
      refine ex_dup dX10_step_78 ?_
      refine qf_220 hX rfl dX10_step_79 ?_
      refine ex_iconst (v := 1) dX10_step_82 (by decide) ?_
      refine ex_iadd dX10_step_83 ?_
      refine qp_220 hX rfl dX10_step_84 ?_
      refine ex_bipush (v := 8) dX10_step_87 (by decide) ?_
      refine il2 dX10_step_89 ?_
      refine ex_imul dX10_step_90 ?_
      refine al0 dX10_step_91 (by first | nofun | exact xrv_ne _) ?_
      refine rf_86 hX rfl dX10_step_92 ?_
      refine il1 dX10_step_95 ?_
      refine qb_26 hX dX10_step_96 (vi_of ht (by decide)) ?_
      rw [ix_nI (show t < 2 ^ 31 by omega)]
      refine ex_iadd dX10_step_97 ?_
      refine is3 dX10_step_98 ?_
      refine al0 dX10_step_99 (by first | nofun | exact xrv_ne _) ?_
      refine rf_86 hX rfl dX10_step_100 ?_
      refine il1 dX10_step_103 ?_
      refine ex_dup2 dX10_step_104 ?_
      refine qb_26 hX dX10_step_105 (vi_of ht (by decide)) ?_
      rw [ix_nI (show t < 2 ^ 31 by omega)]
      refine ex_iconst (v := 1) dX10_step_106 (by decide) ?_
      refine ex_iadd dX10_step_107 ?_
      refine qt_26 hX dX10_step_108 (vi_of ht (by decide)) ?_
      rw [ix_nI (show t < 2 ^ 31 by omega)]
      refine al0 dX10_step_109 (by first | nofun | exact xrv_ne _) ?_
      refine il1 dX10_step_110 ?_
      refine al0 dX10_step_111 (by first | nofun | exact xrv_ne _) ?_
      refine rf_22 hX rfl dX10_step_112 ?_
      refine il3 dX10_step_115 ?_
      refine qb_5 hX dX10_step_116 hat ?_
      refine al0 dX10_step_117 (by first | nofun | exact xrv_ne _) ?_
      refine rf_25 hX rfl dX10_step_118 ?_
      refine il3 dX10_step_121 ?_
      refine qb_6 hX dX10_step_122 hat ?_
      refine al0 dX10_step_123 (by first | nofun | exact xrv_ne _) ?_
      refine rf_28 hX rfl dX10_step_124 ?_
      refine il3 dX10_step_127 ?_
      refine qb_7 hX dX10_step_128 hat ?_
      refine cd10_226 (f' := f - 1) rfl dX10_step_129 (Nat.le_of_ble_eq_true rfl) (fx17 hX) (by omega) (q_doAct hX (by omega) (hI.n41 hac) ht (by rw [xdu_ne _ _ _ (by decide)]; exact h31) (by rw [xdu_ne _ _ _ (by decide)]; exact ht31) (by rw [xdu_ne _ _ _ (by decide)]; exact ht32)) ?_
      refine ex_vret dX10_step_132 rfl ?_
      refine ⟨rfl, rfl, ?_, rfl⟩
      simp [mStep, xdu_ne, h26, h42]
    · refine al0 dX10_step_45 (by first | nofun | exact xrv_ne _) ?_
      refine qf_223 hX rfl dX10_step_46 ?_
      refine ex_if_ne 71 dX10_step_49 (by decide) (fun h49 => ?_) (fun h49 => ?_)
      · refine al0 dX10_step_71 (by first | nofun | exact xrv_ne _) ?_
        refine il1 dX10_step_72 ?_
        refine cd10_217 (f' := f - 1) rfl dX10_step_73 (Nat.le_of_ble_eq_true rfl) (fx17 hX) (by omega) (q_ends hX (by omega) ht h31) ?_
        refine ex_vret dX10_step_76 rfl ?_
        refine ⟨rfl, rfl, ?_, rfl⟩
        simp [mStep, sSpend, *]
      · refine al0 dX10_step_52 (by first | nofun | exact xrv_ne _) ?_
        refine ex_bipush (v := 10) dX10_step_53 (by decide) ?_
        refine al0 dX10_step_55 (by first | nofun | exact xrv_ne _) ?_
        refine rf_89 hX rfl dX10_step_56 ?_
        refine il1 dX10_step_59 ?_
        refine qb_27 hX dX10_step_60 (vi_of ht (by decide)) ?_
        rw [ix_nI (show t < 2 ^ 31 by omega)]
        refine ex_iconst (v := 0) dX10_step_61 (by decide) ?_
        refine cd10_174 (f' := f - 1) rfl dX10_step_62 (Nat.le_of_ble_eq_true rfl) (fx17 hX) (by omega) (q_fails hX hI.1) ?_
        refine is3 dX10_step_65 ?_
        refine al0 dX10_step_66 (by first | nofun | exact xrv_ne _) ?_
        refine ex_iconst (v := 1) dX10_step_67 (by decide) ?_
        refine qp_223 hX rfl dX10_step_68 (by decide) ?_
        refine al0 dX10_step_71 (by first | nofun | exact xrv_ne _) ?_
        refine il1 dX10_step_72 ?_
        refine cd10_217 (f' := f - 1) rfl dX10_step_73 (Nat.le_of_ble_eq_true rfl) (fx17 hX) (by omega) (q_ends hX (by omega) ht h31) ?_
        refine ex_vret dX10_step_76 rfl ?_
        refine ⟨rfl, rfl, ?_, rfl⟩
        simp [mStep, sSpend, *]
  · refine al0 dX10_step_29 (by first | nofun | exact xrv_ne _) ?_
    refine il1 dX10_step_30 ?_
    refine cd10_217 (f' := f - 1) rfl dX10_step_31 (Nat.le_of_ble_eq_true rfl) (fx17 hX) (by omega) (q_ends hX (by omega) ht h31) ?_
    refine ex_vret dX10_step_34 rfl ?_
    refine ⟨rfl, rfl, ?_, rfl⟩
    simp [mStep, sSpend, *]
