set_option maxRecDepth 20000 in
set_option maxHeartbeats 1000000 in
theorem q_answers {Γ : xGm} {l : Launch} {f : Nat} {G : xG} {D S E : xD} {R : xR} (hX : xFix G R) {v : Int32} : Cn Γ l f MX10_answers [.ref 17, .int v] G (mg D (ms S E)) R 0 0 (xdet none G (mg D (ms (mAns S v) E)) R) := by
  refine cn_of MX10_answers_ok (Nat.le_of_ble_eq_true rfl) ?_
  show Ex Γ l f MX10_answers 0 [some (.ref 17), some (.int v)] [] G (mg D (ms S E)) R 0 0 _
  refine al0 dX10_answers_0 (by first | nofun | exact xrv_ne _) ?_
  refine ex_iconst (v := 1) dX10_answers_1 (by decide) ?_
  refine qp_180 hX rfl dX10_answers_2 (by decide) ?_
  refine al0 dX10_answers_5 (by first | nofun | exact xrv_ne _) ?_
  refine il1 dX10_answers_6 ?_
  refine qp_183 hX rfl dX10_answers_7 ?_
  refine ex_vret dX10_answers_10 rfl ?_
  exact ⟨rfl, rfl, rfl, rfl⟩
set_option maxRecDepth 20000 in
set_option maxHeartbeats 1000000 in
theorem q_pile {Γ : xGm} {l : Launch} {f : Nat} {G : xG} {D S E : xD} {R : xR} (hX : xFix G R) {w o : Int32} (ht : vp_in (S 0 31) 40) : Cn Γ l f MX10_pile [.ref 17, .int w, .int o] G (mg D (ms S E)) R 0 0 (xdet none G (mg D (ms (mPile S w o) E)) R) := by
  refine cn_of MX10_pile_ok (Nat.le_of_ble_eq_true rfl) ?_
  show Ex Γ l f MX10_pile 0 [some (.ref 17), some (.int w), some (.int o)] [] G (mg D (ms S E)) R 0 0 _
  refine al0 dX10_pile_0 (by first | nofun | exact xrv_ne _) ?_
  refine rf_80 hX rfl dX10_pile_1 ?_
  refine al0 dX10_pile_4 (by first | nofun | exact xrv_ne _) ?_
  refine qf_186 hX rfl dX10_pile_5 ?_
  refine il1 dX10_pile_8 ?_
  refine qt_24 hX dX10_pile_9 ht ?_
  refine al0 dX10_pile_10 (by first | nofun | exact xrv_ne _) ?_
  refine rf_89 hX rfl dX10_pile_11 ?_
  refine al0 dX10_pile_14 (by first | nofun | exact xrv_ne _) ?_
  refine qf_186 hX rfl dX10_pile_15 ?_
  refine il2 dX10_pile_18 ?_
  refine qt_27 hX dX10_pile_19 (by rw [xdu_ne _ _ _ (by decide)]; exact ht) ?_
  refine al0 dX10_pile_20 (by first | nofun | exact xrv_ne _) ?_
  refine ex_dup dX10_pile_21 ?_
  refine qf_186 hX rfl dX10_pile_22 ?_
  refine ex_iconst (v := 1) dX10_pile_25 (by decide) ?_
  refine ex_iadd dX10_pile_26 ?_
  refine qp_186 hX rfl dX10_pile_27 ?_
  refine ex_vret dX10_pile_30 rfl ?_
  refine ⟨rfl, rfl, ?_, rfl⟩
  simp [mPile, xdu_self, upd_self, xdu_ne, upd_ne]
set_option maxRecDepth 20000 in
set_option maxHeartbeats 1000000 in
theorem q_runs {Γ : xGm} {l : Launch} {f : Nat} {G : xG} {D S E : xD} {R : xR} (hX : xFix G R) (hf : 1 ≤ f) (hB : RB E) (ht : vp_in (S 0 31) 40) {r o w : Int32} : Cn Γ l f MX10_runs [.ref 17, .int r, .int o, .int w] G (mg D (ms S E)) R 0 0 (xdet none G (mg D (ms (mRuns S E r o w).1 (mRuns S E r o w).2)) R) := by
  refine cn_of MX10_runs_ok (Nat.le_of_ble_eq_true rfl) ?_
  show Ex Γ l f MX10_runs 0 [some (.ref 17), some (.int r), some (.int o), some (.int w)] [] G (mg D (ms S E)) R 0 0 _
  refine al0 dX10_runs_0 (by first | nofun | exact xrv_ne _) ?_
  refine qf_189 hX rfl dX10_runs_1 ?_
  refine ex_bipush (v := 12) dX10_runs_4 (by decide) ?_
  refine ex_icmp_ne 22 dX10_runs_6 (by decide) (fun h6 => ?_) (fun h6 => ?_)
  · refine al0 dX10_runs_22 (by first | nofun | exact xrv_ne _) ?_
    refine rf_83 hX rfl dX10_runs_23 ?_
    refine al0 dX10_runs_26 (by first | nofun | exact xrv_ne _) ?_
    refine qf_186 hX rfl dX10_runs_27 ?_
    refine il1 dX10_runs_30 ?_
    refine ex_sipush (v := 201) dX10_runs_31 (by decide) ?_
    refine ex_isub dX10_runs_34 ?_
    refine qt_25 hX dX10_runs_35 ht ?_
    refine al0 dX10_runs_36 (by first | nofun | exact xrv_ne _) ?_
    refine rf_86 hX rfl dX10_runs_37 ?_
    refine al0 dX10_runs_40 (by first | nofun | exact xrv_ne _) ?_
    refine qf_186 hX rfl dX10_runs_41 ?_
    refine ex_iconst (v := 0) dX10_runs_44 (by decide) ?_
    refine qt_26 hX dX10_runs_45 (by simp only [xdu_ne _ _ _ (show (0 : Nat) ≠ 25 by decide), xdu_ne _ _ _ (show (0 : Nat) ≠ 26 by decide), xdu_ne _ _ _ (show (0 : Nat) ≠ 28 by decide), xdu_ne _ _ _ (show (0 : Nat) ≠ 29 by decide)]; exact ht) ?_
    refine al0 dX10_runs_46 (by first | nofun | exact xrv_ne _) ?_
    refine rf_92 hX rfl dX10_runs_47 ?_
    refine al0 dX10_runs_50 (by first | nofun | exact xrv_ne _) ?_
    refine qf_186 hX rfl dX10_runs_51 ?_
    refine il3 dX10_runs_54 ?_
    refine qt_28 hX dX10_runs_55 (by simp only [xdu_ne _ _ _ (show (0 : Nat) ≠ 25 by decide), xdu_ne _ _ _ (show (0 : Nat) ≠ 26 by decide), xdu_ne _ _ _ (show (0 : Nat) ≠ 28 by decide), xdu_ne _ _ _ (show (0 : Nat) ≠ 29 by decide)]; exact ht) ?_
    refine al0 dX10_runs_56 (by first | nofun | exact xrv_ne _) ?_
    refine rf_95 hX rfl dX10_runs_57 ?_
    refine al0 dX10_runs_60 (by first | nofun | exact xrv_ne _) ?_
    refine qf_186 hX rfl dX10_runs_61 ?_
    refine ex_iconst (v := 0) dX10_runs_64 (by decide) ?_
    refine qt_29 hX dX10_runs_65 (by simp only [xdu_ne _ _ _ (show (0 : Nat) ≠ 25 by decide), xdu_ne _ _ _ (show (0 : Nat) ≠ 26 by decide), xdu_ne _ _ _ (show (0 : Nat) ≠ 28 by decide), xdu_ne _ _ _ (show (0 : Nat) ≠ 29 by decide)]; exact ht) ?_
    refine al0 dX10_runs_66 (by first | nofun | exact xrv_ne _) ?_
    refine ex_dup dX10_runs_67 ?_
    refine qf_189 hX rfl dX10_runs_68 ?_
    refine ex_iconst (v := 1) dX10_runs_71 (by decide) ?_
    refine ex_iadd dX10_runs_72 ?_
    refine qp_189 hX rfl dX10_runs_73 ?_
    refine al0 dX10_runs_76 (by first | nofun | exact xrv_ne _) ?_
    refine ex_iconst (v := 0) dX10_runs_77 (by decide) ?_
    refine il2 dX10_runs_78 ?_
    refine cd10_195 (f' := f - 1) rfl dX10_runs_79 (Nat.le_of_ble_eq_true rfl) (fx17 hX) (by omega) (q_pile hX (by simp only [xdu_self, upd_ne _ _ (show (31 : Nat) ≠ 32 by decide), xdu_ne _ _ _ (show (0 : Nat) ≠ 25 by decide), xdu_ne _ _ _ (show (0 : Nat) ≠ 26 by decide), xdu_ne _ _ _ (show (0 : Nat) ≠ 28 by decide), xdu_ne _ _ _ (show (0 : Nat) ≠ 29 by decide)]; exact ht)) ?_
    refine ex_vret dX10_runs_82 rfl ?_
    refine ⟨rfl, rfl, ?_, rfl⟩
    simp [mRuns, mPush, xdu_self, upd_self, xdu_ne, upd_ne, *]
  · refine al0 dX10_runs_9 (by first | nofun | exact xrv_ne _) ?_
    refine al0 dX10_runs_10 (by first | nofun | exact xrv_ne _) ?_
    refine ex_bipush (v := 9) dX10_runs_11 (by decide) ?_
    refine il2 dX10_runs_13 ?_
    refine ex_iconst (v := 0) dX10_runs_14 (by decide) ?_
    refine cd10_174 (f' := f - 1) rfl dX10_runs_15 (Nat.le_of_ble_eq_true rfl) (fx17 hX) (by omega) (q_fails hX hB) ?_
    refine cd10_192 (f' := f - 1) rfl dX10_runs_18 (Nat.le_of_ble_eq_true rfl) (fx17 hX) (by omega) (q_answers hX) ?_
    refine ex_vret dX10_runs_21 rfl ?_
    refine ⟨rfl, rfl, ?_, rfl⟩
    simp [mRuns, mPush, xdu_self, upd_self, xdu_ne, upd_ne, *]
set_option maxRecDepth 20000 in
set_option maxHeartbeats 1000000 in
theorem q_does {Γ : xGm} {l : Launch} {f : Nat} {G : xG} {D S E : xD} {R : xR} (hX : xFix G R) (hf : 2 ≤ f) (hB : RB E) (ht : vp_in (S 0 31) 40) {v o w : Int32} : Cn Γ l f MX10_does [.ref 17, .int v, .int o, .int w] G (mg D (ms S E)) R 0 0 (xdet none G (mg D (ms (mDoes S E v o w).1 (mDoes S E v o w).2)) R) := by
  refine cn_of MX10_does_ok (Nat.le_of_ble_eq_true rfl) ?_
  show Ex Γ l f MX10_does 0 [some (.ref 17), some (.int v), some (.int o), some (.int w), none] [] G (mg D (ms S E)) R 0 0 _
  refine al0 dX10_does_0 (by first | nofun | exact xrv_ne _) ?_
  refine il1 dX10_does_1 ?_
  refine cd10_141 (f' := f - 1) rfl dX10_does_2 (Nat.le_of_ble_eq_true rfl) (fx17 hX) (by omega) (q_meta hX (by omega) hB) ?_
  refine is4 dX10_does_5 ?_
  refine il4 dX10_does_7 ?_
  refine ex_iconst (v := 4) dX10_does_9 (by decide) ?_
  refine ex_icmp_ne 23 dX10_does_10 (by decide) (fun h10 => ?_) (fun h10 => ?_)
  · refine il4 dX10_does_23 ?_
    refine ex_iconst (v := 3) dX10_does_25 (by decide) ?_
    refine ex_icmp_ne 42 dX10_does_26 (by decide) (fun h26 => ?_) (fun h26 => ?_)
    · refine al0 dX10_does_42 (by first | nofun | exact xrv_ne _) ?_
      refine il1 dX10_does_43 ?_
      refine cd10_192 (f' := f - 1) rfl dX10_does_44 (Nat.le_of_ble_eq_true rfl) (fx17 hX) (by omega) (q_answers hX) ?_
      refine ex_vret dX10_does_47 rfl ?_
      refine ⟨rfl, rfl, ?_, rfl⟩
      simp [mDoes, *]
    · refine al0 dX10_does_29 (by first | nofun | exact xrv_ne _) ?_
      refine il1 dX10_does_30 ?_
      refine cd10_163 (f' := f - 1) rfl dX10_does_31 (Nat.le_of_ble_eq_true rfl) (fx17 hX) (by omega) (q_sayText hX (by omega) hB (vi_text hB (sMeta_34.1 h26))) ?_
      refine al0 dX10_does_34 (by first | nofun | exact xrv_ne _) ?_
      refine ex_iconst (v := 1) dX10_does_35 (by decide) ?_
      refine cd10_192 (f' := f - 1) rfl dX10_does_36 (Nat.le_of_ble_eq_true rfl) (fx17 hX) (by omega) (q_answers hX) ?_
      refine ex_goto 47 dX10_does_39 (by decide) ?_
      refine ex_vret dX10_does_47 rfl ?_
      refine ⟨rfl, rfl, ?_, rfl⟩
      simp [mDoes, *]
  · refine al0 dX10_does_13 (by first | nofun | exact xrv_ne _) ?_
    refine il1 dX10_does_14 ?_
    refine il2 dX10_does_15 ?_
    refine il3 dX10_does_16 ?_
    refine cd10_198 (f' := f - 1) rfl dX10_does_17 (Nat.le_of_ble_eq_true rfl) (fx17 hX) (by omega) (q_runs hX (by omega) hB ht) ?_
    refine ex_goto 47 dX10_does_20 (by decide) ?_
    refine ex_vret dX10_does_47 rfl ?_
    refine ⟨rfl, rfl, ?_, rfl⟩
    simp [mDoes, *]
set_option maxRecDepth 20000 in
set_option maxHeartbeats 1000000 in
theorem q_sendObject {Γ : xGm} {l : Launch} {f : Nat} {G : xG} {D S E : xD} {R : xR} (hX : xFix G R) (hf : 3 ≤ f) (hB : RB E) (ht : vp_in (S 0 31) 40) {o n w : Int32} (ho : vp_in o 41) : Cn Γ l f MX10_sendObject [.ref 17, .int o, .int n, .int w] G (mg D (ms S E)) R 0 0 (xdet none G (mg D (ms (mSendO S E o n w).1 (mSendO S E o n w).2)) R) := by
  refine cn_of MX10_sendObject_ok (Nat.le_of_ble_eq_true rfl) ?_
  show Ex Γ l f MX10_sendObject 0 [some (.ref 17), some (.int o), some (.int n), some (.int w)] [] G (mg D (ms S E)) R 0 0 _
  refine al0 dX10_sendObject_0 (by first | nofun | exact xrv_ne _) ?_
  refine il1 dX10_sendObject_1 ?_
  refine il2 dX10_sendObject_2 ?_
  refine cd10_166 (f' := f - 1) rfl dX10_sendObject_3 (Nat.le_of_ble_eq_true rfl) (fx17 hX) (by omega) (q_rowAt hX (by omega) hB ho) ?_
  refine ex_if_ne 23 dX10_sendObject_6 (by decide) (fun h6 => ?_) (fun h6 => ?_)
  · refine al0 dX10_sendObject_23 (by first | nofun | exact xrv_ne _) ?_
    refine al0 dX10_sendObject_24 (by first | nofun | exact xrv_ne _) ?_
    refine rf_56 hX rfl dX10_sendObject_25 ?_
    refine ex_iconst (v := 4) dX10_sendObject_28 (by decide) ?_
    refine ex_bipush (v := 12) dX10_sendObject_29 (by decide) ?_
    refine il1 dX10_sendObject_31 ?_
    refine ex_imul dX10_sendObject_32 ?_
    refine il2 dX10_sendObject_33 ?_
    refine ex_iadd dX10_sendObject_34 ?_
    refine ex_imul dX10_sendObject_35 ?_
    refine qb_16 hX dX10_sendObject_36 (vi_sc (N := 1968) 4 (vi_ln (N := 492) 12 ho (sRowAt_n h6) (by decide) (by decide) (by decide) (by decide)).1 (by decide) (by decide) (by decide)).1 ?_
    refine il1 dX10_sendObject_37 ?_
    refine il3 dX10_sendObject_38 ?_
    refine cd10_202 (f' := f - 1) rfl dX10_sendObject_39 (Nat.le_of_ble_eq_true rfl) (fx17 hX) (by omega) (q_does hX (by omega) hB ht) ?_
    refine ex_vret dX10_sendObject_42 rfl ?_
    refine ⟨rfl, rfl, ?_, rfl⟩
    simp [mSendO, *]
  · refine al0 dX10_sendObject_9 (by first | nofun | exact xrv_ne _) ?_
    refine al0 dX10_sendObject_10 (by first | nofun | exact xrv_ne _) ?_
    refine ex_iconst (v := 3) dX10_sendObject_11 (by decide) ?_
    refine il1 dX10_sendObject_12 ?_
    refine il2 dX10_sendObject_13 ?_
    refine cd10_174 (f' := f - 1) rfl dX10_sendObject_14 (Nat.le_of_ble_eq_true rfl) (fx17 hX) (by omega) (q_fails hX hB) ?_
    refine cd10_192 (f' := f - 1) rfl dX10_sendObject_17 (Nat.le_of_ble_eq_true rfl) (fx17 hX) (by omega) (q_answers hX) ?_
    refine ex_goto 42 dX10_sendObject_20 (by decide) ?_
    refine ex_vret dX10_sendObject_42 rfl ?_
    refine ⟨rfl, rfl, ?_, rfl⟩
    simp [mSendO, *]
set_option maxRecDepth 20000 in
set_option maxHeartbeats 1000000 in
theorem q_sendIfThere {Γ : xGm} {l : Launch} {f : Nat} {G : xG} {D S E : xD} {R : xR} (hX : xFix G R) (hf : 4 ≤ f) (hB : RB E) (ht : vp_in (S 0 31) 40) {o n w : Int32} (ho : vp_in o 41) : Cn Γ l f MX10_sendIfThere [.ref 17, .int o, .int n, .int w] G (mg D (ms S E)) R 0 0 (xdet none G (mg D (ms (mIfThere S E o n w).1 (mIfThere S E o n w).2)) R) := by
  refine cn_of MX10_sendIfThere_ok (Nat.le_of_ble_eq_true rfl) ?_
  show Ex Γ l f MX10_sendIfThere 0 [some (.ref 17), some (.int o), some (.int n), some (.int w)] [] G (mg D (ms S E)) R 0 0 _
  refine al0 dX10_sendIfThere_0 (by first | nofun | exact xrv_ne _) ?_
  refine il1 dX10_sendIfThere_1 ?_
  refine il2 dX10_sendIfThere_2 ?_
  refine cd10_166 (f' := f - 1) rfl dX10_sendIfThere_3 (Nat.le_of_ble_eq_true rfl) (fx17 hX) (by omega) (q_rowAt hX (by omega) hB ho) ?_
  refine ex_if_le 19 dX10_sendIfThere_6 (by decide) (fun h6 => ?_) (fun h6 => ?_)
  · refine al0 dX10_sendIfThere_19 (by first | nofun | exact xrv_ne _) ?_
    refine ex_iconst (v := 0) dX10_sendIfThere_20 (by decide) ?_
    refine cd10_192 (f' := f - 1) rfl dX10_sendIfThere_21 (Nat.le_of_ble_eq_true rfl) (fx17 hX) (by omega) (q_answers hX) ?_
    refine ex_vret dX10_sendIfThere_24 rfl ?_
    refine ⟨rfl, rfl, ?_, rfl⟩
    simp [mIfThere, *]
  · refine al0 dX10_sendIfThere_9 (by first | nofun | exact xrv_ne _) ?_
    refine il1 dX10_sendIfThere_10 ?_
    refine il2 dX10_sendIfThere_11 ?_
    refine il3 dX10_sendIfThere_12 ?_
    refine cd10_208 (f' := f - 1) rfl dX10_sendIfThere_13 (Nat.le_of_ble_eq_true rfl) (fx17 hX) (by omega) (q_sendObject hX (by omega) hB ht ho) ?_
    refine ex_goto 24 dX10_sendIfThere_16 (by decide) ?_
    refine ex_vret dX10_sendIfThere_24 rfl ?_
    refine ⟨rfl, rfl, ?_, rfl⟩
    simp [mIfThere, *]
set_option maxRecDepth 20000 in
set_option maxHeartbeats 1000000 in
theorem q_free_lp {Γ : xGm} {l : Launch} {f : Nat} {G : xG} {D S : xD} {R : xR} {Q : Option Value → xG → xD → xR → Prop} (hX : xFix G R) {E : xD} {c : Nat} {m w : Option Value} : ∀ (n : Nat) (o : Int32) (cnt : Nat) (hn : c + n ≤ 40) (kk : ∀ z, Ex Γ l f MX10_sendGroup 67 [some (.ref 17), some (.int (nI c)), m, w, some (.int (sLeast E (nI c) o n)), some (.int (nI (cnt + sFreeN E (nI c) n))), z] [] G (mg D (ms S E)) R 0 0 Q), Ex Γ l f MX10_sendGroup 16 [some (.ref 17), some (.int (nI c)), m, w, some (.int o), some (.int (nI cnt)), some (.int (nI (c + n)))] [] G (mg D (ms S E)) R 0 0 Q := by
  intro n
  induction n with
  | zero =>
    intro o cnt hn kk
    refine il6 dX10_sendGroup_16 ?_
    refine il1 dX10_sendGroup_18 ?_
    refine ex_icmp_le 67 dX10_sendGroup_19 (by decide) (fun h19 => ?_) (fun h19 => ?_)
    · exact kk _
    · exact absurd (nI_le (Nat.le_refl _) (by omega)) h19
  | succ n ih =>
    intro o cnt hn kk
    have e1 : nI c + nI (n + 1) = nI (c + (n + 1)) := nI_add _ _
    refine il6 dX10_sendGroup_16 ?_
    refine il1 dX10_sendGroup_18 ?_
    refine ex_icmp_le 67 dX10_sendGroup_19 (by decide) (fun h19 => ?_) (fun h19 => ?_)
    · exact absurd h19 (nI_ge (by omega) (by omega))
    · refine al0 dX10_sendGroup_22 (by first | nofun | exact xrv_ne _) ?_
      refine rf_41 hX rfl dX10_sendGroup_23 ?_
      refine il6 dX10_sendGroup_26 ?_
      refine qb_11 hX dX10_sendGroup_28 (vi_of (by omega) (by decide)) ?_
      refine ex_if_eq 37 dX10_sendGroup_29 (by decide) (fun h29 => ?_) (fun h29 => ?_)
      · refine il6 dX10_sendGroup_37 ?_
        refine is4 dX10_sendGroup_39 ?_
        refine il5 dX10_sendGroup_41 ?_
        refine al0 dX10_sendGroup_43 (by first | nofun | exact xrv_ne _) ?_
        refine rf_41 hX rfl dX10_sendGroup_44 ?_
        refine il6 dX10_sendGroup_47 ?_
        refine qb_11 hX dX10_sendGroup_49 (vi_of (by omega) (by decide)) ?_
        refine ex_if_eq 57 dX10_sendGroup_50 (by decide) (fun h50 => ?_) (fun h50 => ?_)
        · refine ex_iconst (v := 1) dX10_sendGroup_57 (by decide) ?_
          refine ex_iadd dX10_sendGroup_58 ?_
          refine is5 dX10_sendGroup_59 ?_
          refine ic6 (nI (c + n)) dX10_sendGroup_61 (pk_m1 (c + n)) ?_
          refine ex_goto 16 dX10_sendGroup_64 (by decide) ?_
          try rw [Int32.add_zero]
          try rw [nI_1 cnt]
          first
            | exact absurd h29 h50
            | exact absurd h50 h29
            | (simp only [sLeast, sFreeN, e1, if_pos (show ¬ E 11 (ix (nI (c + (n + 1)))) = 0 from h29)] at kk
               exact ih o cnt (by omega) kk)
            | (simp only [sLeast, sFreeN, e1, if_neg (show ¬ ¬ E 11 (ix (nI (c + (n + 1)))) = 0 from fun q => q h29)] at kk
               refine ih (nI (c + (n + 1))) (cnt + 1) (by omega) ?_
               rw [Nat.add_assoc, Nat.add_comm 1]
               exact kk)
        · refine ex_iconst (v := 0) dX10_sendGroup_53 (by decide) ?_
          refine ex_goto 58 dX10_sendGroup_54 (by decide) ?_
          refine ex_iadd dX10_sendGroup_58 ?_
          refine is5 dX10_sendGroup_59 ?_
          refine ic6 (nI (c + n)) dX10_sendGroup_61 (pk_m1 (c + n)) ?_
          refine ex_goto 16 dX10_sendGroup_64 (by decide) ?_
          try rw [Int32.add_zero]
          try rw [nI_1 cnt]
          first
            | exact absurd h29 h50
            | exact absurd h50 h29
            | (simp only [sLeast, sFreeN, e1, if_pos (show ¬ E 11 (ix (nI (c + (n + 1)))) = 0 from h29)] at kk
               exact ih o cnt (by omega) kk)
            | (simp only [sLeast, sFreeN, e1, if_neg (show ¬ ¬ E 11 (ix (nI (c + (n + 1)))) = 0 from fun q => q h29)] at kk
               refine ih (nI (c + (n + 1))) (cnt + 1) (by omega) ?_
               rw [Nat.add_assoc, Nat.add_comm 1]
               exact kk)
      · refine il4 dX10_sendGroup_32 ?_
        refine ex_goto 39 dX10_sendGroup_34 (by decide) ?_
        refine is4 dX10_sendGroup_39 ?_
        refine il5 dX10_sendGroup_41 ?_
        refine al0 dX10_sendGroup_43 (by first | nofun | exact xrv_ne _) ?_
        refine rf_41 hX rfl dX10_sendGroup_44 ?_
        refine il6 dX10_sendGroup_47 ?_
        refine qb_11 hX dX10_sendGroup_49 (vi_of (by omega) (by decide)) ?_
        refine ex_if_eq 57 dX10_sendGroup_50 (by decide) (fun h50 => ?_) (fun h50 => ?_)
        · refine ex_iconst (v := 1) dX10_sendGroup_57 (by decide) ?_
          refine ex_iadd dX10_sendGroup_58 ?_
          refine is5 dX10_sendGroup_59 ?_
          refine ic6 (nI (c + n)) dX10_sendGroup_61 (pk_m1 (c + n)) ?_
          refine ex_goto 16 dX10_sendGroup_64 (by decide) ?_
          try rw [Int32.add_zero]
          try rw [nI_1 cnt]
          first
            | exact absurd h29 h50
            | exact absurd h50 h29
            | (simp only [sLeast, sFreeN, e1, if_pos (show ¬ E 11 (ix (nI (c + (n + 1)))) = 0 from h29)] at kk
               exact ih o cnt (by omega) kk)
            | (simp only [sLeast, sFreeN, e1, if_neg (show ¬ ¬ E 11 (ix (nI (c + (n + 1)))) = 0 from fun q => q h29)] at kk
               refine ih (nI (c + (n + 1))) (cnt + 1) (by omega) ?_
               rw [Nat.add_assoc, Nat.add_comm 1]
               exact kk)
        · refine ex_iconst (v := 0) dX10_sendGroup_53 (by decide) ?_
          refine ex_goto 58 dX10_sendGroup_54 (by decide) ?_
          refine ex_iadd dX10_sendGroup_58 ?_
          refine is5 dX10_sendGroup_59 ?_
          refine ic6 (nI (c + n)) dX10_sendGroup_61 (pk_m1 (c + n)) ?_
          refine ex_goto 16 dX10_sendGroup_64 (by decide) ?_
          try rw [Int32.add_zero]
          try rw [nI_1 cnt]
          first
            | exact absurd h29 h50
            | exact absurd h50 h29
            | (simp only [sLeast, sFreeN, e1, if_pos (show ¬ E 11 (ix (nI (c + (n + 1)))) = 0 from h29)] at kk
               exact ih o cnt (by omega) kk)
            | (simp only [sLeast, sFreeN, e1, if_neg (show ¬ ¬ E 11 (ix (nI (c + (n + 1)))) = 0 from fun q => q h29)] at kk
               refine ih (nI (c + (n + 1))) (cnt + 1) (by omega) ?_
               rw [Nat.add_assoc, Nat.add_comm 1]
               exact kk)
theorem q_in {Γ : xGm} {l : Launch} {f : Nat} {G : xG} {D S E : xD} {R : xR} (hX : xFix G R) {v a b : Int32} : Cn Γ l f MX10_in [.int v, .int a, .int b] G (mg D (ms S E)) R 0 0 (xdet (some (.int (bi (sIn v a b)))) G (mg D (ms S E)) R) := r_in hX
set_option maxRecDepth 20000 in
set_option maxHeartbeats 2000000 in
theorem q_group_67 {Γ : xGm} {l : Launch} {f : Nat} {G : xG} {D S E : xD} {R : xR} (hX : xFix G R) (hf : 5 ≤ f) (hI : Iv E) (ht : vp_in (S 0 31) 40) (ht2 : vp_in (S 0 31 + 1) 40) {c : Nat} (hc : c < 41) {n w : Int32} {z : Option Value} : Ex Γ l f MX10_sendGroup 67 [some (.ref 17), some (.int (nI c)), some (.int n), some (.int w), some (.int (sLeast E (nI c) 0 (ix (E 12 (ix (nI c)))))), some (.int (nI (sFreeN E (nI c) (ix (E 12 (ix (nI c))))))), z] [] G (mg D (ms S E)) R 0 0 (xdet none G (mg D (ms (mSendG S E (nI c) n w).1 (mSendG S E (nI c) n w).2)) R) := by
  have hB := hI.1
  have pn := pool_n hB hc (by omega)
  refine il2 dX10_sendGroup_67 ?_
  refine ex_bipush (v := 14) dX10_sendGroup_68 (by decide) ?_
  refine ex_icmp_ne 82 dX10_sendGroup_70 (by decide) (fun h70 => ?_) (fun h70 => ?_)
  · refine il2 dX10_sendGroup_82 ?_
    refine ex_bipush (v := 12) dX10_sendGroup_83 (by decide) ?_
    refine ex_icmp_ne 131 dX10_sendGroup_85 (by decide) (fun h85 => ?_) (fun h85 => ?_)
    · refine il2 dX10_sendGroup_131 ?_
      refine ex_bipush (v := 13) dX10_sendGroup_132 (by decide) ?_
      refine ex_icmp_eq 157 dX10_sendGroup_134 (by decide) (fun h134 => ?_) (fun h134 => ?_)
      · refine il3 dX10_sendGroup_157 ?_
        refine il1 dX10_sendGroup_158 ?_
        refine ex_iconst (v := 1) dX10_sendGroup_159 (by decide) ?_
        refine ex_iadd dX10_sendGroup_160 ?_
        refine il1 dX10_sendGroup_161 ?_
        refine al0 dX10_sendGroup_162 (by first | nofun | exact xrv_ne _) ?_
        refine rf_44 hX rfl dX10_sendGroup_163 ?_
        refine il1 dX10_sendGroup_166 ?_
        refine qb_12 hX dX10_sendGroup_167 (vi_of hc (by decide)) ?_
        refine ex_iadd dX10_sendGroup_168 ?_
        refine cd10_102 (f' := f - 1) rfl dX10_sendGroup_169 (Nat.le_of_ble_eq_true rfl) (by omega) (q_in hX) ?_
        refine ex_if_eq 184 dX10_sendGroup_172 (by decide) (fun h172 => ?_) (fun h172 => ?_)
        · simp only [bi_0, Bool.not_eq_false] at h172
          refine al0 dX10_sendGroup_184 (by first | nofun | exact xrv_ne _) ?_
          refine al0 dX10_sendGroup_185 (by first | nofun | exact xrv_ne _) ?_
          refine ex_bipush (v := 8) dX10_sendGroup_186 (by decide) ?_
          refine il1 dX10_sendGroup_188 ?_
          refine il3 dX10_sendGroup_189 ?_
          refine cd10_174 (f' := f - 1) rfl dX10_sendGroup_190 (Nat.le_of_ble_eq_true rfl) (fx17 hX) (by omega) (q_fails hX hB) ?_
          refine cd10_192 (f' := f - 1) rfl dX10_sendGroup_193 (Nat.le_of_ble_eq_true rfl) (fx17 hX) (by omega) (q_answers hX) ?_
          refine ex_goto 222 dX10_sendGroup_196 (by decide) ?_
          refine ex_vret dX10_sendGroup_222 rfl ?_
          refine ⟨rfl, rfl, ?_, rfl⟩
          clear pn
          simp_all [mSendG]
        · simp only [bi_0, Bool.not_eq_false] at h172
          have hw : vp_in w 41 := by
            obtain ⟨g1, g2⟩ := sIn_t.mp h172
            rw [ix_nI (show c < 2 ^ 31 by omega), pn.1, nI_add] at g2
            rw [show (1 : Int32) = nI 1 from rfl, nI_add] at g1
            exact vi_btw (a := c + 1) (x := nI (c + ix (E 12 c))) (A := 41) (vi_of (by omega) (by decide)) g1 g2 (by omega) (by decide)
          refine al0 dX10_sendGroup_175 (by first | nofun | exact xrv_ne _) ?_
          refine rf_41 hX rfl dX10_sendGroup_176 ?_
          refine il3 dX10_sendGroup_179 ?_
          refine qb_11 hX dX10_sendGroup_180 hw ?_
          refine ex_if_ne 199 dX10_sendGroup_181 (by decide) (fun h181 => ?_) (fun h181 => ?_)
          · refine al0 dX10_sendGroup_199 (by first | nofun | exact xrv_ne _) ?_
            refine il2 dX10_sendGroup_200 ?_
            refine ex_bipush (v := 13) dX10_sendGroup_201 (by decide) ?_
            refine ex_icmp_ne 210 dX10_sendGroup_203 (by decide) (fun h203 => ?_) (fun h203 => ?_)
            · refine ex_iconst (v := 3) dX10_sendGroup_210 (by decide) ?_
              refine il3 dX10_sendGroup_211 ?_
              refine cd10_195 (f' := f - 1) rfl dX10_sendGroup_212 (Nat.le_of_ble_eq_true rfl) (fx17 hX) (by omega) (q_pile hX ht) ?_
              refine al0 dX10_sendGroup_215 (by first | nofun | exact xrv_ne _) ?_
              refine il3 dX10_sendGroup_216 ?_
              refine ex_iconst (v := 2) dX10_sendGroup_217 (by decide) ?_
              refine ex_iconst (v := 0) dX10_sendGroup_218 (by decide) ?_
              refine cd10_205 (f' := f - 1) rfl dX10_sendGroup_219 (Nat.le_of_ble_eq_true rfl) (fx17 hX) (by omega) (q_sendIfThere hX (by omega) hB (by unfold mPile; rw [xdu_self, upd_self]; exact ht2) hw) ?_
              refine ex_vret dX10_sendGroup_222 rfl ?_
              refine ⟨rfl, rfl, ?_, rfl⟩
              clear pn
              simp_all [mSendG]
            · refine ex_iconst (v := 2) dX10_sendGroup_206 (by decide) ?_
              refine ex_goto 211 dX10_sendGroup_207 (by decide) ?_
              refine il3 dX10_sendGroup_211 ?_
              refine cd10_195 (f' := f - 1) rfl dX10_sendGroup_212 (Nat.le_of_ble_eq_true rfl) (fx17 hX) (by omega) (q_pile hX ht) ?_
              refine al0 dX10_sendGroup_215 (by first | nofun | exact xrv_ne _) ?_
              refine il3 dX10_sendGroup_216 ?_
              refine ex_iconst (v := 2) dX10_sendGroup_217 (by decide) ?_
              refine ex_iconst (v := 0) dX10_sendGroup_218 (by decide) ?_
              refine cd10_205 (f' := f - 1) rfl dX10_sendGroup_219 (Nat.le_of_ble_eq_true rfl) (fx17 hX) (by omega) (q_sendIfThere hX (by omega) hB (by unfold mPile; rw [xdu_self, upd_self]; exact ht2) hw) ?_
              refine ex_vret dX10_sendGroup_222 rfl ?_
              refine ⟨rfl, rfl, ?_, rfl⟩
              clear pn
              simp_all [mSendG]
          · refine al0 dX10_sendGroup_184 (by first | nofun | exact xrv_ne _) ?_
            refine al0 dX10_sendGroup_185 (by first | nofun | exact xrv_ne _) ?_
            refine ex_bipush (v := 8) dX10_sendGroup_186 (by decide) ?_
            refine il1 dX10_sendGroup_188 ?_
            refine il3 dX10_sendGroup_189 ?_
            refine cd10_174 (f' := f - 1) rfl dX10_sendGroup_190 (Nat.le_of_ble_eq_true rfl) (fx17 hX) (by omega) (q_fails hX hB) ?_
            refine cd10_192 (f' := f - 1) rfl dX10_sendGroup_193 (Nat.le_of_ble_eq_true rfl) (fx17 hX) (by omega) (q_answers hX) ?_
            refine ex_goto 222 dX10_sendGroup_196 (by decide) ?_
            refine ex_vret dX10_sendGroup_222 rfl ?_
            refine ⟨rfl, rfl, ?_, rfl⟩
            clear pn
            simp_all [mSendG]
      · refine il2 dX10_sendGroup_137 ?_
        refine ex_bipush (v := 15) dX10_sendGroup_138 (by decide) ?_
        refine ex_icmp_eq 157 dX10_sendGroup_140 (by decide) (fun h140 => ?_) (fun h140 => ?_)
        · refine il3 dX10_sendGroup_157 ?_
          refine il1 dX10_sendGroup_158 ?_
          refine ex_iconst (v := 1) dX10_sendGroup_159 (by decide) ?_
          refine ex_iadd dX10_sendGroup_160 ?_
          refine il1 dX10_sendGroup_161 ?_
          refine al0 dX10_sendGroup_162 (by first | nofun | exact xrv_ne _) ?_
          refine rf_44 hX rfl dX10_sendGroup_163 ?_
          refine il1 dX10_sendGroup_166 ?_
          refine qb_12 hX dX10_sendGroup_167 (vi_of hc (by decide)) ?_
          refine ex_iadd dX10_sendGroup_168 ?_
          refine cd10_102 (f' := f - 1) rfl dX10_sendGroup_169 (Nat.le_of_ble_eq_true rfl) (by omega) (q_in hX) ?_
          refine ex_if_eq 184 dX10_sendGroup_172 (by decide) (fun h172 => ?_) (fun h172 => ?_)
          · simp only [bi_0, Bool.not_eq_false] at h172
            refine al0 dX10_sendGroup_184 (by first | nofun | exact xrv_ne _) ?_
            refine al0 dX10_sendGroup_185 (by first | nofun | exact xrv_ne _) ?_
            refine ex_bipush (v := 8) dX10_sendGroup_186 (by decide) ?_
            refine il1 dX10_sendGroup_188 ?_
            refine il3 dX10_sendGroup_189 ?_
            refine cd10_174 (f' := f - 1) rfl dX10_sendGroup_190 (Nat.le_of_ble_eq_true rfl) (fx17 hX) (by omega) (q_fails hX hB) ?_
            refine cd10_192 (f' := f - 1) rfl dX10_sendGroup_193 (Nat.le_of_ble_eq_true rfl) (fx17 hX) (by omega) (q_answers hX) ?_
            refine ex_goto 222 dX10_sendGroup_196 (by decide) ?_
            refine ex_vret dX10_sendGroup_222 rfl ?_
            refine ⟨rfl, rfl, ?_, rfl⟩
            clear pn
            simp_all [mSendG]
          · simp only [bi_0, Bool.not_eq_false] at h172
            have hw : vp_in w 41 := by
              obtain ⟨g1, g2⟩ := sIn_t.mp h172
              rw [ix_nI (show c < 2 ^ 31 by omega), pn.1, nI_add] at g2
              rw [show (1 : Int32) = nI 1 from rfl, nI_add] at g1
              exact vi_btw (a := c + 1) (x := nI (c + ix (E 12 c))) (A := 41) (vi_of (by omega) (by decide)) g1 g2 (by omega) (by decide)
            refine al0 dX10_sendGroup_175 (by first | nofun | exact xrv_ne _) ?_
            refine rf_41 hX rfl dX10_sendGroup_176 ?_
            refine il3 dX10_sendGroup_179 ?_
            refine qb_11 hX dX10_sendGroup_180 hw ?_
            refine ex_if_ne 199 dX10_sendGroup_181 (by decide) (fun h181 => ?_) (fun h181 => ?_)
            · refine al0 dX10_sendGroup_199 (by first | nofun | exact xrv_ne _) ?_
              refine il2 dX10_sendGroup_200 ?_
              refine ex_bipush (v := 13) dX10_sendGroup_201 (by decide) ?_
              refine ex_icmp_ne 210 dX10_sendGroup_203 (by decide) (fun h203 => ?_) (fun h203 => ?_)
              · refine ex_iconst (v := 3) dX10_sendGroup_210 (by decide) ?_
                refine il3 dX10_sendGroup_211 ?_
                refine cd10_195 (f' := f - 1) rfl dX10_sendGroup_212 (Nat.le_of_ble_eq_true rfl) (fx17 hX) (by omega) (q_pile hX ht) ?_
                refine al0 dX10_sendGroup_215 (by first | nofun | exact xrv_ne _) ?_
                refine il3 dX10_sendGroup_216 ?_
                refine ex_iconst (v := 2) dX10_sendGroup_217 (by decide) ?_
                refine ex_iconst (v := 0) dX10_sendGroup_218 (by decide) ?_
                refine cd10_205 (f' := f - 1) rfl dX10_sendGroup_219 (Nat.le_of_ble_eq_true rfl) (fx17 hX) (by omega) (q_sendIfThere hX (by omega) hB (by unfold mPile; rw [xdu_self, upd_self]; exact ht2) hw) ?_
                refine ex_vret dX10_sendGroup_222 rfl ?_
                refine ⟨rfl, rfl, ?_, rfl⟩
                clear pn
                simp_all [mSendG]
              · refine ex_iconst (v := 2) dX10_sendGroup_206 (by decide) ?_
                refine ex_goto 211 dX10_sendGroup_207 (by decide) ?_
                refine il3 dX10_sendGroup_211 ?_
                refine cd10_195 (f' := f - 1) rfl dX10_sendGroup_212 (Nat.le_of_ble_eq_true rfl) (fx17 hX) (by omega) (q_pile hX ht) ?_
                refine al0 dX10_sendGroup_215 (by first | nofun | exact xrv_ne _) ?_
                refine il3 dX10_sendGroup_216 ?_
                refine ex_iconst (v := 2) dX10_sendGroup_217 (by decide) ?_
                refine ex_iconst (v := 0) dX10_sendGroup_218 (by decide) ?_
                refine cd10_205 (f' := f - 1) rfl dX10_sendGroup_219 (Nat.le_of_ble_eq_true rfl) (fx17 hX) (by omega) (q_sendIfThere hX (by omega) hB (by unfold mPile; rw [xdu_self, upd_self]; exact ht2) hw) ?_
                refine ex_vret dX10_sendGroup_222 rfl ?_
                refine ⟨rfl, rfl, ?_, rfl⟩
                clear pn
                simp_all [mSendG]
            · refine al0 dX10_sendGroup_184 (by first | nofun | exact xrv_ne _) ?_
              refine al0 dX10_sendGroup_185 (by first | nofun | exact xrv_ne _) ?_
              refine ex_bipush (v := 8) dX10_sendGroup_186 (by decide) ?_
              refine il1 dX10_sendGroup_188 ?_
              refine il3 dX10_sendGroup_189 ?_
              refine cd10_174 (f' := f - 1) rfl dX10_sendGroup_190 (Nat.le_of_ble_eq_true rfl) (fx17 hX) (by omega) (q_fails hX hB) ?_
              refine cd10_192 (f' := f - 1) rfl dX10_sendGroup_193 (Nat.le_of_ble_eq_true rfl) (fx17 hX) (by omega) (q_answers hX) ?_
              refine ex_goto 222 dX10_sendGroup_196 (by decide) ?_
              refine ex_vret dX10_sendGroup_222 rfl ?_
              refine ⟨rfl, rfl, ?_, rfl⟩
              clear pn
              simp_all [mSendG]
        · refine al0 dX10_sendGroup_143 (by first | nofun | exact xrv_ne _) ?_
          refine al0 dX10_sendGroup_144 (by first | nofun | exact xrv_ne _) ?_
          refine ex_iconst (v := 2) dX10_sendGroup_145 (by decide) ?_
          refine il1 dX10_sendGroup_146 ?_
          refine il2 dX10_sendGroup_147 ?_
          refine cd10_174 (f' := f - 1) rfl dX10_sendGroup_148 (Nat.le_of_ble_eq_true rfl) (fx17 hX) (by omega) (q_fails hX hB) ?_
          refine cd10_192 (f' := f - 1) rfl dX10_sendGroup_151 (Nat.le_of_ble_eq_true rfl) (fx17 hX) (by omega) (q_answers hX) ?_
          refine ex_goto 222 dX10_sendGroup_154 (by decide) ?_
          refine ex_vret dX10_sendGroup_222 rfl ?_
          refine ⟨rfl, rfl, ?_, rfl⟩
          clear pn
          simp_all [mSendG]
    · refine il4 dX10_sendGroup_88 ?_
      refine ex_if_ne 99 dX10_sendGroup_90 (by decide) (fun h90 => ?_) (fun h90 => ?_)
      · obtain ⟨i, i1, i2, i3, i4⟩ := (sLeast_n 0 (ix (E 12 c)) pn.2).resolve_left (by rw [ix_nI (show c < 2 ^ 31 by omega)] at h90; exact h90)
        have e12 : ¬ E 12 c = 0 := fun q => by rw [q] at i2; exact absurd i2 (by show ¬ i ≤ 0; omega)
        have h10 : E 10 (c + i) = 0 := hI.2.2.2 c hc i i1 i2 e12
        have eL : sLeast E (nI c) 0 (ix (E 12 (ix (nI c)))) = nI (c + i) := by rw [ix_nI (show c < 2 ^ 31 by omega)]; exact i3
        rw [eL] at h90 ⊢
        refine al0 dX10_sendGroup_99 (by first | nofun | exact xrv_ne _) ?_
        refine rf_41 hX rfl dX10_sendGroup_100 ?_
        refine il4 dX10_sendGroup_103 ?_
        refine ex_iconst (v := 1) dX10_sendGroup_105 (by decide) ?_
        refine qt_11 hX dX10_sendGroup_106 (vi_of (by omega) (by decide)) (Or.inr rfl) ?_
        refine al0 dX10_sendGroup_107 (by first | nofun | exact xrv_ne _) ?_
        refine il4 dX10_sendGroup_108 ?_
        refine cd10_137 (f' := f - 1) rfl dX10_sendGroup_110 (Nat.le_of_ble_eq_true rfl) (fx17 hX) (by omega) (q_rowsAnew hX (o := c + i) (by omega) (hI.free (j := 11) (by decide)).2.1 (by rw [xdu_ne _ _ _ (by decide)]; exact h10)) ?_
        refine al0 dX10_sendGroup_113 (by first | nofun | exact xrv_ne _) ?_
        refine ex_iconst (v := 1) dX10_sendGroup_114 (by decide) ?_
        refine il4 dX10_sendGroup_115 ?_
        refine cd10_195 (f' := f - 1) rfl dX10_sendGroup_117 (Nat.le_of_ble_eq_true rfl) (fx17 hX) (by omega) (q_pile hX ht) ?_
        refine al0 dX10_sendGroup_120 (by first | nofun | exact xrv_ne _) ?_
        refine il4 dX10_sendGroup_121 ?_
        refine ex_iconst (v := 1) dX10_sendGroup_123 (by decide) ?_
        refine il3 dX10_sendGroup_124 ?_
        refine cd10_205 (f' := f - 1) rfl dX10_sendGroup_125 (Nat.le_of_ble_eq_true rfl) (fx17 hX) (by omega) (q_sendIfThere hX (by omega) (((hI.free (j := 11) (by decide)).rows (by omega)).1) (by unfold mPile; rw [xdu_self, upd_self]; exact ht2) (vi_of (by omega) (by decide))) ?_
        refine ex_goto 222 dX10_sendGroup_128 (by decide) ?_
        refine ex_vret dX10_sendGroup_222 rfl ?_
        refine ⟨rfl, rfl, ?_, rfl⟩
        clear pn
        simp_all [mSendG]
      · refine al0 dX10_sendGroup_93 (by first | nofun | exact xrv_ne _) ?_
        refine ex_iconst (v := 0) dX10_sendGroup_94 (by decide) ?_
        refine cd10_192 (f' := f - 1) rfl dX10_sendGroup_95 (Nat.le_of_ble_eq_true rfl) (fx17 hX) (by omega) (q_answers hX) ?_
        refine ex_vret dX10_sendGroup_98 rfl ?_
        refine ⟨rfl, rfl, ?_, rfl⟩
        clear pn
        simp_all [mSendG]
  · refine al0 dX10_sendGroup_73 (by first | nofun | exact xrv_ne _) ?_
    refine il5 dX10_sendGroup_74 ?_
    refine cd10_192 (f' := f - 1) rfl dX10_sendGroup_76 (Nat.le_of_ble_eq_true rfl) (fx17 hX) (by omega) (q_answers hX) ?_
    refine ex_goto 222 dX10_sendGroup_79 (by decide) ?_
    refine ex_vret dX10_sendGroup_222 rfl ?_
    refine ⟨rfl, rfl, ?_, rfl⟩
    clear pn
    simp_all [mSendG]
set_option maxRecDepth 20000 in
set_option maxHeartbeats 1000000 in
theorem q_sendGroup {Γ : xGm} {l : Launch} {f : Nat} {G : xG} {D S E : xD} {R : xR} (hX : xFix G R) (hf : 5 ≤ f) (hI : Iv E) (ht : vp_in (S 0 31) 40) (ht2 : vp_in (S 0 31 + 1) 40) {c : Nat} (hc : c < 41) {n w : Int32} : Cn Γ l f MX10_sendGroup [.ref 17, .int (nI c), .int n, .int w] G (mg D (ms S E)) R 0 0 (xdet none G (mg D (ms (mSendG S E (nI c) n w).1 (mSendG S E (nI c) n w).2)) R) := by
  refine cn_of MX10_sendGroup_ok (Nat.le_of_ble_eq_true rfl) ?_
  show Ex Γ l f MX10_sendGroup 0 [some (.ref 17), some (.int (nI c)), some (.int n), some (.int w), none, none, none] [] G (mg D (ms S E)) R 0 0 _
  refine ex_iconst (v := 0) dX10_sendGroup_0 (by decide) ?_
  refine is4 dX10_sendGroup_1 ?_
  refine ex_iconst (v := 0) dX10_sendGroup_3 (by decide) ?_
  refine is5 dX10_sendGroup_4 ?_
  refine il1 dX10_sendGroup_6 ?_
  refine al0 dX10_sendGroup_7 (by first | nofun | exact xrv_ne _) ?_
  refine rf_44 hX rfl dX10_sendGroup_8 ?_
  refine il1 dX10_sendGroup_11 ?_
  refine qb_12 hX dX10_sendGroup_12 (vi_of hc (by decide)) ?_
  have pn := pool_n hI.1 hc (by omega)
  rw [ix_nI (show c < 2 ^ 31 by omega)]
  refine ex_iadd dX10_sendGroup_13 ?_
  rw [pn.1, nI_add]
  refine is6 dX10_sendGroup_14 ?_
  refine q_free_lp hX (ix (E 12 c)) 0 0 pn.2 (fun z => ?_)
  rw [Nat.zero_add]
  have h := q_group_67 (Γ := Γ) (l := l) (f := f) (D := D) hX hf hI ht ht2 hc (n := n) (w := w) (z := z)
  rw [ix_nI (show c < 2 ^ 31 by omega)] at h
  exact h
