/-! ===== acts, pools ===== -/
theorem Sim_field {D : xD} {R : xR} {G : xG} {E : xD} {k k' : Nat} {x : Int32} (h : Sim D R G E) (hk : (k = 12 ∧ k' = 41) ∨ (k = 13 ∧ k' = 42)) (hI : Iv (xdu E 0 k' x)) (h01 : k' = 42 → (x = 0 ∨ x = 1)) : Sim (xdu D 0 k x) R G (xdu E 0 k' x) ∧ Sam D (xdu D 0 k x) := by
  have hne : ∀ j, j ≠ 0 → xdu E 0 k' x j = E j := fun j hj => xdu_ne _ _ _ hj
  have h0 : ∀ i, i ≠ k' → xdu E 0 k' x 0 i = E 0 i := fun i hi => by rw [xdu_self, upd_ne _ _ hi]
  refine ⟨Sim_fixed h (fun q hq => xdu_ne _ _ _ (fixed_ne h.X (by decide) hq rfl)) hI ?_ ?_ ?_ ?_ ?_ (fun j a b => hne j (by omega)) ⟨h0 _ (by omega), h0 _ (by omega), h0 _ (by omega), h0 _ (by omega), h0 _ (by omega)⟩, Sam.set (by omega)⟩
  · refine h.F.same (fun i a b c d => h0 i (by omega)) ?_ (hne _ (by decide)) (hne _ (by decide)) (hne _ (by decide)) (hne _ (by decide)) (hne _ (by decide)) (hne _ (by decide)) (hne _ (by decide)) (hne _ (by decide))
    rcases hk with ⟨rfl, rfl⟩ | ⟨rfl, rfl⟩
    · rw [h0 42 (by decide)]
      exact h.F.2.2.2.2.1
    · rw [xdu_self, upd_self]
      exact h01 rfl
  · have a := h.A
    unfold cA at a ⊢
    rcases hk with ⟨rfl, rfl⟩ | ⟨rfl, rfl⟩
    · rw [xdu_self, xdu_self]
      exact ⟨a.1, a.2.1, a.2.2.1, a.2.2.2.1, rfl, a.2.2.2.2.2⟩
    · rw [xdu_self, xdu_self]
      exact ⟨a.1, a.2.1, a.2.2.1, a.2.2.2.1, a.2.2.2.2.1, rfl⟩
  · unfold cFl
    rw [xdu_ne _ _ _ (show (13 : Nat) ≠ 0 by decide), xdu_ne _ _ _ (show (14 : Nat) ≠ 0 by decide), xdu_ne _ _ _ (show (15 : Nat) ≠ 0 by decide), xdu_ne _ _ _ (show (16 : Nat) ≠ 0 by decide), h0 0 (by omega), h0 27 (by omega), hne 22 (by decide)]
    exact h.fl
  · unfold cOu
    rw [xdu_ne _ _ _ (show (9 : Nat) ≠ 0 by decide), xdu_ne _ _ _ (show (10 : Nat) ≠ 0 by decide), h0 29 (by omega), hne 23 (by decide)]
    exact h.ou
  · unfold cTr
    rw [xdu_ne _ _ _ (show (6 : Nat) ≠ 0 by decide), xdu_ne _ _ _ (show (7 : Nat) ≠ 0 by decide), xdu_ne _ _ _ (show (8 : Nat) ≠ 0 by decide), hne 19 (by decide), hne 20 (by decide), hne 21 (by decide)]
    exact h.tr
theorem xdu_xdu {E : xD} {j k i : Nat} {x y : Int32} (h : k ≠ i) : xdu (xdu E j k x) j i y = xdu (xdu E j i y) j k x := by
  funext q
  by_cases hq : q = j
  · subst hq
    rw [xdu_self, xdu_self, xdu_self, xdu_self]
    funext z
    unfold upd
    by_cases a : z = i
    · rw [if_pos a, if_neg (by omega), if_pos a]
    · rw [if_neg a]
      by_cases b : z = k
      · rw [if_pos b, if_pos b]
      · rw [if_neg b, if_neg b, if_neg a]
  · rw [xdu_ne _ _ _ hq, xdu_ne _ _ _ hq, xdu_ne _ _ _ hq, xdu_ne _ _ _ hq]
theorem xdu_xdj {E : xD} {j j' k i : Nat} {x y : Int32} (h : j ≠ j') : xdu (xdu E j k x) j' i y = xdu (xdu E j' i y) j k x := by
  funext q
  by_cases hq : q = j
  · subst hq
    rw [xdu_ne _ _ _ h, xdu_self, xdu_self, xdu_ne _ _ _ h]
  · rw [xdu_ne _ _ _ hq]
    by_cases hq2 : q = j'
    · subst hq2
      rw [xdu_self, xdu_self, xdu_ne _ _ _ hq]
    · rw [xdu_ne _ _ _ hq2, xdu_ne _ _ _ hq2, xdu_ne _ _ _ hq]
theorem sFails_42 {E : xD} {k a b x : Int32} : sFails (xdu E 0 42 x) k a b = xdu (sFails E k a b) 0 42 x := by
  unfold sFails
  have e0 : xdu E 0 42 x 0 0 = E 0 0 := by rw [xdu_self, upd_ne _ _ (by decide)]
  have e27 : xdu E 0 42 x 0 27 = E 0 27 := by rw [xdu_self, upd_ne _ _ (by decide)]
  rw [e0, e27]
  split
  · rw [xdu_xdu (k := 27) (i := 42) (by decide), xdu_xdj (j := 22) (j' := 0) (i := 42) (by decide), xdu_xdj (j := 22) (j' := 0) (i := 42) (by decide), xdu_xdj (j := 22) (j' := 0) (i := 42) (by decide)]
  · rfl
set_option maxRecDepth 20000 in
set_option maxHeartbeats 1000000 in
theorem c_start {Γ : xGm} {l : Launch} {f : Nat} {G : xG} {D : xD} {R : xR} (hX : xFix G R) : Cn Γ l f MX9_startActs [.ref 0] G D R 0 0 (xdet none G (xdu (xdu D 0 12 0) 0 13 0) R) := by
  refine cn_of MX9_startActs_ok (Nat.le_of_ble_eq_true rfl) ?_
  show Ex Γ l f MX9_startActs 0 [some (.ref 0)] [] G D R 0 0 _
  refine al0 dX9_startActs_0 (by first | nofun | exact xrv_ne _) ?_
  refine ex_iconst (v := 0) dX9_startActs_1 (by decide) ?_
  refine pf9_251 rfl dX9_startActs_2 (fx0 hX) ?_
  refine al0 dX9_startActs_5 (by first | nofun | exact xrv_ne _) ?_
  refine ex_iconst (v := 0) dX9_startActs_6 (by decide) ?_
  refine pf9_268 rfl dX9_startActs_7 (Or.inl rfl) (fx0 hX) ?_
  refine ex_vret dX9_startActs_10 rfl ?_
  exact ⟨rfl, rfl, rfl, rfl⟩
theorem Sim_begin {D : xD} {R : xR} {G : xG} {E : xD} (h : Sim D R G E) : Sim (xdu (xdu D 0 12 0) 0 13 0) R G (sBegin E) ∧ Sam D (xdu (xdu D 0 12 0) 0 13 0) := by
  obtain ⟨h1, s1⟩ := Sim_field (k := 12) (k' := 41) (x := 0) h (Or.inl ⟨rfl, rfl⟩) (h.I.n41 (vi_of (n := 0) (by decide) (by decide))) (fun q => absurd q (by decide))
  obtain ⟨h2, s2⟩ := Sim_field (k := 13) (k' := 42) (x := 0) h1 (Or.inr ⟨rfl, rfl⟩) h1.I.spent (fun _ => Or.inl rfl)
  exact ⟨h2, s1.tr s2⟩
set_option maxRecDepth 20000 in
set_option maxHeartbeats 1000000 in
theorem c_may_y {Γ : xGm} {l : Launch} {f : Nat} {G : xG} {D E : xD} {R : xR} (hf : 1 ≤ f) (hS : Sim D R G E) {o : Int32} (h2 : ¬ E 0 41 = 200) : Cn Γ l f MX9_mayAct [.ref 0, .int o] G D R 0 0 (xdet (some (.int (bi true))) G (xdu D 0 12 (E 0 41 + 1)) R) := by
  refine cn_of MX9_mayAct_ok (Nat.le_of_ble_eq_true rfl) ?_
  show Ex Γ l f MX9_mayAct 0 [some (.ref 0), some (.int o)] [] G D R 0 0 _
  refine al0 dX9_mayAct_0 (by first | nofun | exact xrv_ne _) ?_
  refine gf9_251 rfl dX9_mayAct_1 (fx0 hS.X) ?_
  refine ex_sipush (v := 200) dX9_mayAct_4 (by decide) ?_
  rw [hS.A.2.2.2.2.1]
  refine ex_icmp_ge 22 dX9_mayAct_7 (by decide) (fun h7 => ?_) (fun h7 => ?_)
  · exact absurd h7 (vi_not (n := 200) (vi_ne hS.B.n41 (by decide) h2) (by decide))
  · refine al0 dX9_mayAct_10 (by first | nofun | exact xrv_ne _) ?_
    refine ex_dup dX9_mayAct_11 ?_
    refine gf9_251 rfl dX9_mayAct_12 (fx0 hS.X) ?_
    rw [hS.A.2.2.2.2.1]
    refine ex_iconst (v := 1) dX9_mayAct_15 (by decide) ?_
    refine ex_iadd dX9_mayAct_16 ?_
    refine pf9_251 rfl dX9_mayAct_17 (fx0 hS.X) ?_
    refine ex_iconst (v := 1) dX9_mayAct_20 (by decide) ?_
    refine ex_zret dX9_mayAct_21 rfl (by decide) ?_
    exact ⟨rfl, rfl, rfl, rfl⟩
set_option maxRecDepth 20000 in
set_option maxHeartbeats 1000000 in
theorem c_may_n {Γ : xGm} {l : Launch} {f : Nat} {G : xG} {D E : xD} {R : xR} (hf : 1 ≤ f) (hS : Sim D R G E) {o : Int32} (h2 : E 0 41 = 200) : Cn Γ l f MX9_mayAct [.ref 0, .int o] G D R 0 0 (xdet (some (.int (bi false))) G (if E 0 42 = 0 then cTell (xdu D 0 13 1) 10 o 0 else D) R) := by
  refine cn_of MX9_mayAct_ok (Nat.le_of_ble_eq_true rfl) ?_
  show Ex Γ l f MX9_mayAct 0 [some (.ref 0), some (.int o)] [] G D R 0 0 _
  refine al0 dX9_mayAct_0 (by first | nofun | exact xrv_ne _) ?_
  refine gf9_251 rfl dX9_mayAct_1 (fx0 hS.X) ?_
  refine ex_sipush (v := 200) dX9_mayAct_4 (by decide) ?_
  rw [hS.A.2.2.2.2.1]
  refine ex_icmp_ge 22 dX9_mayAct_7 (by decide) (fun h7 => ?_) (fun h7 => ?_)
  · refine al0 dX9_mayAct_22 (by first | nofun | exact xrv_ne _) ?_
    refine gf9_268 rfl dX9_mayAct_23 (fx0 hS.X) ?_
    rw [hS.A.2.2.2.2.2]
    refine ex_if_ne 46 dX9_mayAct_26 (by decide) (fun h26 => ?_) (fun h26 => ?_)
    · refine ex_iconst (v := 0) dX9_mayAct_46 (by decide) ?_
      refine ex_zret dX9_mayAct_47 rfl (by decide) ?_
      refine ⟨rfl, rfl, ?_, rfl⟩
      first | rw [if_neg h26] | rw [if_pos h26]
    · refine al0 dX9_mayAct_29 (by first | nofun | exact xrv_ne _) ?_
      refine ex_iconst (v := 1) dX9_mayAct_30 (by decide) ?_
      refine pf9_268 rfl dX9_mayAct_31 (Or.inr rfl) (fx0 hS.X) ?_
      refine al0 dX9_mayAct_34 (by first | nofun | exact xrv_ne _) ?_
      refine gf9_57 rfl dX9_mayAct_35 (fr0_6 hS.X) (fx0 hS.X) ?_
      refine ex_bipush (v := 10) dX9_mayAct_38 (by decide) ?_
      refine il1 dX9_mayAct_40 ?_
      refine ex_iconst (v := 0) dX9_mayAct_41 (by decide) ?_
      refine cd9_175 (f' := f - 1) rfl dX9_mayAct_42 (Nat.le_of_ble_eq_true rfl) (fx13 hS.X) (by omega) (c_tell hS.X (by rw [xdu_ne _ _ _ (by decide)]; exact hS.n13)) ?_
      refine ex_pop dX9_mayAct_45 ?_
      refine ex_iconst (v := 0) dX9_mayAct_46 (by decide) ?_
      refine ex_zret dX9_mayAct_47 rfl (by decide) ?_
      refine ⟨rfl, rfl, ?_, rfl⟩
      first | rw [if_neg h26] | rw [if_pos h26]
  · exact absurd (by rw [h2]; decide) h7
theorem Sim_spend {D : xD} {R : xR} {G : xG} {E : xD} {o : Int32} (h : Sim D R G E) : Sim (if E 0 42 = 0 then cTell (xdu D 0 13 1) 10 o 0 else D) R G (sSpend E o) ∧ Sam D (if E 0 42 = 0 then cTell (xdu D 0 13 1) 10 o 0 else D) := by
  unfold sSpend
  by_cases q : E 0 42 = 0
  · rw [if_pos q, if_pos q]
    obtain ⟨h1, s1⟩ := Sim_field (k := 13) (k' := 42) (x := 1) h (Or.inr ⟨rfl, rfl⟩) h.I.spent (fun _ => Or.inr rfl)
    obtain ⟨h2, s2⟩ := Sim_tell h1 10 o 0
    rw [sFails_42] at h2
    exact ⟨h2, s1.tr s2⟩
  · rw [if_neg q, if_neg q]
    exact ⟨h, Sam.rf⟩
theorem Sim_act {D : xD} {R : xR} {G : xG} {E : xD} (h : Sim D R G E) (h2 : ¬ E 0 41 = 200) : Sim (xdu D 0 12 (E 0 41 + 1)) R G (xdu E 0 41 (E 0 41 + 1)) ∧ Sam D (xdu D 0 12 (E 0 41 + 1)) := Sim_field h (Or.inl ⟨rfl, rfl⟩) (h.I.kacts h2).1 (fun q => absurd q (by decide))
set_option maxRecDepth 20000 in
set_option maxHeartbeats 1000000 in
theorem c_ends {Γ : xGm} {l : Launch} {f : Nat} {G : xG} {D : xD} {R : xR} {c r : Int32} (hc : c = 14 → r = 0 ∨ r = 1) : Cn Γ l f MX9_endsBehind [.int c, .int r] G D R 0 0 (xdet (some (.int (bi (sEnds c r)))) G D R) := by
  refine cn_of MX9_endsBehind_ok (Nat.le_of_ble_eq_true rfl) ?_
  show Ex Γ l f MX9_endsBehind 0 [some (.int c), some (.int r)] [] G D R 0 0 _
  refine il0 dX9_endsBehind_0 ?_
  refine ex_bipush (v := 12) dX9_endsBehind_1 (by decide) ?_
  refine ex_icmp_ne 10 dX9_endsBehind_3 (by decide) (fun h3 => ?_) (fun h3 => ?_)
  · refine il0 dX9_endsBehind_10 ?_
    refine ex_bipush (v := 14) dX9_endsBehind_11 (by decide) ?_
    refine ex_icmp_ne 24 dX9_endsBehind_13 (by decide) (fun h13 => ?_) (fun h13 => ?_)
    · refine ex_iconst (v := 0) dX9_endsBehind_24 (by decide) ?_
      refine ex_zret dX9_endsBehind_25 rfl (by decide) ?_
      refine ⟨?_, rfl, rfl, rfl⟩
      unfold sEnds
      by_cases c12 : c = 12
      · subst c12
        first | (simp [bi, h7]; done) | exact absurd rfl h3 | exact absurd h13 (by decide)
      · by_cases c14 : c = 14
        · subst c14
          rcases hc rfl with r0 | r1
          · first | (subst r0; rfl) | exact absurd r0 h17 | exact absurd h3 (by decide) | exact absurd rfl h13
          · first | (simp [bi, r1]; done) | exact absurd (by rw [← h17, r1]) (show ¬ (0 : Int32) = 1 by decide) | (rw [h17] at r1; exact absurd r1 (by decide)) | exact absurd rfl h13 | exact absurd h3 (by decide)
        · first | (simp [bi, c12, c14]; done) | exact absurd h3 c12 | exact absurd h13 c14
    · refine il1 dX9_endsBehind_16 ?_
      refine ex_if_eq 24 dX9_endsBehind_17 (by decide) (fun h17 => ?_) (fun h17 => ?_)
      · refine ex_iconst (v := 0) dX9_endsBehind_24 (by decide) ?_
        refine ex_zret dX9_endsBehind_25 rfl (by decide) ?_
        refine ⟨?_, rfl, rfl, rfl⟩
        unfold sEnds
        by_cases c12 : c = 12
        · subst c12
          first | (simp [bi, h7]; done) | exact absurd rfl h3 | exact absurd h13 (by decide)
        · by_cases c14 : c = 14
          · subst c14
            rcases hc rfl with r0 | r1
            · first | (subst r0; rfl) | exact absurd r0 h17 | exact absurd h3 (by decide) | exact absurd rfl h13
            · first | (simp [bi, r1]; done) | exact absurd (by rw [← h17, r1]) (show ¬ (0 : Int32) = 1 by decide) | (rw [h17] at r1; exact absurd r1 (by decide)) | exact absurd rfl h13 | exact absurd h3 (by decide)
          · first | (simp [bi, c12, c14]; done) | exact absurd h3 c12 | exact absurd h13 c14
      · refine ex_iconst (v := 1) dX9_endsBehind_20 (by decide) ?_
        refine ex_goto 25 dX9_endsBehind_21 (by decide) ?_
        refine ex_zret dX9_endsBehind_25 rfl (by decide) ?_
        refine ⟨?_, rfl, rfl, rfl⟩
        unfold sEnds
        by_cases c12 : c = 12
        · subst c12
          first | (simp [bi, h7]; done) | exact absurd rfl h3 | exact absurd h13 (by decide)
        · by_cases c14 : c = 14
          · subst c14
            rcases hc rfl with r0 | r1
            · first | (subst r0; rfl) | exact absurd r0 h17 | exact absurd h3 (by decide) | exact absurd rfl h13
            · first | (simp [bi, r1]; done) | exact absurd (by rw [← h17, r1]) (show ¬ (0 : Int32) = 1 by decide) | (rw [h17] at r1; exact absurd r1 (by decide)) | exact absurd rfl h13 | exact absurd h3 (by decide)
          · first | (simp [bi, c12, c14]; done) | exact absurd h3 c12 | exact absurd h13 c14
  · refine il1 dX9_endsBehind_6 ?_
    refine ex_if_eq 20 dX9_endsBehind_7 (by decide) (fun h7 => ?_) (fun h7 => ?_)
    · refine ex_iconst (v := 1) dX9_endsBehind_20 (by decide) ?_
      refine ex_goto 25 dX9_endsBehind_21 (by decide) ?_
      refine ex_zret dX9_endsBehind_25 rfl (by decide) ?_
      refine ⟨?_, rfl, rfl, rfl⟩
      unfold sEnds
      by_cases c12 : c = 12
      · subst c12
        first | (simp [bi, h7]; done) | exact absurd rfl h3 | exact absurd h13 (by decide)
      · by_cases c14 : c = 14
        · subst c14
          rcases hc rfl with r0 | r1
          · first | (subst r0; rfl) | exact absurd r0 h17 | exact absurd h3 (by decide) | exact absurd rfl h13
          · first | (simp [bi, r1]; done) | exact absurd (by rw [← h17, r1]) (show ¬ (0 : Int32) = 1 by decide) | (rw [h17] at r1; exact absurd r1 (by decide)) | exact absurd rfl h13 | exact absurd h3 (by decide)
        · first | (simp [bi, c12, c14]; done) | exact absurd h3 c12 | exact absurd h13 c14
    · refine il0 dX9_endsBehind_10 ?_
      refine ex_bipush (v := 14) dX9_endsBehind_11 (by decide) ?_
      refine ex_icmp_ne 24 dX9_endsBehind_13 (by decide) (fun h13 => ?_) (fun h13 => ?_)
      · refine ex_iconst (v := 0) dX9_endsBehind_24 (by decide) ?_
        refine ex_zret dX9_endsBehind_25 rfl (by decide) ?_
        refine ⟨?_, rfl, rfl, rfl⟩
        unfold sEnds
        by_cases c12 : c = 12
        · subst c12
          first | (simp [bi, h7]; done) | exact absurd rfl h3 | exact absurd h13 (by decide)
        · by_cases c14 : c = 14
          · subst c14
            rcases hc rfl with r0 | r1
            · first | (subst r0; rfl) | exact absurd r0 h17 | exact absurd h3 (by decide) | exact absurd rfl h13
            · first | (simp [bi, r1]; done) | exact absurd (by rw [← h17, r1]) (show ¬ (0 : Int32) = 1 by decide) | (rw [h17] at r1; exact absurd r1 (by decide)) | exact absurd rfl h13 | exact absurd h3 (by decide)
          · first | (simp [bi, c12, c14]; done) | exact absurd h3 c12 | exact absurd h13 c14
      · refine il1 dX9_endsBehind_16 ?_
        refine ex_if_eq 24 dX9_endsBehind_17 (by decide) (fun h17 => ?_) (fun h17 => ?_)
        · refine ex_iconst (v := 0) dX9_endsBehind_24 (by decide) ?_
          refine ex_zret dX9_endsBehind_25 rfl (by decide) ?_
          refine ⟨?_, rfl, rfl, rfl⟩
          unfold sEnds
          by_cases c12 : c = 12
          · subst c12
            first | (simp [bi, h7]; done) | exact absurd rfl h3 | exact absurd h13 (by decide)
          · by_cases c14 : c = 14
            · subst c14
              rcases hc rfl with r0 | r1
              · first | (subst r0; rfl) | exact absurd r0 h17 | exact absurd h3 (by decide) | exact absurd rfl h13
              · first | (simp [bi, r1]; done) | exact absurd (by rw [← h17, r1]) (show ¬ (0 : Int32) = 1 by decide) | (rw [h17] at r1; exact absurd r1 (by decide)) | exact absurd rfl h13 | exact absurd h3 (by decide)
            · first | (simp [bi, c12, c14]; done) | exact absurd h3 c12 | exact absurd h13 c14
        · refine ex_iconst (v := 1) dX9_endsBehind_20 (by decide) ?_
          refine ex_goto 25 dX9_endsBehind_21 (by decide) ?_
          refine ex_zret dX9_endsBehind_25 rfl (by decide) ?_
          refine ⟨?_, rfl, rfl, rfl⟩
          unfold sEnds
          by_cases c12 : c = 12
          · subst c12
            first | (simp [bi, h7]; done) | exact absurd rfl h3 | exact absurd h13 (by decide)
          · by_cases c14 : c = 14
            · subst c14
              rcases hc rfl with r0 | r1
              · first | (subst r0; rfl) | exact absurd r0 h17 | exact absurd h3 (by decide) | exact absurd rfl h13
              · first | (simp [bi, r1]; done) | exact absurd (by rw [← h17, r1]) (show ¬ (0 : Int32) = 1 by decide) | (rw [h17] at r1; exact absurd r1 (by decide)) | exact absurd rfl h13 | exact absurd h3 (by decide)
            · first | (simp [bi, c12, c14]; done) | exact absurd h3 c12 | exact absurd h13 c14
theorem pool_k {D E : xD} {R : xR} {G : xG} (h : Sim D R G E) {c k : Nat} (c1 : 1 ≤ c) (hc : c < 41) (k1 : 1 ≤ k) (hk : k ≤ ix (E 12 c)) : nI c + nI k = nI (c + k) ∧ c + k < 41 ∧ c + k ≤ ix (E 0 14) ∧ E 10 (c + k) = 0 ∧ (sMeta E (nI (c + k)) = 2 ↔ ¬ E 11 (c + k) = 0) := by
  have h12 : ¬ E 12 c = 0 := fun q => by rw [q] at hk; have : ix (0 : Int32) = 0 := rfl; omega
  obtain ⟨a1, a2⟩ := h.B.a12 hc h12
  have hp := h.I.2.2.2 c hc k k1 hk h12
  obtain ⟨en, ln⟩ := vi_n h.B.n14 (by decide)
  have hin : sIn (nI (c + k)) 1 (E 0 14) = true := by
    rw [en]
    exact sIn_t.mpr ⟨nI_le (a := 1) (by omega) (by omega), nI_le (by omega) (by omega)⟩
  have ei : ix (nI (c + k)) = c + k := ix_nI (by omega)
  refine ⟨nI_add _ _, by omega, by omega, hp, ⟨fun q => ?_, fun q => sMeta_i2 hin (by rw [ei]; exact hp) (by rw [ei]; exact q)⟩⟩
  have := (sMeta_f2 q).2
  rw [ei] at this
  exact this
theorem pool_7 {E : xD} (hB : RB E) {c : Nat} (hc : c < 41) : E 12 c = nI (ix (E 12 c)) ∧ ix (E 12 c) < 7 := by
  by_cases h : E 12 c = 0
  · rw [h]
    exact ⟨rfl, by decide⟩
  · exact vi_n (hB.a12 hc h).1 (by decide)
set_option maxRecDepth 20000 in
set_option maxHeartbeats 1000000 in
theorem c_free_lp {Γ : xGm} {l : Launch} {f : Nat} {G : xG} {D E : xD} {R : xR} (hf : 2 ≤ f) (hS : Sim D R G E) {c b : Nat} (c1 : 1 ≤ c) (c41 : c < 41) (hq : xis G b 6) {p : Nat} (hp : ix (E 12 c) = p) (p7 : p < 7) (d2 : D b 2 = nI p) : ∀ (n k : Nat), k + n = p + 1 → 1 ≤ k → Ex Γ l f MX9_freeOnes 11 [some (.ref 0), some (.int (nI c)), some (.ref b), some (.int (nI (sFreeN E (nI c) (k - 1)))), some (.int (nI k))] [] G D R 0 0 (xdet (some (.int (nI (sFreeN E (nI c) p)))) G D R) := by
  intro n
  induction n with
  | zero =>
    intro k hk k1
    have hk : k = p + 1 := by omega
    subst hk
    refine al2 dX9_freeOnes_11 (by first | nofun | exact xrv_ne _) ?_
    refine ex_ifnull dX9_freeOnes_12 ?_
    refine il4 dX9_freeOnes_15 ?_
    refine al2 dX9_freeOnes_17 (by first | nofun | exact xrv_ne _) ?_
    refine gf9_296 rfl dX9_freeOnes_18 hq ?_
    rw [d2]
    refine ex_icmp_gt 50 dX9_freeOnes_21 (by decide) (fun h21 => ?_) (fun h21 => ?_)
    · refine il3 dX9_freeOnes_50 ?_
      refine ex_iret dX9_freeOnes_51 rfl ?_
      exact ⟨rfl, rfl, rfl, rfl⟩
    · exact absurd h21 (nI_ge (a := p) (b := p + 1) (by omega) (by omega))
  | succ n ih =>
    intro k hk k1
    obtain ⟨ek, k41, kle, k10, km⟩ := pool_k hS c1 c41 k1 (by omega)
    have es : sFreeN E (nI c) (k + 1 - 1) = sFreeN E (nI c) (k - 1) + (if ¬ E 11 (c + k) = 0 then 0 else 1) := by
      obtain ⟨j, rfl⟩ : ∃ j, k = j + 1 := ⟨k - 1, by omega⟩
      show sFreeN E (nI c) j + _ = _
      rw [ek, ix_nI (by omega)]
      rfl
    have hih := ih (k + 1) (by omega) (by omega)
    rw [es] at hih
    refine al2 dX9_freeOnes_11 (by first | nofun | exact xrv_ne _) ?_
    refine ex_ifnull dX9_freeOnes_12 ?_
    refine il4 dX9_freeOnes_15 ?_
    refine al2 dX9_freeOnes_17 (by first | nofun | exact xrv_ne _) ?_
    refine gf9_296 rfl dX9_freeOnes_18 hq ?_
    rw [d2]
    refine ex_icmp_gt 50 dX9_freeOnes_21 (by decide) (fun h21 => ?_) (fun h21 => ?_)
    · exact absurd (nI_le (a := k) (b := p) (by omega) (by omega)) h21
    · refine il3 dX9_freeOnes_24 ?_
      refine al0 dX9_freeOnes_25 (by first | nofun | exact xrv_ne _) ?_
      refine il1 dX9_freeOnes_26 ?_
      refine il4 dX9_freeOnes_27 ?_
      refine ex_iadd dX9_freeOnes_29 ?_
      rw [ek]
      refine cd9_172 (f' := f - 1) rfl dX9_freeOnes_30 (Nat.le_of_ble_eq_true rfl) (fx0 hS.X) (by omega) (c_meta (by omega) hS) ?_
      refine ex_iconst (v := 2) dX9_freeOnes_33 (by decide) ?_
      refine ex_icmp_ne 41 dX9_freeOnes_34 (by decide) (fun h34 => ?_) (fun h34 => ?_)
      · refine ex_iconst (v := 1) dX9_freeOnes_41 (by decide) ?_
        refine ex_iadd dX9_freeOnes_42 ?_
        refine is3 dX9_freeOnes_43 ?_
        refine ic4 (nI (k + 1)) dX9_freeOnes_44 (nI_1 k) ?_
        refine ex_goto 11 dX9_freeOnes_47 (by decide) ?_
        first
          | (rw [if_neg (fun q => h34 (km.mpr q))] at hih
             rw [show nI (sFreeN E (nI c) (k - 1)) + 1 = nI (sFreeN E (nI c) (k - 1) + 1) from nI_1 _]
             exact hih)
          | (rw [if_pos (km.mp h34)] at hih
             rw [show nI (sFreeN E (nI c) (k - 1)) + 0 = nI (sFreeN E (nI c) (k - 1) + 0) from nI_add _ 0]
             exact hih)
      · refine ex_iconst (v := 0) dX9_freeOnes_37 (by decide) ?_
        refine ex_goto 42 dX9_freeOnes_38 (by decide) ?_
        refine ex_iadd dX9_freeOnes_42 ?_
        refine is3 dX9_freeOnes_43 ?_
        refine ic4 (nI (k + 1)) dX9_freeOnes_44 (nI_1 k) ?_
        refine ex_goto 11 dX9_freeOnes_47 (by decide) ?_
        first
          | (rw [if_neg (fun q => h34 (km.mpr q))] at hih
             rw [show nI (sFreeN E (nI c) (k - 1)) + 1 = nI (sFreeN E (nI c) (k - 1) + 1) from nI_1 _]
             exact hih)
          | (rw [if_pos (km.mp h34)] at hih
             rw [show nI (sFreeN E (nI c) (k - 1)) + 0 = nI (sFreeN E (nI c) (k - 1) + 0) from nI_add _ 0]
             exact hih)
set_option maxRecDepth 20000 in
set_option maxHeartbeats 1000000 in
theorem c_free {Γ : xGm} {l : Launch} {f : Nat} {G : xG} {D E : xD} {R : xR} (hf : 2 ≤ f) (hS : Sim D R G E) {c b : Nat} (c1 : 1 ≤ c) (c41 : c < 41) (hv : sIn (nI c) 1 (E 0 14) = true) (hb : R 1 (c - 1) = some b) (hth : th D R G b E c) : Cn Γ l f MX9_freeOnes [.ref 0, .int (nI c)] G D R 0 0 (xdet (some (.int (nI (sFreeN E (nI c) (ix (E 12 c)))))) G D R) := by
  refine cn_of MX9_freeOnes_ok (Nat.le_of_ble_eq_true rfl) ?_
  show Ex Γ l f MX9_freeOnes 0 [some (.ref 0), some (.int (nI c)), none, none, none] [] G D R 0 0 _
  have ec : ix (nI c) = c := ix_nI (by omega)
  have hq := hth.1.1
  have d2 := hth.2.1.2.1
  refine al0 dX9_freeOnes_0 (by first | nofun | exact xrv_ne _) ?_
  refine il1 dX9_freeOnes_1 ?_
  refine cd9_115 (f' := f - 1) rfl dX9_freeOnes_2 (Nat.le_of_ble_eq_true rfl) (fx0 hS.X) (by omega) (c_thing_y hS.X hS.n8 (by rw [hS.A.1]; exact hv) (by rw [ec]; exact hb)) ?_
  refine as2 dX9_freeOnes_5 (by first | nofun | exact xrv_ne _) ?_
  refine ex_iconst (v := 0) dX9_freeOnes_6 (by decide) ?_
  refine is3 dX9_freeOnes_7 ?_
  refine ex_iconst (v := 1) dX9_freeOnes_8 (by decide) ?_
  refine is4 dX9_freeOnes_9 ?_
  exact c_free_lp hf hS c1 c41 hq rfl (pool_7 hS.B c41).2 (d2.trans (pool_7 hS.B c41).1) (ix (E 12 c)) 1 (by omega) (Nat.le_refl _)
theorem sLeast_no {E : xD} {c : Nat} : ∀ (n : Nat) (o : Int32), (∀ k, 1 ≤ k → k ≤ n → ¬ E 11 (ix (nI c + nI k)) = 0) → sLeast E (nI c) o n = o
  | 0, _, _ => rfl
  | n + 1, o, h => by
    rw [sLeast, if_pos (h (n + 1) (by omega) (by omega))]
    exact sLeast_no n o (fun k a b => h k a (by omega))
theorem sLeast_yes {E : xD} {c j : Nat} (j1 : 1 ≤ j) (hj : E 11 (ix (nI c + nI j)) = 0) (hb : ∀ k, 1 ≤ k → k < j → ¬ E 11 (ix (nI c + nI k)) = 0) : ∀ (n : Nat) (o : Int32), j ≤ n → sLeast E (nI c) o n = nI c + nI j
  | 0, _, h => by omega
  | n + 1, o, h => by
    rw [sLeast]
    by_cases e : j = n + 1
    · subst e
      rw [if_neg (fun q => q hj)]
      exact sLeast_no n _ (fun k a b => hb k a (by omega))
    · exact sLeast_yes j1 hj hb n _ (by omega)
set_option maxRecDepth 20000 in
set_option maxHeartbeats 1000000 in
theorem c_least_lp {Γ : xGm} {l : Launch} {f : Nat} {G : xG} {D E : xD} {R : xR} (hf : 2 ≤ f) (hS : Sim D R G E) {c b : Nat} (c1 : 1 ≤ c) (c41 : c < 41) (hq : xis G b 6) {p : Nat} (hp : ix (E 12 c) = p) (p7 : p < 7) (d2 : D b 2 = nI p) : ∀ (n k : Nat), k + n = p + 1 → 1 ≤ k → (∀ j, 1 ≤ j → j < k → ¬ E 11 (ix (nI c + nI j)) = 0) → Ex Γ l f MX9_leastFree 8 [some (.ref 0), some (.int (nI c)), some (.ref b), some (.int (nI k))] [] G D R 0 0 (xdet (some (.int (sLeast E (nI c) 0 p))) G D R) := by
  intro n
  induction n with
  | zero =>
    intro k hk k1 hno
    have hk : k = p + 1 := by omega
    subst hk
    rw [sLeast_no _ _ (fun k a b => hno k a (by omega))]
    refine al2 dX9_leastFree_8 (by first | nofun | exact xrv_ne _) ?_
    refine ex_ifnull dX9_leastFree_9 ?_
    refine il3 dX9_leastFree_12 ?_
    refine al2 dX9_leastFree_13 (by first | nofun | exact xrv_ne _) ?_
    refine gf9_296 rfl dX9_leastFree_14 hq ?_
    rw [d2]
    refine ex_icmp_gt 41 dX9_leastFree_17 (by decide) (fun h17 => ?_) (fun h17 => ?_)
    · refine ex_iconst (v := 0) dX9_leastFree_41 (by decide) ?_
      refine ex_iret dX9_leastFree_42 rfl ?_
      exact ⟨rfl, rfl, rfl, rfl⟩
    · exact absurd h17 (nI_ge (a := p) (b := p + 1) (by omega) (by omega))
  | succ n ih =>
    intro k hk k1 hno
    obtain ⟨ek, k41, kle, k10, km⟩ := pool_k hS c1 c41 k1 (by omega)
    have ei : ix (nI c + nI k) = c + k := by rw [ek, ix_nI (by omega)]
    refine al2 dX9_leastFree_8 (by first | nofun | exact xrv_ne _) ?_
    refine ex_ifnull dX9_leastFree_9 ?_
    refine il3 dX9_leastFree_12 ?_
    refine al2 dX9_leastFree_13 (by first | nofun | exact xrv_ne _) ?_
    refine gf9_296 rfl dX9_leastFree_14 hq ?_
    rw [d2]
    refine ex_icmp_gt 41 dX9_leastFree_17 (by decide) (fun h17 => ?_) (fun h17 => ?_)
    · exact absurd (nI_le (a := k) (b := p) (by omega) (by omega)) h17
    · refine al0 dX9_leastFree_20 (by first | nofun | exact xrv_ne _) ?_
      refine il1 dX9_leastFree_21 ?_
      refine il3 dX9_leastFree_22 ?_
      refine ex_iadd dX9_leastFree_23 ?_
      rw [ek]
      refine cd9_172 (f' := f - 1) rfl dX9_leastFree_24 (Nat.le_of_ble_eq_true rfl) (fx0 hS.X) (by omega) (c_meta (by omega) hS) ?_
      refine ex_iconst (v := 2) dX9_leastFree_27 (by decide) ?_
      refine ex_icmp_eq 35 dX9_leastFree_28 (by decide) (fun h28 => ?_) (fun h28 => ?_)
      · refine ic3 (nI (k + 1)) dX9_leastFree_35 (nI_1 k) ?_
        refine ex_goto 8 dX9_leastFree_38 (by decide) ?_
        exact ih (k + 1) (by omega) (by omega) (fun j a b => by
          by_cases e : j = k
          · subst e
            rw [ei]
            exact km.mp h28
          · exact hno j a (by omega))
      · refine il1 dX9_leastFree_31 ?_
        refine il3 dX9_leastFree_32 ?_
        refine ex_iadd dX9_leastFree_33 ?_
        refine ex_iret dX9_leastFree_34 rfl ?_
        refine ⟨?_, rfl, rfl, rfl⟩
        rw [sLeast_yes k1 (by rw [ei]; exact Classical.byContradiction fun q => h28 (km.mpr q)) hno _ _ (by omega)]
set_option maxRecDepth 20000 in
set_option maxHeartbeats 1000000 in
theorem c_least {Γ : xGm} {l : Launch} {f : Nat} {G : xG} {D E : xD} {R : xR} (hf : 2 ≤ f) (hS : Sim D R G E) {c b : Nat} (c1 : 1 ≤ c) (c41 : c < 41) (hv : sIn (nI c) 1 (E 0 14) = true) (hb : R 1 (c - 1) = some b) (hth : th D R G b E c) : Cn Γ l f MX9_leastFree [.ref 0, .int (nI c)] G D R 0 0 (xdet (some (.int (sLeast E (nI c) 0 (ix (E 12 c))))) G D R) := by
  refine cn_of MX9_leastFree_ok (Nat.le_of_ble_eq_true rfl) ?_
  show Ex Γ l f MX9_leastFree 0 [some (.ref 0), some (.int (nI c)), none, none] [] G D R 0 0 _
  have ec : ix (nI c) = c := ix_nI (by omega)
  have hq := hth.1.1
  have d2 := hth.2.1.2.1
  refine al0 dX9_leastFree_0 (by first | nofun | exact xrv_ne _) ?_
  refine il1 dX9_leastFree_1 ?_
  refine cd9_115 (f' := f - 1) rfl dX9_leastFree_2 (Nat.le_of_ble_eq_true rfl) (fx0 hS.X) (by omega) (c_thing_y hS.X hS.n8 (by rw [hS.A.1]; exact hv) (by rw [ec]; exact hb)) ?_
  refine as2 dX9_leastFree_5 (by first | nofun | exact xrv_ne _) ?_
  refine ex_iconst (v := 1) dX9_leastFree_6 (by decide) ?_
  refine is3 dX9_leastFree_7 ?_
  exact c_least_lp hf hS c1 c41 hq rfl (pool_7 hS.B c41).2 (d2.trans (pool_7 hS.B c41).1) (ix (E 12 c)) 1 (by omega) (Nat.le_refl _) (fun j a b => by omega)
theorem pool_in {E : xD} (hB : RB E) {c : Nat} (hc : c < 41) {w : Int32} : sIn w (nI c + 1) (nI c + E 12 c) = true ↔ ¬ w ≤ nI c ∧ w ≤ nI c + E 12 c := by
  rw [sIn_t, show nI c + 1 = nI (c + 1) from nI_1 c]
  rw [i32_le (a := nI (c + 1)), i32_le (a := w) (b := nI c), nI_toInt (by omega), nI_toInt (by omega)]
  constructor
  · exact fun q => ⟨by omega, q.2⟩
  · exact fun q => ⟨by omega, q.2⟩
theorem pool_wn {D E : xD} {R : xR} {G : xG} (h : Sim D R G E) {c : Nat} (c1 : 1 ≤ c) (hc : c < 41) {w : Int32} (hw : sIn w (nI c + 1) (nI c + E 12 c) = true) : ∃ a, w = nI a ∧ 1 ≤ a ∧ a < 41 ∧ a ≤ ix (E 0 14) ∧ E 10 a = 0 ∧ sIn w 1 (E 0 14) = true := by
  obtain ⟨a, e, a1, a2, a3⟩ := pool_w h.I hc (by rw [ix_nI (by omega)]; exact hw)
  obtain ⟨p1, p2⟩ := pool_7 h.B hc
  have hle : a ≤ c + ix (E 12 c) := by
    have := (sIn_t.mp hw).2
    rw [e, p1, nI_add] at this
    exact (nI_leI (by omega) (by omega)).mp this
  have hge : c + 1 ≤ a := by
    have := (sIn_t.mp hw).1
    rw [e, show nI c + 1 = nI (c + 1) from nI_1 c] at this
    exact (nI_leI (by omega) (by omega)).mp this
  have h12 : ¬ E 12 c = 0 := fun q => by
    rw [q] at hle
    have : ix (0 : Int32) = 0 := rfl
    omega
  have h3 := (h.B.a12 hc h12).2
  obtain ⟨en, ln⟩ := vi_n h.B.n14 (by decide)
  refine ⟨a, e, a1, a2, by omega, a3, ?_⟩
  rw [e, en]
  exact sIn_t.mpr ⟨nI_le (a := 1) (by omega) (by omega), nI_le (by omega) (by omega)⟩
set_option maxRecDepth 20000 in
set_option maxHeartbeats 1000000 in
theorem c_tip_y {Γ : xGm} {l : Launch} {f : Nat} {G : xG} {D E : xD} {R : xR} (hf : 2 ≤ f) (hS : Sim D R G E) {c b : Nat} (c1 : 1 ≤ c) (c41 : c < 41) (hv : sIn (nI c) 1 (E 0 14) = true) (hb : R 1 (c - 1) = some b) (hth : th D R G b E c) {w : Int32} {bw : Nat} (hw : sIn w (nI c + 1) (nI c + E 12 c) = true) (h11 : ¬ E 11 (ix w) = 0) (hbw : R 1 (ix w - 1) = some bw) (htw : th D R G bw E (ix w)) : Cn Γ l f MX9_thereInPool [.ref 0, .int (nI c), .int w] G D R 0 0 (xdet (some (xrv (some bw))) G D R) := by
  refine cn_of MX9_thereInPool_ok (Nat.le_of_ble_eq_true rfl) ?_
  show Ex Γ l f MX9_thereInPool 0 [some (.ref 0), some (.int (nI c)), some (.int w), none, none] [] G D R 0 0 _
  have ec : ix (nI c) = c := ix_nI (by omega)
  have hq := hth.1.1
  have d2 := hth.2.1.2.1
  obtain ⟨a, ea, a1, a2, a3, a4, hwi⟩ := pool_wn hS c1 c41 hw
  have hqw := htw.1.1
  have hw2 := (pool_in hS.B c41).mp hw
  refine al0 dX9_thereInPool_0 (by first | nofun | exact xrv_ne _) ?_
  refine il1 dX9_thereInPool_1 ?_
  refine cd9_115 (f' := f - 1) rfl dX9_thereInPool_2 (Nat.le_of_ble_eq_true rfl) (fx0 hS.X) (by omega) (c_thing_y hS.X hS.n8 (by rw [hS.A.1]; exact hv) (by rw [ec]; exact hb)) ?_
  refine as3 dX9_thereInPool_5 (by first | nofun | exact xrv_ne _) ?_
  refine al0 dX9_thereInPool_6 (by first | nofun | exact xrv_ne _) ?_
  refine il2 dX9_thereInPool_7 ?_
  refine cd9_115 (f' := f - 1) rfl dX9_thereInPool_8 (Nat.le_of_ble_eq_true rfl) (fx0 hS.X) (by omega) (c_thing_y hS.X hS.n8 (by rw [hS.A.1]; exact hwi) hbw) ?_
  refine as4 dX9_thereInPool_11 (by first | nofun | exact xrv_ne _) ?_
  refine al3 dX9_thereInPool_13 (by first | nofun | exact xrv_ne _) ?_
  refine ex_ifnull dX9_thereInPool_14 ?_
  refine al4 dX9_thereInPool_17 (by first | nofun | exact xrv_ne _) ?_
  refine ex_ifnull dX9_thereInPool_19 ?_
  refine al4 dX9_thereInPool_22 (by first | nofun | exact xrv_ne _) ?_
  refine gf9_111 rfl dX9_thereInPool_24 hqw ?_
  rw [htw.2.1.2.2.1]
  refine ex_if_eq 48 dX9_thereInPool_27 (by decide) (fun h27 => ?_) (fun h27 => ?_)
  · exact absurd h27 h11
  · refine il2 dX9_thereInPool_30 ?_
    refine il1 dX9_thereInPool_31 ?_
    refine ex_icmp_le 48 dX9_thereInPool_32 (by decide) (fun h32 => ?_) (fun h32 => ?_)
    · exact absurd h32 hw2.1
    · refine il2 dX9_thereInPool_35 ?_
      refine il1 dX9_thereInPool_36 ?_
      refine al3 dX9_thereInPool_37 (by first | nofun | exact xrv_ne _) ?_
      refine gf9_296 rfl dX9_thereInPool_38 hq ?_
      refine ex_iadd dX9_thereInPool_41 ?_
      rw [d2]
      refine ex_icmp_gt 48 dX9_thereInPool_42 (by decide) (fun h42 => ?_) (fun h42 => ?_)
      · exact absurd hw2.2 h42
      · refine al4 dX9_thereInPool_45 (by first | nofun | exact xrv_ne _) ?_
        refine ex_aret dX9_thereInPool_47 rfl (by first | nofun | exact xrv_ne _) ?_
        exact ⟨rfl, rfl, rfl, rfl⟩
set_option maxRecDepth 20000 in
set_option maxHeartbeats 1000000 in
theorem c_tip_n {Γ : xGm} {l : Launch} {f : Nat} {G : xG} {D E : xD} {R : xR} (hf : 2 ≤ f) (hS : Sim D R G E) {c b : Nat} (c1 : 1 ≤ c) (c41 : c < 41) (hv : sIn (nI c) 1 (E 0 14) = true) (hb : R 1 (c - 1) = some b) (hth : th D R G b E c) {w : Int32} (hw : sIn w (nI c + 1) (nI c + E 12 c) = false ∨ E 11 (ix w) = 0) : Cn Γ l f MX9_thereInPool [.ref 0, .int (nI c), .int w] G D R 0 0 (xdet (some (xrv none)) G (cTell D 8 (nI c) w) R) := by
  refine cn_of MX9_thereInPool_ok (Nat.le_of_ble_eq_true rfl) ?_
  show Ex Γ l f MX9_thereInPool 0 [some (.ref 0), some (.int (nI c)), some (.int w), none, none] [] G D R 0 0 _
  have ec : ix (nI c) = c := ix_nI (by omega)
  have hq := hth.1.1
  have d2 := hth.2.1.2.1
  by_cases hwi : sIn w 1 (E 0 14) = true
  · obtain ⟨bw, hbw, htw, -⟩ := sim_th hS hwi
    have hqw := htw.1.1
    refine al0 dX9_thereInPool_0 (by first | nofun | exact xrv_ne _) ?_
    refine il1 dX9_thereInPool_1 ?_
    refine cd9_115 (f' := f - 1) rfl dX9_thereInPool_2 (Nat.le_of_ble_eq_true rfl) (fx0 hS.X) (by omega) (c_thing_y hS.X hS.n8 (by rw [hS.A.1]; exact hv) (by rw [ec]; exact hb)) ?_
    refine as3 dX9_thereInPool_5 (by first | nofun | exact xrv_ne _) ?_
    refine al0 dX9_thereInPool_6 (by first | nofun | exact xrv_ne _) ?_
    refine il2 dX9_thereInPool_7 ?_
    refine cd9_115 (f' := f - 1) rfl dX9_thereInPool_8 (Nat.le_of_ble_eq_true rfl) (fx0 hS.X) (by omega) (c_thing_y hS.X hS.n8 (by rw [hS.A.1]; exact hwi) hbw) ?_
    refine as4 dX9_thereInPool_11 (by first | nofun | exact xrv_ne _) ?_
    refine al3 dX9_thereInPool_13 (by first | nofun | exact xrv_ne _) ?_
    refine ex_ifnull dX9_thereInPool_14 ?_
    refine al4 dX9_thereInPool_17 (by first | nofun | exact xrv_ne _) ?_
    refine ex_ifnull dX9_thereInPool_19 ?_
    refine al4 dX9_thereInPool_22 (by first | nofun | exact xrv_ne _) ?_
    refine gf9_111 rfl dX9_thereInPool_24 hqw ?_
    rw [htw.2.1.2.2.1]
    refine ex_if_eq 48 dX9_thereInPool_27 (by decide) (fun h27 => ?_) (fun h27 => ?_)
    · refine al0 dX9_thereInPool_48 (by first | nofun | exact xrv_ne _) ?_
      refine gf9_57 rfl dX9_thereInPool_49 (fr0_6 hS.X) (fx0 hS.X) ?_
      refine ex_bipush (v := 8) dX9_thereInPool_52 (by decide) ?_
      refine il1 dX9_thereInPool_54 ?_
      refine il2 dX9_thereInPool_55 ?_
      refine cd9_175 (f' := f - 1) rfl dX9_thereInPool_56 (Nat.le_of_ble_eq_true rfl) (fx13 hS.X) (by omega) (c_tell hS.X hS.n13) ?_
      refine ex_pop dX9_thereInPool_59 ?_
      refine ex_null dX9_thereInPool_60 ?_
      refine ex_aret dX9_thereInPool_61 rfl (by first | nofun | exact xrv_ne _) ?_
      exact ⟨rfl, rfl, rfl, rfl⟩
    · refine il2 dX9_thereInPool_30 ?_
      refine il1 dX9_thereInPool_31 ?_
      refine ex_icmp_le 48 dX9_thereInPool_32 (by decide) (fun h32 => ?_) (fun h32 => ?_)
      · refine al0 dX9_thereInPool_48 (by first | nofun | exact xrv_ne _) ?_
        refine gf9_57 rfl dX9_thereInPool_49 (fr0_6 hS.X) (fx0 hS.X) ?_
        refine ex_bipush (v := 8) dX9_thereInPool_52 (by decide) ?_
        refine il1 dX9_thereInPool_54 ?_
        refine il2 dX9_thereInPool_55 ?_
        refine cd9_175 (f' := f - 1) rfl dX9_thereInPool_56 (Nat.le_of_ble_eq_true rfl) (fx13 hS.X) (by omega) (c_tell hS.X hS.n13) ?_
        refine ex_pop dX9_thereInPool_59 ?_
        refine ex_null dX9_thereInPool_60 ?_
        refine ex_aret dX9_thereInPool_61 rfl (by first | nofun | exact xrv_ne _) ?_
        exact ⟨rfl, rfl, rfl, rfl⟩
      · refine il2 dX9_thereInPool_35 ?_
        refine il1 dX9_thereInPool_36 ?_
        refine al3 dX9_thereInPool_37 (by first | nofun | exact xrv_ne _) ?_
        refine gf9_296 rfl dX9_thereInPool_38 hq ?_
        refine ex_iadd dX9_thereInPool_41 ?_
        rw [d2]
        refine ex_icmp_gt 48 dX9_thereInPool_42 (by decide) (fun h42 => ?_) (fun h42 => ?_)
        · refine al0 dX9_thereInPool_48 (by first | nofun | exact xrv_ne _) ?_
          refine gf9_57 rfl dX9_thereInPool_49 (fr0_6 hS.X) (fx0 hS.X) ?_
          refine ex_bipush (v := 8) dX9_thereInPool_52 (by decide) ?_
          refine il1 dX9_thereInPool_54 ?_
          refine il2 dX9_thereInPool_55 ?_
          refine cd9_175 (f' := f - 1) rfl dX9_thereInPool_56 (Nat.le_of_ble_eq_true rfl) (fx13 hS.X) (by omega) (c_tell hS.X hS.n13) ?_
          refine ex_pop dX9_thereInPool_59 ?_
          refine ex_null dX9_thereInPool_60 ?_
          refine ex_aret dX9_thereInPool_61 rfl (by first | nofun | exact xrv_ne _) ?_
          exact ⟨rfl, rfl, rfl, rfl⟩
        · exact hw.elim (fun q => by rw [(pool_in hS.B c41).mpr ⟨h32, h42⟩] at q; cases q) (fun q => absurd q h27)
  · have hwi := nb hwi
    refine al0 dX9_thereInPool_0 (by first | nofun | exact xrv_ne _) ?_
    refine il1 dX9_thereInPool_1 ?_
    refine cd9_115 (f' := f - 1) rfl dX9_thereInPool_2 (Nat.le_of_ble_eq_true rfl) (fx0 hS.X) (by omega) (c_thing_y hS.X hS.n8 (by rw [hS.A.1]; exact hv) (by rw [ec]; exact hb)) ?_
    refine as3 dX9_thereInPool_5 (by first | nofun | exact xrv_ne _) ?_
    refine al0 dX9_thereInPool_6 (by first | nofun | exact xrv_ne _) ?_
    refine il2 dX9_thereInPool_7 ?_
    refine cd9_115 (f' := f - 1) rfl dX9_thereInPool_8 (Nat.le_of_ble_eq_true rfl) (fx0 hS.X) (by omega) (c_thing_n hS.X hS.n8 (by rw [hS.A.1]; exact hwi)) ?_
    refine as4 dX9_thereInPool_11 (by first | nofun | exact xrv_ne _) ?_
    refine al3 dX9_thereInPool_13 (by first | nofun | exact xrv_ne _) ?_
    refine ex_ifnull dX9_thereInPool_14 ?_
    refine al4 dX9_thereInPool_17 (by first | nofun | exact xrv_ne _) ?_
    refine ex_ifnullN 48 dX9_thereInPool_19 (by decide) ?_
    refine al0 dX9_thereInPool_48 (by first | nofun | exact xrv_ne _) ?_
    refine gf9_57 rfl dX9_thereInPool_49 (fr0_6 hS.X) (fx0 hS.X) ?_
    refine ex_bipush (v := 8) dX9_thereInPool_52 (by decide) ?_
    refine il1 dX9_thereInPool_54 ?_
    refine il2 dX9_thereInPool_55 ?_
    refine cd9_175 (f' := f - 1) rfl dX9_thereInPool_56 (Nat.le_of_ble_eq_true rfl) (fx13 hS.X) (by omega) (c_tell hS.X hS.n13) ?_
    refine ex_pop dX9_thereInPool_59 ?_
    refine ex_null dX9_thereInPool_60 ?_
    refine ex_aret dX9_thereInPool_61 rfl (by first | nofun | exact xrv_ne _) ?_
    exact ⟨rfl, rfl, rfl, rfl⟩
