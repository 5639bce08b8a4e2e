set_option maxRecDepth 20000 in
set_option maxHeartbeats 1000000 in
theorem r_text_lp {Γ : xGm} {l : Launch} {f : Nat} {G : xG} {D : xD} {R : xR} (hX : xFix G R) {t d : Int32} (ht : vp_in t 20) : ∀ (n : Nat) (k : Nat) (E : xD) (h3 : E 0 3 = t) (h1 : E 0 1 = d) (hE : d = nI (k + n)) (hn : k + n ≤ 20), Ex Γ l f MX10_text 14 [some (.ref 17), some (.int (nI k))] [] G (mg D E) R 0 0 (xdet (some (.int (100 + (t + 1)))) G (mg D (xdu (xdu (xdu (sCopy E (nI k) n) 2 (ix t) d) 0 1 0) 0 3 (t + 1))) R) := by
  intro n
  induction n with
  | zero =>
    intro k E h3 h1 hE hn
    refine il1 dX10_text_14 ?_
    refine al0 dX10_text_15 (by first | nofun | exact xrv_ne _) ?_
    refine rf_106 hX rfl dX10_text_16 ?_
    refine ex_icmp_ge 48 dX10_text_19 (by decide) (fun h19 => ?_) (fun h19 => ?_)
    · refine al0 dX10_text_48 (by first | nofun | exact xrv_ne _) ?_
      refine rf_13 hX rfl dX10_text_49 ?_
      refine al0 dX10_text_52 (by first | nofun | exact xrv_ne _) ?_
      refine rf_110 hX rfl dX10_text_53 ?_
      refine al0 dX10_text_56 (by first | nofun | exact xrv_ne _) ?_
      refine rf_106 hX rfl dX10_text_57 ?_
      refine rt_2 hX dX10_text_60 (by rw [h3]; exact ht) ?_
      refine al0 dX10_text_61 (by first | nofun | exact xrv_ne _) ?_
      refine ex_iconst (v := 0) dX10_text_62 (by decide) ?_
      refine rp_106 hX rfl dX10_text_63 ?_
      refine al0 dX10_text_66 (by first | nofun | exact xrv_ne _) ?_
      refine ex_dup dX10_text_67 ?_
      refine rf_110 hX rfl dX10_text_68 ?_
      refine ex_iconst (v := 1) dX10_text_71 (by decide) ?_
      refine ex_iadd dX10_text_72 ?_
      refine rp_110 hX rfl dX10_text_73 ?_
      refine ex_bipush (v := 100) dX10_text_76 (by decide) ?_
      refine al0 dX10_text_78 (by first | nofun | exact xrv_ne _) ?_
      refine rf_110 hX rfl dX10_text_79 ?_
      refine ex_iadd dX10_text_82 ?_
      refine ex_iret dX10_text_83 rfl ?_
      refine ⟨?_, rfl, ?_, rfl⟩ <;> simp [sCopy, xdu_self, upd_self, xdu_ne, upd_ne, *]
    · exact absurd (by rw [h1, hE]; exact nI_le (by omega) (by omega)) h19
  | succ n ih =>
    intro k E h3 h1 hE hn
    refine il1 dX10_text_14 ?_
    refine al0 dX10_text_15 (by first | nofun | exact xrv_ne _) ?_
    refine rf_106 hX rfl dX10_text_16 ?_
    refine ex_icmp_ge 48 dX10_text_19 (by decide) (fun h19 => ?_) (fun h19 => ?_)
    · exact absurd h19 (by rw [h1, hE]; exact nI_ge (by omega) (by omega))
    · refine al0 dX10_text_22 (by first | nofun | exact xrv_ne _) ?_
      refine rf_16 hX rfl dX10_text_23 ?_
      refine ex_bipush (v := 20) dX10_text_26 (by decide) ?_
      refine al0 dX10_text_28 (by first | nofun | exact xrv_ne _) ?_
      refine rf_110 hX rfl dX10_text_29 ?_
      refine ex_imul dX10_text_32 ?_
      refine il1 dX10_text_33 ?_
      refine ex_iadd dX10_text_34 ?_
      refine al0 dX10_text_35 (by first | nofun | exact xrv_ne _) ?_
      refine rf_7 hX rfl dX10_text_36 ?_
      refine il1 dX10_text_39 ?_
      refine rb_1 hX dX10_text_40 (vi_k hn (by decide)) ?_
      refine rt_3 hX dX10_text_41 (by rw [h3]; exact (vi_ln (N := 400) 20 ht (vi_k hn (by decide)) (by decide) (by decide) (by decide) (by decide)).1) ?_
      refine ic1 (nI (k + 1)) dX10_text_42 (nI_1 k) ?_
      refine ex_goto 14 dX10_text_45 (by decide) ?_
      rw [show sCopy E (nI k) (n + 1) = sCopy (xdu E 3 (ix (20 * E 0 3 + nI k)) (E 1 (ix (nI k)))) (nI (k + 1)) n by rw [sCopy, nI_1]]
      exact ih (k + 1) (xdu E 3 (ix (20 * E 0 3 + nI k)) (E 1 (ix (nI k)))) (by rw [xdu_ne _ _ _ (by decide)]; exact h3) (by rw [xdu_ne _ _ _ (by decide)]; exact h1) (by rw [hE]; congr 1; omega) (by omega)
set_option maxRecDepth 20000 in
set_option maxHeartbeats 1000000 in
theorem r_text {Γ : xGm} {l : Launch} {f : Nat} {G : xG} {D E : xD} {R : xR} (hX : xFix G R) (hB : RB E) : Cn Γ l f MX10_text [.ref 17] G (mg D E) R 0 0 (xdet (some (.int (sText E).1)) G (mg D (sText E).2) R) := by
  refine cn_of MX10_text_ok (Nat.le_of_ble_eq_true rfl) ?_
  show Ex Γ l f MX10_text 0 [some (.ref 17), none] [] G (mg D E) R 0 0 _
  refine al0 dX10_text_0 (by first | nofun | exact xrv_ne _) ?_
  refine rf_110 hX rfl dX10_text_1 ?_
  refine ex_bipush (v := 20) dX10_text_4 (by decide) ?_
  refine ex_icmp_ne 12 dX10_text_6 (by decide) (fun h6 => ?_) (fun h6 => ?_)
  · refine ex_iconst (v := 0) dX10_text_12 (by decide) ?_
    refine is1 dX10_text_13 ?_
    have e1 := vi_n hB.n1 (by decide)
    unfold sText
    rw [if_neg h6]
    exact r_text_lp hX (vi_ne hB.n3 (by decide) h6) (ix (E 0 1)) 0 E rfl rfl (by rw [Nat.zero_add]; exact e1.1) (by omega)
  · refine ex_bipush (v := (-4)) dX10_text_9 (by decide) ?_
    refine ex_iret dX10_text_11 rfl ?_
    refine ⟨?_, rfl, ?_, rfl⟩ <;> simp [sText, *]
theorem vi_k2 {k n N : Nat} (h : k + n < N) (hN : N < 2 ^ 31) : vp_in (nI k) N := vi_of (by omega) hN
set_option maxRecDepth 20000 in
set_option maxHeartbeats 1000000 in
theorem r_addTo_lp {Γ : xGm} {l : Launch} {f : Nat} {G : xG} {D : xD} {R : xR} (hX : xFix G R) {E : xD} {t g : Int32} (ht : vp_in t 41) (hv : vp_in (E 13 (ix t)) 41) : ∀ (n : Nat) (k : Nat) (hE : E 13 (ix t) = nI (k + n)) (hn : k + n ≤ 40), Ex Γ l f MX10_addToLine 2 [some (.ref 17), some (.int t), some (.int g), some (.int (nI k))] [] G (mg D E) R 0 0 (xdet none G (mg D (if sHas E t g (nI k) n = true then E else xdu (xdu E 14 (ix (41 * t + E 13 (ix t))) g) 13 (ix t) (E 13 (ix t) + 1))) R) := by
  intro n
  induction n with
  | zero =>
    intro k hE hn
    refine il3 dX10_addToLine_2 ?_
    refine al0 dX10_addToLine_3 (by first | nofun | exact xrv_ne _) ?_
    refine rf_47 hX rfl dX10_addToLine_4 ?_
    refine il1 dX10_addToLine_7 ?_
    refine rb_13 hX dX10_addToLine_8 ht ?_
    refine ex_icmp_ge 34 dX10_addToLine_9 (by decide) (fun h9 => ?_) (fun h9 => ?_)
    · refine al0 dX10_addToLine_34 (by first | nofun | exact xrv_ne _) ?_
      refine rf_50 hX rfl dX10_addToLine_35 ?_
      refine ex_bipush (v := 41) dX10_addToLine_38 (by decide) ?_
      refine il1 dX10_addToLine_40 ?_
      refine ex_imul dX10_addToLine_41 ?_
      refine al0 dX10_addToLine_42 (by first | nofun | exact xrv_ne _) ?_
      refine rf_47 hX rfl dX10_addToLine_43 ?_
      refine il1 dX10_addToLine_46 ?_
      refine rb_13 hX dX10_addToLine_47 ht ?_
      refine ex_iadd dX10_addToLine_48 ?_
      refine il2 dX10_addToLine_49 ?_
      refine rt_14 hX dX10_addToLine_50 ((vi_ln (N := 1681) 41 ht hv (by decide) (by decide) (by decide) (by decide)).1) ?_
      refine al0 dX10_addToLine_51 (by first | nofun | exact xrv_ne _) ?_
      refine rf_47 hX rfl dX10_addToLine_52 ?_
      refine il1 dX10_addToLine_55 ?_
      refine ex_dup2 dX10_addToLine_56 ?_
      refine rb_13 hX dX10_addToLine_57 ht ?_
      refine ex_iconst (v := 1) dX10_addToLine_58 (by decide) ?_
      refine ex_iadd dX10_addToLine_59 ?_
      refine rt_13 hX dX10_addToLine_60 ht ?_
      refine ex_vret dX10_addToLine_61 rfl ?_
      refine ⟨rfl, rfl, ?_, rfl⟩
      simp [sHas, xdu_self, upd_self, xdu_ne, upd_ne, *]
    · exact absurd (by rw [hE]; exact nI_le (by omega) (by omega)) h9
  | succ n ih =>
    intro k hE hn
    refine il3 dX10_addToLine_2 ?_
    refine al0 dX10_addToLine_3 (by first | nofun | exact xrv_ne _) ?_
    refine rf_47 hX rfl dX10_addToLine_4 ?_
    refine il1 dX10_addToLine_7 ?_
    refine rb_13 hX dX10_addToLine_8 ht ?_
    refine ex_icmp_ge 34 dX10_addToLine_9 (by decide) (fun h9 => ?_) (fun h9 => ?_)
    · exact absurd h9 (by rw [hE]; exact nI_ge (by omega) (by omega))
    · refine al0 dX10_addToLine_12 (by first | nofun | exact xrv_ne _) ?_
      refine rf_50 hX rfl dX10_addToLine_13 ?_
      refine ex_bipush (v := 41) dX10_addToLine_16 (by decide) ?_
      refine il1 dX10_addToLine_18 ?_
      refine ex_imul dX10_addToLine_19 ?_
      refine il3 dX10_addToLine_20 ?_
      refine ex_iadd dX10_addToLine_21 ?_
      refine rb_14 hX dX10_addToLine_22 (vi_ln (N := 1681) 41 ht (vi_k2 (n := n + 1) (N := 41) (by omega) (by decide)) (by decide) (by decide) (by decide) (by decide)).1 ?_
      refine il2 dX10_addToLine_23 ?_
      refine ex_icmp_ne 28 dX10_addToLine_24 (by decide) (fun h24 => ?_) (fun h24 => ?_)
      · refine ic3 (nI (k + 1)) dX10_addToLine_28 (nI_1 k) ?_
        refine ex_goto 2 dX10_addToLine_31 (by decide) ?_
        rw [show sHas E t g (nI k) (n + 1) = sHas E t g (nI (k + 1)) n by rw [sHas, if_neg h24, nI_1]]
        exact ih (k + 1) (by rw [hE]; congr 1; omega) (by omega)
      · refine ex_vret dX10_addToLine_27 rfl ?_
        refine ⟨rfl, rfl, ?_, rfl⟩
        simp [sHas, xdu_self, upd_self, xdu_ne, upd_ne, *]
set_option maxRecDepth 20000 in
set_option maxHeartbeats 1000000 in
theorem r_addToLine {Γ : xGm} {l : Launch} {f : Nat} {G : xG} {D E : xD} {R : xR} (hX : xFix G R) {t g : Int32} (ht : vp_in t 41) (hv : vp_in (E 13 (ix t)) 41) : Cn Γ l f MX10_addToLine [.ref 17, .int t, .int g] G (mg D E) R 0 0 (xdet none G (mg D (sAddTo E t g)) R) := by
  refine cn_of MX10_addToLine_ok (Nat.le_of_ble_eq_true rfl) ?_
  show Ex Γ l f MX10_addToLine 0 [some (.ref 17), some (.int t), some (.int g), none] [] G (mg D E) R 0 0 _
  refine ex_iconst (v := 0) dX10_addToLine_0 (by decide) ?_
  refine is3 dX10_addToLine_1 ?_
  have e1 := vi_n hv (by decide)
  unfold sAddTo
  exact r_addTo_lp hX ht hv (ix (E 13 (ix t))) 0 (by rw [Nat.zero_add]; exact e1.1) (by omega)
set_option maxRecDepth 20000 in
set_option maxHeartbeats 1000000 in
theorem r_join_lp {Γ : xGm} {l : Launch} {f : Nat} {G : xG} {D : xD} {R : xR} (hX : xFix G R) (hf : 1 ≤ f) {t g : Nat} (ht : t < 41) (hg : g < 41) (hne : t ≠ g) (hg0 : ¬ nI g = 0) : ∀ (n : Nat) (k : Nat) (E : xD) (hL : Lnp E t) (hG : Lnp E g) (hE : E 13 g = nI (k + n)) (hn : k + n ≤ 40), Ex Γ l f MX10_joinLine 2 [some (.ref 17), some (.int (nI t)), some (.int (nI g)), some (.int (nI k))] [] G (mg D E) R 0 0 (xdet none G (mg D (sJoinL E (nI t) (nI g) (nI k) n)) R) := by
  intro n
  induction n with
  | zero =>
    intro k E hL hG hE hn
    refine il2 dX10_joinLine_2 ?_
    refine ex_if_eq 38 dX10_joinLine_3 (by decide) (fun h3 => ?_) (fun h3 => ?_)
    · exact absurd h3 hg0
    · refine il3 dX10_joinLine_6 ?_
      refine al0 dX10_joinLine_7 (by first | nofun | exact xrv_ne _) ?_
      refine rf_47 hX rfl dX10_joinLine_8 ?_
      refine il2 dX10_joinLine_11 ?_
      refine rb_13 hX dX10_joinLine_12 (vi_of hg (by decide)) ?_
      refine ex_icmp_ge 38 dX10_joinLine_13 (by decide) (fun h13 => ?_) (fun h13 => ?_)
      · refine ex_vret dX10_joinLine_38 rfl ?_
        exact ⟨rfl, rfl, rfl, rfl⟩
      · exact absurd (by rw [ix_nI (by omega), hE]; exact nI_le (by omega) (by omega)) h13
  | succ n ih =>
    intro k E hL hG hE hn
    refine il2 dX10_joinLine_2 ?_
    refine ex_if_eq 38 dX10_joinLine_3 (by decide) (fun h3 => ?_) (fun h3 => ?_)
    · exact absurd h3 hg0
    · refine il3 dX10_joinLine_6 ?_
      refine al0 dX10_joinLine_7 (by first | nofun | exact xrv_ne _) ?_
      refine rf_47 hX rfl dX10_joinLine_8 ?_
      refine il2 dX10_joinLine_11 ?_
      refine rb_13 hX dX10_joinLine_12 (vi_of hg (by decide)) ?_
      refine ex_icmp_ge 38 dX10_joinLine_13 (by decide) (fun h13 => ?_) (fun h13 => ?_)
      · exact absurd h13 (by rw [ix_nI (by omega), hE]; exact nI_ge (by omega) (by omega))
      · refine al0 dX10_joinLine_16 (by first | nofun | exact xrv_ne _) ?_
        refine il1 dX10_joinLine_17 ?_
        refine al0 dX10_joinLine_18 (by first | nofun | exact xrv_ne _) ?_
        refine rf_50 hX rfl dX10_joinLine_19 ?_
        refine ex_bipush (v := 41) dX10_joinLine_22 (by decide) ?_
        refine il2 dX10_joinLine_24 ?_
        refine ex_imul dX10_joinLine_25 ?_
        refine il3 dX10_joinLine_26 ?_
        refine ex_iadd dX10_joinLine_27 ?_
        refine rb_14 hX dX10_joinLine_28 (vi_ln (N := 1681) 41 (vi_of hg (by decide)) (vi_k2 (n := n) (N := 41) (by omega) (by decide)) (by decide) (by decide) (by decide) (by decide)).1 ?_
        refine cd10_122 (f' := f - 1) rfl dX10_joinLine_29 (Nat.le_of_ble_eq_true rfl) (fx17 hX) (by omega) (r_addToLine hX (vi_of ht (by decide)) (by rw [ix_nI (by omega)]; exact hL.1)) ?_
        refine ic3 (nI (k + 1)) dX10_joinLine_32 (nI_1 k) ?_
        refine ex_goto 2 dX10_joinLine_35 (by decide) ?_
        obtain ⟨j, j1, j2, j3⟩ := hG.2.1 k (by rw [hE, ix_nI (by omega)]; omega)
        have e9 : E 14 (ix (41 * nI g + nI k)) = nI j := by rw [ix41 hg (by omega)]; exact j3
        rw [show sJoinL E (nI t) (nI g) (nI k) (n + 1) = sJoinL (sAddTo E (nI t) (E 14 (ix (41 * nI g + nI k)))) (nI t) (nI g) (nI (k + 1)) n by rw [sJoinL, nI_1], e9]
        obtain ⟨s1, s2⟩ := sAddTo_S ht hL j1 j2
        have e13 : sAddTo E (nI t) (nI j) 13 g = E 13 g := s1.2.1 g (Ne.symm hne)
        have hle := hG.le
        have hG2 : Lnp (sAddTo E (nI t) (nI j)) g := ⟨by rw [e13]; exact hG.1, fun i hi => by rw [e13] at hi; rw [s1.2.2 _ (by omega)]; exact hG.2.1 i hi, fun a b ha hb he => by rw [e13] at ha hb; rw [s1.2.2 _ (by omega), s1.2.2 _ (by omega)] at he; exact hG.2.2 a b ha hb he⟩
        exact ih (k + 1) (sAddTo E (nI t) (nI j)) s2 hG2 (by rw [e13, hE]; congr 1; omega) (by omega)
set_option maxRecDepth 20000 in
set_option maxHeartbeats 1000000 in
theorem r_joinLine {Γ : xGm} {l : Launch} {f : Nat} {G : xG} {D E : xD} {R : xR} (hX : xFix G R) (hf : 1 ≤ f) {t g : Nat} (ht : t < 41) (hg : g < 41) (hne : t ≠ g) (hL : Lnp E t) (hG : ¬ nI g = 0 → Lnp E g) : Cn Γ l f MX10_joinLine [.ref 17, .int (nI t), .int (nI g)] G (mg D E) R 0 0 (xdet none G (mg D (sJoin E (nI t) (nI g))) R) := by
  refine cn_of MX10_joinLine_ok (Nat.le_of_ble_eq_true rfl) ?_
  show Ex Γ l f MX10_joinLine 0 [some (.ref 17), some (.int (nI t)), some (.int (nI g)), none] [] G (mg D E) R 0 0 _
  refine ex_iconst (v := 0) dX10_joinLine_0 (by decide) ?_
  refine is3 dX10_joinLine_1 ?_
  by_cases hg0 : nI g = 0
  · unfold sJoin
    rw [if_pos hg0]
    refine il2 dX10_joinLine_2 ?_
    refine ex_if_eq 38 dX10_joinLine_3 (by decide) (fun h3 => ?_) (fun h3 => absurd hg0 h3)
    exact ex_vret dX10_joinLine_38 rfl ⟨rfl, rfl, rfl, rfl⟩
  · unfold sJoin
    rw [if_neg hg0, ix_nI (by omega)]
    have hle := (hG hg0).le
    exact r_join_lp hX hf ht hg hne hg0 (ix (E 13 g)) 0 E hL (hG hg0) (by rw [Nat.zero_add]; exact (vi_n (hG hg0).1 (by decide)).1) (by omega)
