/-! ===== reading, writing, the tree, arrays ===== -/
theorem Sim_tS {D : xD} {R : xR} {G : xG} {E E' : xD} (h : Sim D R G E) (hI : Iv E') (hj : ∀ j, j ≠ 19 → j ≠ 20 → j ≠ 21 → E' j = E j) : Sim (tS D E') R G E' ∧ Sam D (tS D E') := by
  have hq : ∀ q, dk (G.2 q) = true → tS D E' q = D q := fun q hq => tS_ne _ _ ⟨fixed_ne h.X (by decide) hq rfl, fixed_ne h.X (by decide) hq rfl, fixed_ne h.X (by decide) hq rfl⟩
  have e0 := hj 0 (by decide) (by decide) (by decide)
  refine ⟨Sim_fixed h hq hI ?_ ?_ ?_ ?_ ⟨rfl, rfl, rfl⟩ (fun j _ b => hj j (by omega) (by omega) (by omega)) (by rw [e0]; exact ⟨rfl, rfl, rfl, rfl, rfl⟩), fun q a b => tS_ne _ _ (by omega)⟩
  · exact h.F.same (fun k _ _ _ _ => by rw [e0]) (by rw [e0]; exact h.F.2.2.2.2.1) (hj _ (by decide) (by decide) (by decide)) (hj _ (by decide) (by decide) (by decide)) (hj _ (by decide) (by decide) (by decide)) (hj _ (by decide) (by decide) (by decide)) (hj _ (by decide) (by decide) (by decide)) (hj _ (by decide) (by decide) (by decide)) (hj _ (by decide) (by decide) (by decide)) (hj _ (by decide) (by decide) (by decide))
  · unfold cA
    rw [e0, tS_ne _ _ (by decide)]
    exact h.A
  · unfold cFl
    rw [e0, hj 22 (by decide) (by decide) (by decide), tS_ne _ _ (by decide), tS_ne _ _ (by decide), tS_ne _ _ (by decide), tS_ne _ _ (by decide)]
    exact h.fl
  · unfold cOu
    rw [e0, hj 23 (by decide) (by decide) (by decide), tS_ne _ _ (by decide), tS_ne _ _ (by decide)]
    exact h.ou
theorem Sim_oS {D : xD} {R : xR} {G : xG} {E E' : xD} (h : Sim D R G E) (hI : Iv E') (hj : ∀ j, j ≠ 0 → j ≠ 23 → E' j = E j) (h0 : ∀ k, k ≠ 29 → E' 0 k = E 0 k) : Sim (oS D E') R G E' ∧ Sam D (oS D E') := by
  have hq : ∀ q, dk (G.2 q) = true → oS D E' q = D q := fun q hq => oS_ne _ _ (fixed_ne h.X (by decide) hq rfl) (fixed_ne h.X (by decide) hq rfl)
  refine ⟨Sim_fixed h hq hI ?_ ?_ ?_ ⟨rfl, rfl⟩ ?_ (fun j _ b => hj j (by omega) (by omega)) ⟨h0 _ (by decide), h0 _ (by decide), h0 _ (by decide), h0 _ (by decide), h0 _ (by decide)⟩, fun q a b => oS_ne _ _ (by omega) (by omega)⟩
  · exact h.F.same (fun k _ a _ _ => h0 k a) (by rw [h0 42 (by decide)]; exact h.F.2.2.2.2.1) (hj _ (by decide) (by decide)) (hj _ (by decide) (by decide)) (hj _ (by decide) (by decide)) (hj _ (by decide) (by decide)) (hj _ (by decide) (by decide)) (hj _ (by decide) (by decide)) (hj _ (by decide) (by decide)) (hj _ (by decide) (by decide))
  · unfold cA
    rw [oS_ne _ _ (by decide) (by decide), h0 _ (by decide), h0 _ (by decide), h0 _ (by decide), h0 _ (by decide), h0 _ (by decide), h0 _ (by decide)]
    exact h.A
  · unfold cFl
    rw [oS_ne _ _ (show (13 : Nat) ≠ 9 by decide) (by decide), oS_ne _ _ (show (14 : Nat) ≠ 9 by decide) (by decide), oS_ne _ _ (show (15 : Nat) ≠ 9 by decide) (by decide), oS_ne _ _ (show (16 : Nat) ≠ 9 by decide) (by decide), h0 _ (by decide), h0 _ (by decide), hj _ (by decide) (by decide)]
    exact h.fl
  · unfold cTr
    rw [oS_ne _ _ (show (6 : Nat) ≠ 9 by decide) (by decide), oS_ne _ _ (show (7 : Nat) ≠ 9 by decide) (by decide), oS_ne _ _ (show (8 : Nat) ≠ 9 by decide) (by decide), hj _ (by decide) (by decide), hj _ (by decide) (by decide), hj _ (by decide) (by decide)]
    exact h.tr
set_option maxRecDepth 20000 in
set_option maxHeartbeats 1000000 in
theorem c_twv_y {Γ : xGm} {l : Launch} {f : Nat} {G : xG} {D E : xD} {R : xR} (hf : 2 ≤ f) (hS : Sim D R G E) {t n i : Int32} {b : Nat} (hM : sMeta E t = 1 ∨ sMeta E t = 2) (hb : R 1 (ix t - 1) = some b) (hth : th D R G b E (ix t)) (h0 : 0 ≤ i) (hi : ¬ sRowAt E t n ≤ i) : Cn Γ l f MX9_thingWithValue [.ref 0, .int t, .int n, .int i] G D R 0 0 (xdet (some (xrv (some b))) G D R) := by
  refine cn_of MX9_thingWithValue_ok (Nat.le_of_ble_eq_true rfl) ?_
  show Ex Γ l f MX9_thingWithValue 0 [some (.ref 0), some (.int t), some (.int n), some (.int i), none, none] [] G D R 0 0 _
  obtain ⟨⟨hq, h3⟩, ⟨d0, d2, d4, d6⟩, htx, ⟨lq, hlq, hln⟩, hrw⟩ := id hth
  obtain ⟨-, -, -, ev, v1, v41, -⟩ := sim_ans hS hM
  refine al0 dX9_thingWithValue_0 (by first | nofun | exact xrv_ne _) ?_
  refine il1 dX9_thingWithValue_1 ?_
  refine cd9_217 (f' := f - 1) rfl dX9_thingWithValue_2 (Nat.le_of_ble_eq_true rfl) (fx0 hS.X) (by omega) (c_ans_y (by omega) hS hM hb hth) ?_
  refine as4 dX9_thingWithValue_5 (by first | nofun | exact xrv_ne _) ?_
  refine al4 dX9_thingWithValue_7 (by first | nofun | exact xrv_ne _) ?_
  refine ex_ifnonnull 25 dX9_thingWithValue_9 (by decide) ?_
  refine al4 dX9_thingWithValue_25 (by first | nofun | exact xrv_ne _) ?_
  refine gf9_124 rfl dX9_thingWithValue_27 (h3) hq ?_
  refine il2 dX9_thingWithValue_30 ?_
  refine cd9_128 (f' := f - 1) rfl dX9_thingWithValue_31 (Nat.le_of_ble_eq_true rfl) hrw.1 (by omega) (c_len (by omega) (rw_rk hrw)) ?_
  rw [rw_len hrw v41, ← ev]
  refine is5 dX9_thingWithValue_34 ?_
  refine il3 dX9_thingWithValue_36 ?_
  refine ex_if_lt 49 dX9_thingWithValue_37 (by decide) (fun h37 => ?_) (fun h37 => ?_)
  · exact absurd h0 h37
  · refine il3 dX9_thingWithValue_40 ?_
    refine il5 dX9_thingWithValue_41 ?_
    refine ex_icmp_ge 49 dX9_thingWithValue_43 (by decide) (fun h43 => ?_) (fun h43 => ?_)
    · exact absurd h43 hi
    · refine al4 dX9_thingWithValue_46 (by first | nofun | exact xrv_ne _) ?_
      refine ex_aret dX9_thingWithValue_48 rfl (by first | nofun | exact xrv_ne _) ?_
      exact ⟨rfl, rfl, rfl, rfl⟩
set_option maxRecDepth 20000 in
set_option maxHeartbeats 1000000 in
theorem c_twv_n {Γ : xGm} {l : Launch} {f : Nat} {G : xG} {D E : xD} {R : xR} (hf : 2 ≤ f) (hS : Sim D R G E) {t n i : Int32} (hw : ¬ sWrong E t n i ≤ 0) : Cn Γ l f MX9_thingWithValue [.ref 0, .int t, .int n, .int i] G D R 0 0 (xdet (some (xrv none)) G (cTell D (sWrong E t n i) t n) R) := by
  refine cn_of MX9_thingWithValue_ok (Nat.le_of_ble_eq_true rfl) ?_
  show Ex Γ l f MX9_thingWithValue 0 [some (.ref 0), some (.int t), some (.int n), some (.int i), none, none] [] G D R 0 0 _
  by_cases hM : sMeta E t = 1 ∨ sMeta E t = 2
  · obtain ⟨b, hb, hth, ev, v1, v41, vle⟩ := sim_ans hS hM
    obtain ⟨⟨hq, h3⟩, ⟨d0, d2, d4, d6⟩, htx, ⟨lq, hlq, hln⟩, hrw⟩ := id hth
    have hM2 : ¬ (¬ sMeta E t = 1 ∧ ¬ sMeta E t = 2) := fun q => hM.elim q.1 q.2
    have hl5 : vp_in (sRowAt E t n) 5 := by
      unfold sRowAt
      split
      next q =>
        rw [ev, ix_12 v41 (vi_n11 q)]
        exact hS.B.a15 (by have := (vi_n (vi_n11 q) (by decide)).2; omega)
      next => exact vi_of (n := 0) (by decide) (by decide)
    have hno : 0 ≤ i → ¬ sRowAt E t n ≤ i → False := fun a c => hw (by
      unfold sWrong
      rw [if_neg hM2]
      by_cases z : sRowAt E t n = 0
      · rw [z] at c
        exact absurd a c
      · rw [if_neg z, (sIn_lt hl5 (by decide)).mpr ⟨a, c⟩]
        decide)
    have w3 : sRowAt E t n = 0 → sWrong E t n i = 3 := fun z => by
      unfold sWrong
      rw [if_neg hM2, if_pos z]
    have w5 : ¬ sRowAt E t n = 0 → sWrong E t n i = 5 := fun z => by
      have hf : sIn i 0 (sRowAt E t n - 1) = false := by
        cases q : sIn i 0 (sRowAt E t n - 1)
        · rfl
        · exact (hno ((sIn_lt hl5 (by decide)).mp q).1 ((sIn_lt hl5 (by decide)).mp q).2).elim
      unfold sWrong
      rw [if_neg hM2, if_neg z, if_pos hf]
    refine al0 dX9_thingWithValue_0 (by first | nofun | exact xrv_ne _) ?_
    refine il1 dX9_thingWithValue_1 ?_
    refine cd9_217 (f' := f - 1) rfl dX9_thingWithValue_2 (Nat.le_of_ble_eq_true rfl) (fx0 hS.X) (by omega) (c_ans_y (by omega) hS hM hb hth) ?_
    refine as4 dX9_thingWithValue_5 (by first | nofun | exact xrv_ne _) ?_
    refine al4 dX9_thingWithValue_7 (by first | nofun | exact xrv_ne _) ?_
    refine ex_ifnonnull 25 dX9_thingWithValue_9 (by decide) ?_
    refine al4 dX9_thingWithValue_25 (by first | nofun | exact xrv_ne _) ?_
    refine gf9_124 rfl dX9_thingWithValue_27 (h3) hq ?_
    refine il2 dX9_thingWithValue_30 ?_
    refine cd9_128 (f' := f - 1) rfl dX9_thingWithValue_31 (Nat.le_of_ble_eq_true rfl) hrw.1 (by omega) (c_len (by omega) (rw_rk hrw)) ?_
    rw [rw_len hrw v41, ← ev]
    refine is5 dX9_thingWithValue_34 ?_
    refine il3 dX9_thingWithValue_36 ?_
    refine ex_if_lt 49 dX9_thingWithValue_37 (by decide) (fun h37 => ?_) (fun h37 => ?_)
    · refine al0 dX9_thingWithValue_49 (by first | nofun | exact xrv_ne _) ?_
      refine gf9_57 rfl dX9_thingWithValue_50 (fr0_6 hS.X) (fx0 hS.X) ?_
      refine il5 dX9_thingWithValue_53 ?_
      refine ex_if_ne 62 dX9_thingWithValue_55 (by decide) (fun h55 => ?_) (fun h55 => ?_)
      · refine ex_iconst (v := 5) dX9_thingWithValue_62 (by decide) ?_
        refine il1 dX9_thingWithValue_63 ?_
        refine il2 dX9_thingWithValue_64 ?_
        refine cd9_175 (f' := f - 1) rfl dX9_thingWithValue_65 (Nat.le_of_ble_eq_true rfl) (fx13 hS.X) (by omega) (c_tell hS.X hS.n13) ?_
        refine ex_pop dX9_thingWithValue_68 ?_
        refine ex_null dX9_thingWithValue_69 ?_
        refine ex_aret dX9_thingWithValue_70 rfl (by first | nofun | exact xrv_ne _) ?_
        refine ⟨rfl, rfl, ?_, rfl⟩
        first | rw [w3 h55] | rw [w5 h55]
      · refine ex_iconst (v := 3) dX9_thingWithValue_58 (by decide) ?_
        refine ex_goto 63 dX9_thingWithValue_59 (by decide) ?_
        refine il1 dX9_thingWithValue_63 ?_
        refine il2 dX9_thingWithValue_64 ?_
        refine cd9_175 (f' := f - 1) rfl dX9_thingWithValue_65 (Nat.le_of_ble_eq_true rfl) (fx13 hS.X) (by omega) (c_tell hS.X hS.n13) ?_
        refine ex_pop dX9_thingWithValue_68 ?_
        refine ex_null dX9_thingWithValue_69 ?_
        refine ex_aret dX9_thingWithValue_70 rfl (by first | nofun | exact xrv_ne _) ?_
        refine ⟨rfl, rfl, ?_, rfl⟩
        first | rw [w3 h55] | rw [w5 h55]
    · refine il3 dX9_thingWithValue_40 ?_
      refine il5 dX9_thingWithValue_41 ?_
      refine ex_icmp_ge 49 dX9_thingWithValue_43 (by decide) (fun h43 => ?_) (fun h43 => ?_)
      · refine al0 dX9_thingWithValue_49 (by first | nofun | exact xrv_ne _) ?_
        refine gf9_57 rfl dX9_thingWithValue_50 (fr0_6 hS.X) (fx0 hS.X) ?_
        refine il5 dX9_thingWithValue_53 ?_
        refine ex_if_ne 62 dX9_thingWithValue_55 (by decide) (fun h55 => ?_) (fun h55 => ?_)
        · refine ex_iconst (v := 5) dX9_thingWithValue_62 (by decide) ?_
          refine il1 dX9_thingWithValue_63 ?_
          refine il2 dX9_thingWithValue_64 ?_
          refine cd9_175 (f' := f - 1) rfl dX9_thingWithValue_65 (Nat.le_of_ble_eq_true rfl) (fx13 hS.X) (by omega) (c_tell hS.X hS.n13) ?_
          refine ex_pop dX9_thingWithValue_68 ?_
          refine ex_null dX9_thingWithValue_69 ?_
          refine ex_aret dX9_thingWithValue_70 rfl (by first | nofun | exact xrv_ne _) ?_
          refine ⟨rfl, rfl, ?_, rfl⟩
          first | rw [w3 h55] | rw [w5 h55]
        · refine ex_iconst (v := 3) dX9_thingWithValue_58 (by decide) ?_
          refine ex_goto 63 dX9_thingWithValue_59 (by decide) ?_
          refine il1 dX9_thingWithValue_63 ?_
          refine il2 dX9_thingWithValue_64 ?_
          refine cd9_175 (f' := f - 1) rfl dX9_thingWithValue_65 (Nat.le_of_ble_eq_true rfl) (fx13 hS.X) (by omega) (c_tell hS.X hS.n13) ?_
          refine ex_pop dX9_thingWithValue_68 ?_
          refine ex_null dX9_thingWithValue_69 ?_
          refine ex_aret dX9_thingWithValue_70 rfl (by first | nofun | exact xrv_ne _) ?_
          refine ⟨rfl, rfl, ?_, rfl⟩
          first | rw [w3 h55] | rw [w5 h55]
      · exact (hno h37 h43).elim
  · have hM2 : ¬ sMeta E t = 1 ∧ ¬ sMeta E t = 2 := ⟨fun q => hM (Or.inl q), fun q => hM (Or.inr q)⟩
    have w1 : sWrong E t n i = 1 := by
      unfold sWrong
      rw [if_pos hM2]
    rw [w1]
    refine al0 dX9_thingWithValue_0 (by first | nofun | exact xrv_ne _) ?_
    refine il1 dX9_thingWithValue_1 ?_
    refine cd9_217 (f' := f - 1) rfl dX9_thingWithValue_2 (Nat.le_of_ble_eq_true rfl) (fx0 hS.X) (by omega) (c_ans_n (by omega) hS hM2) ?_
    refine as4 dX9_thingWithValue_5 (by first | nofun | exact xrv_ne _) ?_
    refine al4 dX9_thingWithValue_7 (by first | nofun | exact xrv_ne _) ?_
    refine ex_ifnonnullN dX9_thingWithValue_9 ?_
    refine al0 dX9_thingWithValue_12 (by first | nofun | exact xrv_ne _) ?_
    refine gf9_57 rfl dX9_thingWithValue_13 (fr0_6 hS.X) (fx0 hS.X) ?_
    refine ex_iconst (v := 1) dX9_thingWithValue_16 (by decide) ?_
    refine il1 dX9_thingWithValue_17 ?_
    refine il2 dX9_thingWithValue_18 ?_
    refine cd9_175 (f' := f - 1) rfl dX9_thingWithValue_19 (Nat.le_of_ble_eq_true rfl) (fx13 hS.X) (by omega) (c_tell hS.X hS.n13) ?_
    refine ex_pop dX9_thingWithValue_22 ?_
    refine ex_null dX9_thingWithValue_23 ?_
    refine ex_aret dX9_thingWithValue_24 rfl (by first | nofun | exact xrv_ne _) ?_
    exact ⟨rfl, rfl, rfl, rfl⟩
theorem sWrong_y {E : xD} {t n i : Int32} (hB : RB E) (h : sWrong E t n i ≤ 0) : (sMeta E t = 1 ∨ sMeta E t = 2) ∧ 0 ≤ i ∧ ¬ sRowAt E t n ≤ i ∧ t = nI (ix t) ∧ n = nI (ix n) ∧ i = nI (ix i) ∧ ix t < 41 ∧ ix n < 12 ∧ ix i < 4 ∧ ix i < ix (E 15 (12 * ix t + ix n)) ∧ ix (4 * (12 * t + n) + i) = 4 * (12 * ix t + ix n) + ix i := by
  obtain ⟨h1, h2, h3, h4, h5, h6⟩ := sWrong_0 hB h
  have hM : sMeta E t = 1 ∨ sMeta E t = 2 := by
    by_cases q : ¬ sMeta E t = 1 ∧ ¬ sMeta E t = 2
    · unfold sWrong at h
      rw [if_pos q] at h
      exact absurd h (by decide)
    · by_cases z : sMeta E t = 1
      · exact Or.inl z
      · exact Or.inr (Classical.byContradiction fun y => q ⟨z, y⟩)
  obtain ⟨e1, l1⟩ := vi_n h1 (by decide)
  obtain ⟨e2, l2⟩ := vi_n h2 (by decide)
  obtain ⟨e3, l3⟩ := vi_n h3 (by decide)
  have e5 : ix (12 * t + n) = 12 * ix t + ix n := by
    conv => lhs; rw [e1]
    exact ix_12 l1 h2
  rw [e5] at h6 h4
  have h15 := hB.a15 (t := 12 * ix t + ix n) (by omega)
  have hlt := (sIn_lt h15 (by decide)).mp h6
  refine ⟨hM, hlt.1, by rw [h4]; exact hlt.2, e1, e2, e3, l1, l2, l3, ?_, ?_⟩
  · obtain ⟨e6, l6⟩ := vi_n h15 (by decide)
    have := hlt.2
    rw [e6, e3] at this
    by_cases q : ix i < ix (E 15 (12 * ix t + ix n))
    · exact q
    · exact absurd (nI_le (by omega) (by omega)) this
  · conv => lhs; rw [e1, e2, e3]
    exact ix_16 l1 l2 l3
set_option maxRecDepth 20000 in
set_option maxHeartbeats 1000000 in
theorem c_read {Γ : xGm} {l : Launch} {f : Nat} {G : xG} {D E : xD} {R : xR} (hf : 3 ≤ f) (hS : Sim D R G E) {t n i : Int32} : Cn Γ l f MX9_read [.ref 0, .int t, .int n, .int i] G D R 0 0 (Sq G R D (some (.int (sRead E t n i).1)) (sRead E t n i).2) := by
  refine cn_of MX9_read_ok (Nat.le_of_ble_eq_true rfl) ?_
  show Ex Γ l f MX9_read 0 [some (.ref 0), some (.int t), some (.int n), some (.int i), none] [] G D R 0 0 _
  by_cases hw : sWrong E t n i ≤ 0
  · obtain ⟨hM, i0, il, et, en, ei, l1, l2, l3, l4, e16⟩ := sWrong_y hS.B hw
    obtain ⟨b, hb, hth, ev, v1, v41, vle⟩ := sim_ans hS hM
    obtain ⟨⟨hq, h3⟩, ⟨d0, d2, d4, d6⟩, htx, ⟨lq, hlq, hln⟩, hrw⟩ := id hth
    have hR5 := rw_Rv hrw (fun t ht => hS.B.a15 ht) v41
    have hlen : ix i < ix (D (b + 1 + 1) (ix n)) := by
      show ix i < ix (D (b + 2) (ix n))
      rw [(hrw.2.2.2.2.2 (ix n) l2).1]
      exact l4
    rw [show sRead E t n i = (E 16 (ix (4 * (12 * t + n) + i)), E) from by unfold sRead; rw [if_neg (fun q => q hw)], e16]
    refine al0 dX9_read_0 (by first | nofun | exact xrv_ne _) ?_
    refine il1 dX9_read_1 ?_
    refine il2 dX9_read_2 ?_
    refine il3 dX9_read_3 ?_
    refine cd9_164 (f' := f - 1) rfl dX9_read_4 (Nat.le_of_ble_eq_true rfl) (fx0 hS.X) (by omega) (c_twv_y (by omega) hS hM hb hth i0 il) ?_
    refine as4 dX9_read_7 (by first | nofun | exact xrv_ne _) ?_
    refine al4 dX9_read_9 (by first | nofun | exact xrv_ne _) ?_
    refine ex_ifnonnull 18 dX9_read_11 (by decide) ?_
    refine al4 dX9_read_18 (by first | nofun | exact xrv_ne _) ?_
    refine gf9_124 rfl dX9_read_20 (h3) hq ?_
    refine il2 dX9_read_23 ?_
    refine il3 dX9_read_24 ?_
    rw [en, ei]
    refine cd9_168 (f' := f - 1) rfl dX9_read_25 (Nat.le_of_ble_eq_true rfl) hrw.1 (by omega) (c_rat (by omega) (rw_rk hrw) l2 (hR5 (ix n) l2) hlen) ?_
    refine ex_iret dX9_read_28 rfl ?_
    refine ⟨?_, rfl, rfl, hS, Sam.rf⟩
    rw [show b + 1 + 2 = b + 3 from rfl, (hrw.2.2.2.2.2 (ix n) l2).2 (ix i) l4, ← en, ← ei]
  · rw [show sRead E t n i = (0, sFails E (sWrong E t n i) t n) from by unfold sRead; rw [if_pos hw]]
    refine al0 dX9_read_0 (by first | nofun | exact xrv_ne _) ?_
    refine il1 dX9_read_1 ?_
    refine il2 dX9_read_2 ?_
    refine il3 dX9_read_3 ?_
    refine cd9_164 (f' := f - 1) rfl dX9_read_4 (Nat.le_of_ble_eq_true rfl) (fx0 hS.X) (by omega) (c_twv_n (by omega) hS hw) ?_
    refine as4 dX9_read_7 (by first | nofun | exact xrv_ne _) ?_
    refine al4 dX9_read_9 (by first | nofun | exact xrv_ne _) ?_
    refine ex_ifnonnullN dX9_read_11 ?_
    refine ex_iconst (v := 0) dX9_read_14 (by decide) ?_
    refine ex_goto 28 dX9_read_15 (by decide) ?_
    refine ex_iret dX9_read_28 rfl ?_
    exact ⟨rfl, rfl, rfl, (Sim_tell hS _ _ _).1, (Sim_tell hS _ _ _).2⟩
set_option maxRecDepth 20000 in
set_option maxHeartbeats 1000000 in
theorem c_write {Γ : xGm} {l : Launch} {f : Nat} {G : xG} {D E : xD} {R : xR} (hf : 3 ≤ f) (hS : Sim D R G E) {t n i : Int32} {x : Int32} : Cn Γ l f MX9_write [.ref 0, .int t, .int n, .int i, .int x] G D R 0 0 (Sq G R D (some (.int (sWrite E t n i x).1)) (sWrite E t n i x).2) := by
  refine cn_of MX9_write_ok (Nat.le_of_ble_eq_true rfl) ?_
  show Ex Γ l f MX9_write 0 [some (.ref 0), some (.int t), some (.int n), some (.int i), some (.int x), none] [] G D R 0 0 _
  by_cases hw : sWrong E t n i ≤ 0
  · obtain ⟨hM, i0, il, et, en, ei, l1, l2, l3, l4, e16⟩ := sWrong_y hS.B hw
    obtain ⟨b, hb, hth, ev, v1, v41, vle⟩ := sim_ans hS hM
    obtain ⟨⟨hq, h3⟩, ⟨d0, d2, d4, d6⟩, htx, ⟨lq, hlq, hln⟩, hrw⟩ := id hth
    have hR5 := rw_Rv hrw (fun t ht => hS.B.a15 ht) v41
    have hlen : ix i < ix (D (b + 1 + 1) (ix n)) := by
      show ix i < ix (D (b + 2) (ix n))
      rw [(hrw.2.2.2.2.2 (ix n) l2).1]
      exact l4
    rw [show sWrite E t n i x = (x, xdu E 16 (ix (4 * (12 * t + n) + i)) x) from by unfold sWrite; rw [if_neg (fun q => q hw)], e16]
    refine al0 dX9_write_0 (by first | nofun | exact xrv_ne _) ?_
    refine il1 dX9_write_1 ?_
    refine il2 dX9_write_2 ?_
    refine il3 dX9_write_3 ?_
    refine cd9_164 (f' := f - 1) rfl dX9_write_4 (Nat.le_of_ble_eq_true rfl) (fx0 hS.X) (by omega) (c_twv_y (by omega) hS hM hb hth i0 il) ?_
    refine as5 dX9_write_7 (by first | nofun | exact xrv_ne _) ?_
    refine al5 dX9_write_9 (by first | nofun | exact xrv_ne _) ?_
    refine ex_ifnonnull 16 dX9_write_11 (by decide) ?_
    refine al5 dX9_write_16 (by first | nofun | exact xrv_ne _) ?_
    refine gf9_124 rfl dX9_write_18 (h3) hq ?_
    refine il2 dX9_write_21 ?_
    refine il3 dX9_write_22 ?_
    refine il4 dX9_write_23 ?_
    rw [en, ei]
    refine cd9_135 (f' := f - 1) rfl dX9_write_25 (Nat.le_of_ble_eq_true rfl) hrw.1 (by omega) (c_rput (by omega) (rw_rk hrw) l2 (hR5 (ix n) l2) hlen) ?_
    refine il4 dX9_write_28 ?_
    refine ex_iret dX9_write_30 rfl ?_
    obtain ⟨hS1, hM1⟩ := Sim_write (x := x) hS v1 vle hb hth l2 l3
    rw [← en, ← ei]
    exact ⟨rfl, rfl, rfl, hS1, hM1⟩
  · rw [show sWrite E t n i x = (0, sFails E (sWrong E t n i) t n) from by unfold sWrite; rw [if_pos hw]]
    refine al0 dX9_write_0 (by first | nofun | exact xrv_ne _) ?_
    refine il1 dX9_write_1 ?_
    refine il2 dX9_write_2 ?_
    refine il3 dX9_write_3 ?_
    refine cd9_164 (f' := f - 1) rfl dX9_write_4 (Nat.le_of_ble_eq_true rfl) (fx0 hS.X) (by omega) (c_twv_n (by omega) hS hw) ?_
    refine as5 dX9_write_7 (by first | nofun | exact xrv_ne _) ?_
    refine al5 dX9_write_9 (by first | nofun | exact xrv_ne _) ?_
    refine ex_ifnonnullN dX9_write_11 ?_
    refine ex_iconst (v := 0) dX9_write_14 (by decide) ?_
    refine ex_iret dX9_write_15 rfl ?_
    exact ⟨rfl, rfl, rfl, (Sim_tell hS _ _ _).1, (Sim_tell hS _ _ _).2⟩
theorem Sim.tr' {D E : xD} {R : xR} {G : xG} (h : Sim D R G E) : tS D E = D := tS_id h.tr
set_option maxRecDepth 20000 in
set_option maxHeartbeats 1000000 in
theorem c_tree {Γ : xGm} {l : Launch} {f : Nat} {G : xG} {D E : xD} {R : xR} (hf : 3 ≤ f) (hS : Sim D R G E) {v w : Int32} : Cn Γ l f MX9_tree [.ref 0, .int v, .int w] G D R 0 0 (Sq G R D (some (.int (sTree E v w).1)) (sTree E v w).2) := by
  refine cn_of MX9_tree_ok (Nat.le_of_ble_eq_true rfl) ?_
  show Ex Γ l f MX9_tree 0 [some (.ref 0), some (.int v), some (.int w)] [] G D R 0 0 _
  by_cases hM : sMeta E v = 2
  · obtain ⟨a, ea, a1, a2⟩ := sMeta_n hS.B hM
    have eix : ix v = a := by rw [ea, ix_nI (by omega)]
    rw [show sTree E v w = (if w = 0 then E 19 (ix v) else if w = 1 then E 20 (ix v) else if w = 2 then E 21 (ix v) else nI (sKids E (E 20 (ix v)) (lk 40)), E) from by unfold sTree; rw [if_neg (fun q => q hM)], eix]
    refine al0 dX9_tree_0 (by first | nofun | exact xrv_ne _) ?_
    refine il1 dX9_tree_1 ?_
    refine cd9_172 (f' := f - 1) rfl dX9_tree_2 (Nat.le_of_ble_eq_true rfl) (fx0 hS.X) (by omega) (c_meta (by omega) hS) ?_
    refine ex_iconst (v := 2) dX9_tree_5 (by decide) ?_
    refine ex_icmp_eq 21 dX9_tree_6 (by decide) (fun h6 => ?_) (fun h6 => ?_)
    · refine il2 dX9_tree_21 ?_
      refine ex_table 0 75 [48, 57, 66] dX9_tree_22 (by decide) (by decide) (by decide) (by decide) (by decide) ⟨fun h22 => ?_, fun h22 => ?_, fun h22 => ?_, trivial⟩ (fun h22 => ?_)
      · change _ = (0 : Int32) at h22
        refine al0 dX9_tree_48 (by first | nofun | exact xrv_ne _) ?_
        refine gf9_36 rfl dX9_tree_49 (fr0_4 hS.X) (fx0 hS.X) ?_
        refine il1 dX9_tree_52 ?_
        refine cd9_188 (f' := f - 1) rfl dX9_tree_53 (Nat.le_of_ble_eq_true rfl) (fx5 hS.X) (by omega) ((by have z := c_parentOf_t (Γ := Γ) (l := l) (f := f - 1) (D := D) (E := E) (v := v) hS.X (by omega); rw [hS.tr'] at z; exact z)) ?_
        refine ex_iret dX9_tree_56 rfl ?_
        refine ⟨?_, rfl, rfl, hS, Sam.rf⟩
        rw [if_pos h22, ea, eOf_n a1 a2]
      · change _ = (1 : Int32) at h22
        refine al0 dX9_tree_57 (by first | nofun | exact xrv_ne _) ?_
        refine gf9_36 rfl dX9_tree_58 (fr0_4 hS.X) (fx0 hS.X) ?_
        refine il1 dX9_tree_61 ?_
        refine cd9_191 (f' := f - 1) rfl dX9_tree_62 (Nat.le_of_ble_eq_true rfl) (fx5 hS.X) (by omega) ((by have z := c_childOf_t (Γ := Γ) (l := l) (f := f - 1) (D := D) (E := E) (v := v) hS.X (by omega); rw [hS.tr'] at z; exact z)) ?_
        refine ex_iret dX9_tree_65 rfl ?_
        refine ⟨?_, rfl, rfl, hS, Sam.rf⟩
        rw [if_neg (by rw [h22]; decide), if_pos h22, ea, eOf_n a1 a2]
      · change _ = (2 : Int32) at h22
        refine al0 dX9_tree_66 (by first | nofun | exact xrv_ne _) ?_
        refine gf9_36 rfl dX9_tree_67 (fr0_4 hS.X) (fx0 hS.X) ?_
        refine il1 dX9_tree_70 ?_
        refine cd9_194 (f' := f - 1) rfl dX9_tree_71 (Nat.le_of_ble_eq_true rfl) (fx5 hS.X) (by omega) ((by have z := c_siblingOf_t (Γ := Γ) (l := l) (f := f - 1) (D := D) (E := E) (v := v) hS.X (by omega); rw [hS.tr'] at z; exact z)) ?_
        refine ex_iret dX9_tree_74 rfl ?_
        refine ⟨?_, rfl, rfl, hS, Sam.rf⟩
        rw [if_neg (by rw [h22]; decide), if_neg (by rw [h22]; decide), if_pos h22, ea, eOf_n a1 a2]
      · obtain ⟨h22_0, h22_1, h22_2, -⟩ := h22
        change ¬ _ = (0 : Int32) at h22_0
        change ¬ _ = (1 : Int32) at h22_1
        change ¬ _ = (2 : Int32) at h22_2
        refine al0 dX9_tree_75 (by first | nofun | exact xrv_ne _) ?_
        refine gf9_36 rfl dX9_tree_76 (fr0_4 hS.X) (fx0 hS.X) ?_
        refine il1 dX9_tree_79 ?_
        rw [ea]
        refine cd9_197 (f' := f - 1) rfl dX9_tree_80 (Nat.le_of_ble_eq_true rfl) (fx5 hS.X) (by omega) ((by have z := c_kids (Γ := Γ) (l := l) (f := f - 1) (D := D) (E := E) (by omega) hS.X hS.I a1 a2; rw [hS.tr'] at z; exact z)) ?_
        refine ex_iret dX9_tree_83 rfl ?_
        refine ⟨?_, rfl, rfl, hS, Sam.rf⟩
        rw [if_neg h22_0, if_neg h22_1, if_neg h22_2]
    · exact absurd hM h6
  · rw [show sTree E v w = (0, sFails E 6 v 0) from by unfold sTree; rw [if_pos hM]]
    refine al0 dX9_tree_0 (by first | nofun | exact xrv_ne _) ?_
    refine il1 dX9_tree_1 ?_
    refine cd9_172 (f' := f - 1) rfl dX9_tree_2 (Nat.le_of_ble_eq_true rfl) (fx0 hS.X) (by omega) (c_meta (by omega) hS) ?_
    refine ex_iconst (v := 2) dX9_tree_5 (by decide) ?_
    refine ex_icmp_eq 21 dX9_tree_6 (by decide) (fun h6 => ?_) (fun h6 => ?_)
    · exact absurd h6 hM
    · refine al0 dX9_tree_9 (by first | nofun | exact xrv_ne _) ?_
      refine gf9_57 rfl dX9_tree_10 (fr0_6 hS.X) (fx0 hS.X) ?_
      refine ex_bipush (v := 6) dX9_tree_13 (by decide) ?_
      refine il1 dX9_tree_15 ?_
      refine ex_iconst (v := 0) dX9_tree_16 (by decide) ?_
      refine cd9_175 (f' := f - 1) rfl dX9_tree_17 (Nat.le_of_ble_eq_true rfl) (fx13 hS.X) (by omega) (c_tell hS.X hS.n13) ?_
      refine ex_iret dX9_tree_20 rfl ?_
      exact ⟨rfl, rfl, rfl, (Sim_tell hS _ _ _).1, (Sim_tell hS _ _ _).2⟩
theorem sMove_x {E : xD} {a b : Int32} {j : Nat} (hM : ¬ (¬ sMeta E a = 2 ∨ (¬ b = 0 ∧ ¬ sMeta E b = 2))) (hi : ¬ sInAt E a b (lk 41) = true) (h19 : j ≠ 19) (h20 : j ≠ 20) (h21 : j ≠ 21) : (sMove E a b).2 j = E j := by
  unfold sMove
  rw [if_neg hM, if_neg hi]
  show (if b = 0 then sLeave E a else _) j = E j
  split
  · exact sLeave_ne h19 h20 h21
  · rw [xdu_ne _ _ _ h20, xdu_ne _ _ _ h21, xdu_ne _ _ _ h19, sLeave_ne h19 h20 h21]
set_option maxRecDepth 20000 in
set_option maxHeartbeats 1000000 in
theorem c_move {Γ : xGm} {l : Launch} {f : Nat} {G : xG} {D E : xD} {R : xR} (hf : 4 ≤ f) (hS : Sim D R G E) {a b : Int32} : Cn Γ l f MX9_move [.ref 0, .int a, .int b] G D R 0 0 (Sq G R D (some (.int (sMove E a b).1)) (sMove E a b).2) := by
  refine cn_of MX9_move_ok (Nat.le_of_ble_eq_true rfl) ?_
  show Ex Γ l f MX9_move 0 [some (.ref 0), some (.int a), some (.int b)] [] G D R 0 0 _
  by_cases hM : ¬ sMeta E a = 2 ∨ (¬ b = 0 ∧ ¬ sMeta E b = 2)
  · rw [show sMove E a b = (0, sFails E 6 a b) from by unfold sMove; rw [if_pos hM]]
    refine al0 dX9_move_0 (by first | nofun | exact xrv_ne _) ?_
    refine il1 dX9_move_1 ?_
    refine cd9_172 (f' := f - 1) rfl dX9_move_2 (Nat.le_of_ble_eq_true rfl) (fx0 hS.X) (by omega) (c_meta (by omega) hS) ?_
    refine ex_iconst (v := 2) dX9_move_5 (by decide) ?_
    refine ex_icmp_ne 22 dX9_move_6 (by decide) (fun h6 => ?_) (fun h6 => ?_)
    · refine al0 dX9_move_22 (by first | nofun | exact xrv_ne _) ?_
      refine gf9_57 rfl dX9_move_23 (fr0_6 hS.X) (fx0 hS.X) ?_
      refine ex_bipush (v := 6) dX9_move_26 (by decide) ?_
      refine il1 dX9_move_28 ?_
      refine il2 dX9_move_29 ?_
      refine cd9_175 (f' := f - 1) rfl dX9_move_30 (Nat.le_of_ble_eq_true rfl) (fx13 hS.X) (by omega) (c_tell hS.X hS.n13) ?_
      refine ex_iret dX9_move_33 rfl ?_
      exact ⟨rfl, rfl, rfl, (Sim_tell hS _ _ _).1, (Sim_tell hS _ _ _).2⟩
    · refine il2 dX9_move_9 ?_
      refine ex_if_eq 34 dX9_move_10 (by decide) (fun h10 => ?_) (fun h10 => ?_)
      · exact absurd h10 (hM.elim (fun q => absurd h6 q) (fun q => q.1))
      · refine al0 dX9_move_13 (by first | nofun | exact xrv_ne _) ?_
        refine il2 dX9_move_14 ?_
        refine cd9_172 (f' := f - 1) rfl dX9_move_15 (Nat.le_of_ble_eq_true rfl) (fx0 hS.X) (by omega) (c_meta (by omega) hS) ?_
        refine ex_iconst (v := 2) dX9_move_18 (by decide) ?_
        refine ex_icmp_eq 34 dX9_move_19 (by decide) (fun h19 => ?_) (fun h19 => ?_)
        · exact hM.elim (fun q => absurd h6 q) (fun q => absurd h19 q.2)
        · refine al0 dX9_move_22 (by first | nofun | exact xrv_ne _) ?_
          refine gf9_57 rfl dX9_move_23 (fr0_6 hS.X) (fx0 hS.X) ?_
          refine ex_bipush (v := 6) dX9_move_26 (by decide) ?_
          refine il1 dX9_move_28 ?_
          refine il2 dX9_move_29 ?_
          refine cd9_175 (f' := f - 1) rfl dX9_move_30 (Nat.le_of_ble_eq_true rfl) (fx13 hS.X) (by omega) (c_tell hS.X hS.n13) ?_
          refine ex_iret dX9_move_33 rfl ?_
          exact ⟨rfl, rfl, rfl, (Sim_tell hS _ _ _).1, (Sim_tell hS _ _ _).2⟩
  · have ha : sMeta E a = 2 := Classical.byContradiction fun q => hM (Or.inl q)
    have hb : b = 0 ∨ sMeta E b = 2 := by
      by_cases q : b = 0
      · exact Or.inl q
      · exact Or.inr (Classical.byContradiction fun z => hM (Or.inr ⟨q, z⟩))
    obtain ⟨x, ea, a1, a2⟩ := sMeta_n hS.B ha
    have hb41 : vp_in b 41 := hb.elim (fun q => by rw [q]; exact vi_of (n := 0) (by decide) (by decide)) (fun q => by
      obtain ⟨y, ey, y1, y2⟩ := sMeta_n hS.B q
      rw [ey]
      exact vi_of y2 (by decide))
    by_cases hi : sInAt E a b (lk 41) = true
    · rw [show sMove E a b = (0, sFails E 7 a b) from by unfold sMove; rw [if_neg hM, if_pos hi]]
      refine al0 dX9_move_0 (by first | nofun | exact xrv_ne _) ?_
      refine il1 dX9_move_1 ?_
      refine cd9_172 (f' := f - 1) rfl dX9_move_2 (Nat.le_of_ble_eq_true rfl) (fx0 hS.X) (by omega) (c_meta (by omega) hS) ?_
      refine ex_iconst (v := 2) dX9_move_5 (by decide) ?_
      refine ex_icmp_ne 22 dX9_move_6 (by decide) (fun h6 => ?_) (fun h6 => ?_)
      · exact absurd ha h6
      · refine il2 dX9_move_9 ?_
        refine ex_if_eq 34 dX9_move_10 (by decide) (fun h10 => ?_) (fun h10 => ?_)
        · refine al0 dX9_move_34 (by first | nofun | exact xrv_ne _) ?_
          refine gf9_36 rfl dX9_move_35 (fr0_4 hS.X) (fx0 hS.X) ?_
          refine il2 dX9_move_38 ?_
          refine il1 dX9_move_39 ?_
          refine cd9_179 (f' := f - 1) rfl dX9_move_40 (Nat.le_of_ble_eq_true rfl) (fx5 hS.X) (by omega) ((by have z := c_isIn (Γ := Γ) (l := l) (f := f - 1) (D := D) (E := E) (a := a) (by omega) hS.X hS.I hb41; rw [hS.tr'] at z; exact z)) ?_
          refine ex_if_eq 58 dX9_move_43 (by decide) (fun h43 => ?_) (fun h43 => ?_)
          · rw [hi] at h43; exact absurd h43 (by decide)
          · simp only [bi_0, Bool.not_eq_false] at h43
            refine al0 dX9_move_46 (by first | nofun | exact xrv_ne _) ?_
            refine gf9_57 rfl dX9_move_47 (fr0_6 hS.X) (fx0 hS.X) ?_
            refine ex_bipush (v := 7) dX9_move_50 (by decide) ?_
            refine il1 dX9_move_52 ?_
            refine il2 dX9_move_53 ?_
            refine cd9_175 (f' := f - 1) rfl dX9_move_54 (Nat.le_of_ble_eq_true rfl) (fx13 hS.X) (by omega) (c_tell hS.X hS.n13) ?_
            refine ex_iret dX9_move_57 rfl ?_
            exact ⟨rfl, rfl, rfl, (Sim_tell hS _ _ _).1, (Sim_tell hS _ _ _).2⟩
        · refine al0 dX9_move_13 (by first | nofun | exact xrv_ne _) ?_
          refine il2 dX9_move_14 ?_
          refine cd9_172 (f' := f - 1) rfl dX9_move_15 (Nat.le_of_ble_eq_true rfl) (fx0 hS.X) (by omega) (c_meta (by omega) hS) ?_
          refine ex_iconst (v := 2) dX9_move_18 (by decide) ?_
          refine ex_icmp_eq 34 dX9_move_19 (by decide) (fun h19 => ?_) (fun h19 => ?_)
          · refine al0 dX9_move_34 (by first | nofun | exact xrv_ne _) ?_
            refine gf9_36 rfl dX9_move_35 (fr0_4 hS.X) (fx0 hS.X) ?_
            refine il2 dX9_move_38 ?_
            refine il1 dX9_move_39 ?_
            refine cd9_179 (f' := f - 1) rfl dX9_move_40 (Nat.le_of_ble_eq_true rfl) (fx5 hS.X) (by omega) ((by have z := c_isIn (Γ := Γ) (l := l) (f := f - 1) (D := D) (E := E) (a := a) (by omega) hS.X hS.I hb41; rw [hS.tr'] at z; exact z)) ?_
            refine ex_if_eq 58 dX9_move_43 (by decide) (fun h43 => ?_) (fun h43 => ?_)
            · rw [hi] at h43; exact absurd h43 (by decide)
            · simp only [bi_0, Bool.not_eq_false] at h43
              refine al0 dX9_move_46 (by first | nofun | exact xrv_ne _) ?_
              refine gf9_57 rfl dX9_move_47 (fr0_6 hS.X) (fx0 hS.X) ?_
              refine ex_bipush (v := 7) dX9_move_50 (by decide) ?_
              refine il1 dX9_move_52 ?_
              refine il2 dX9_move_53 ?_
              refine cd9_175 (f' := f - 1) rfl dX9_move_54 (Nat.le_of_ble_eq_true rfl) (fx13 hS.X) (by omega) (c_tell hS.X hS.n13) ?_
              refine ex_iret dX9_move_57 rfl ?_
              exact ⟨rfl, rfl, rfl, (Sim_tell hS _ _ _).1, (Sim_tell hS _ _ _).2⟩
          · exact hb.elim (fun q => absurd q h10) (fun q => absurd q h19)
    · have hIm := hS.I.move (a := a) (b := b)
      have hne := fun j h19 h20 h21 => sMove_x (E := E) (a := a) (b := b) (j := j) hM hi h19 h20 h21
      obtain ⟨hS1, hM1⟩ := Sim_tS hS hIm hne
      have hLI := hS.I.leave a1 a2
      rw [show (sMove E a b).1 = 1 from by unfold sMove; rw [if_neg hM, if_neg hi]]
      refine al0 dX9_move_0 (by first | nofun | exact xrv_ne _) ?_
      refine il1 dX9_move_1 ?_
      refine cd9_172 (f' := f - 1) rfl dX9_move_2 (Nat.le_of_ble_eq_true rfl) (fx0 hS.X) (by omega) (c_meta (by omega) hS) ?_
      refine ex_iconst (v := 2) dX9_move_5 (by decide) ?_
      refine ex_icmp_ne 22 dX9_move_6 (by decide) (fun h6 => ?_) (fun h6 => ?_)
      · exact absurd ha h6
      · refine il2 dX9_move_9 ?_
        refine ex_if_eq 34 dX9_move_10 (by decide) (fun h10 => ?_) (fun h10 => ?_)
        · refine al0 dX9_move_34 (by first | nofun | exact xrv_ne _) ?_
          refine gf9_36 rfl dX9_move_35 (fr0_4 hS.X) (fx0 hS.X) ?_
          refine il2 dX9_move_38 ?_
          refine il1 dX9_move_39 ?_
          refine cd9_179 (f' := f - 1) rfl dX9_move_40 (Nat.le_of_ble_eq_true rfl) (fx5 hS.X) (by omega) ((by have z := c_isIn (Γ := Γ) (l := l) (f := f - 1) (D := D) (E := E) (a := a) (by omega) hS.X hS.I hb41; rw [hS.tr'] at z; exact z)) ?_
          refine ex_if_eq 58 dX9_move_43 (by decide) (fun h43 => ?_) (fun h43 => ?_)
          · simp only [bi_0, Bool.not_eq_false] at h43
            refine al0 dX9_move_58 (by first | nofun | exact xrv_ne _) ?_
            refine gf9_36 rfl dX9_move_59 (fr0_4 hS.X) (fx0 hS.X) ?_
            refine il1 dX9_move_62 ?_
            rw [ea]
            refine cd9_183 (f' := f - 1) rfl dX9_move_63 (Nat.le_of_ble_eq_true rfl) (fx5 hS.X) (by omega) ((by have z := c_lift (Γ := Γ) (l := l) (f := f - 1) (D := D) (E := E) (by omega) hS.X hS.B hS.I.2.2.1 a1 a2; rw [hS.tr'] at z; exact z)) ?_
            refine al0 dX9_move_66 (by first | nofun | exact xrv_ne _) ?_
            refine gf9_36 rfl dX9_move_67 (fr0_4 hS.X) (fx0 hS.X) ?_
            refine il1 dX9_move_70 ?_
            refine il2 dX9_move_71 ?_
            refine cd9_186 (f' := f - 1) rfl dX9_move_72 (Nat.le_of_ble_eq_true rfl) (fx5 hS.X) (by omega) (c_put (E := sLeave E (nI x)) (D := D) (f := f - 1) (by omega) hS.X (cHolds_n a1 a2)) ?_
            refine ex_iconst (v := 1) dX9_move_75 (by decide) ?_
            refine ex_iret dX9_move_76 rfl ?_
            refine ⟨rfl, rfl, rfl, ?_, ?_⟩
            all_goals rw [show (if cHolds b = true then xdu (xdu (xdu (sLeave E (nI x)) 19 (ix (nI x)) b) 21 (ix (nI x)) (sLeave E (nI x) 20 (ix b))) 20 (ix b) (nI x) else sLeave E (nI x)) = (sMove E a b).2 from by
              unfold sMove
              rw [if_neg hM, if_neg hi, ← ea]
              by_cases q : b = 0
              · rw [if_pos q, if_neg (by rw [q]; decide)]
              · obtain ⟨y, ey, y1, y2⟩ := sMeta_n hS.B (hb.resolve_left q)
                rw [if_neg q, if_pos (by rw [ey]; exact cHolds_n y1 y2)]]
            · rw [← ea]
              exact hS1
            · exact hM1
          · exact absurd h43 (by rw [nb hi]; decide)
        · refine al0 dX9_move_13 (by first | nofun | exact xrv_ne _) ?_
          refine il2 dX9_move_14 ?_
          refine cd9_172 (f' := f - 1) rfl dX9_move_15 (Nat.le_of_ble_eq_true rfl) (fx0 hS.X) (by omega) (c_meta (by omega) hS) ?_
          refine ex_iconst (v := 2) dX9_move_18 (by decide) ?_
          refine ex_icmp_eq 34 dX9_move_19 (by decide) (fun h19 => ?_) (fun h19 => ?_)
          · refine al0 dX9_move_34 (by first | nofun | exact xrv_ne _) ?_
            refine gf9_36 rfl dX9_move_35 (fr0_4 hS.X) (fx0 hS.X) ?_
            refine il2 dX9_move_38 ?_
            refine il1 dX9_move_39 ?_
            refine cd9_179 (f' := f - 1) rfl dX9_move_40 (Nat.le_of_ble_eq_true rfl) (fx5 hS.X) (by omega) ((by have z := c_isIn (Γ := Γ) (l := l) (f := f - 1) (D := D) (E := E) (a := a) (by omega) hS.X hS.I hb41; rw [hS.tr'] at z; exact z)) ?_
            refine ex_if_eq 58 dX9_move_43 (by decide) (fun h43 => ?_) (fun h43 => ?_)
            · simp only [bi_0, Bool.not_eq_false] at h43
              refine al0 dX9_move_58 (by first | nofun | exact xrv_ne _) ?_
              refine gf9_36 rfl dX9_move_59 (fr0_4 hS.X) (fx0 hS.X) ?_
              refine il1 dX9_move_62 ?_
              rw [ea]
              refine cd9_183 (f' := f - 1) rfl dX9_move_63 (Nat.le_of_ble_eq_true rfl) (fx5 hS.X) (by omega) ((by have z := c_lift (Γ := Γ) (l := l) (f := f - 1) (D := D) (E := E) (by omega) hS.X hS.B hS.I.2.2.1 a1 a2; rw [hS.tr'] at z; exact z)) ?_
              refine al0 dX9_move_66 (by first | nofun | exact xrv_ne _) ?_
              refine gf9_36 rfl dX9_move_67 (fr0_4 hS.X) (fx0 hS.X) ?_
              refine il1 dX9_move_70 ?_
              refine il2 dX9_move_71 ?_
              refine cd9_186 (f' := f - 1) rfl dX9_move_72 (Nat.le_of_ble_eq_true rfl) (fx5 hS.X) (by omega) (c_put (E := sLeave E (nI x)) (D := D) (f := f - 1) (by omega) hS.X (cHolds_n a1 a2)) ?_
              refine ex_iconst (v := 1) dX9_move_75 (by decide) ?_
              refine ex_iret dX9_move_76 rfl ?_
              refine ⟨rfl, rfl, rfl, ?_, ?_⟩
              all_goals rw [show (if cHolds b = true then xdu (xdu (xdu (sLeave E (nI x)) 19 (ix (nI x)) b) 21 (ix (nI x)) (sLeave E (nI x) 20 (ix b))) 20 (ix b) (nI x) else sLeave E (nI x)) = (sMove E a b).2 from by
                unfold sMove
                rw [if_neg hM, if_neg hi, ← ea]
                by_cases q : b = 0
                · rw [if_pos q, if_neg (by rw [q]; decide)]
                · obtain ⟨y, ey, y1, y2⟩ := sMeta_n hS.B (hb.resolve_left q)
                  rw [if_neg q, if_pos (by rw [ey]; exact cHolds_n y1 y2)]]
              · rw [← ea]
                exact hS1
              · exact hM1
            · exact absurd h43 (by rw [nb hi]; decide)
          · exact hb.elim (fun q => absurd q h10) (fun q => absurd q h19)
