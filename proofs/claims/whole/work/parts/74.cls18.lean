theorem xdu_same {E : xD} {j k : Nat} {x : Int32} (h : x = E j k) : xdu E j k x = E := by
  funext q
  unfold xdu
  split
  next e =>
    subst e
    funext z
    unfold upd
    split
    next e2 => rw [h, e2]
    next => rfl
  next => rfl
theorem Sim_addv {D : xD} {R : xR} {G : xG} {E : xD} {v b n : Nat} {x : Int32} (h : Sim D R G E) (v1 : 1 ≤ v) (v2 : v ≤ ix (E 0 14)) (hb : R 1 (v - 1) = some b) (hth : th D R G b E v) (hn : n < 12) (h4 : ix (E 15 (12 * v + n)) < 4) : Sim (cAdd D (b + 1) n x) R G (xdu (xdu E 16 (4 * (12 * v + n) + ix (E 15 (12 * v + n))) x) 15 (12 * v + n) (nI (ix (E 15 (12 * v + n)) + 1))) ∧ Sam D (cAdd D (b + 1) n x) ∧ cAdd D (b + 1) n x (b + 2) n = nI (ix (E 15 (12 * v + n)) + 1) := by
  have v41 : v < 41 := by have := (vi_n h.B.n14 (by decide)).2; omega
  have h15 := h.B.a15 (t := 12 * v + n) (by omega)
  obtain ⟨e15, -⟩ := vi_n h15 (by decide)
  have ej : ∀ j, j ≠ 15 → j ≠ 16 → xdu (xdu E 16 (4 * (12 * v + n) + ix (E 15 (12 * v + n))) x) 15 (12 * v + n) (nI (ix (E 15 (12 * v + n)) + 1)) j = E j := fun j a b => by rw [xdu_ne _ _ _ a, xdu_ne _ _ _ b]
  have f15 : xdu (xdu E 16 (4 * (12 * v + n) + ix (E 15 (12 * v + n))) x) 15 (12 * v + n) (nI (ix (E 15 (12 * v + n)) + 1)) 15 = upd (E 15) (12 * v + n) (nI (ix (E 15 (12 * v + n)) + 1)) := by rw [xdu_self, xdu_ne _ _ _ (by decide)]
  have f16 : xdu (xdu E 16 (4 * (12 * v + n) + ix (E 15 (12 * v + n))) x) 15 (12 * v + n) (nI (ix (E 15 (12 * v + n)) + 1)) 16 = upd (E 16) (4 * (12 * v + n) + ix (E 15 (12 * v + n))) x := by rw [xdu_ne _ _ _ (by decide), xdu_self]
  obtain ⟨c2, c3, c4, ⟨q, q1, q2⟩, hrw⟩ := id hth
  have hne : ∀ p, p ≠ b + 2 → p ≠ b + 3 → cAdd D (b + 1) n x p = D p := fun p a c => cAdd_ne a c
  have hrsE : ∀ m, m < 12 → rs (E 15) (E 16) (12 * v + m) (rl (E 15) (E 16) (12 * v + m)) := fun m hm => rs_mk (h.B.a15 (by omega))
  have hrsD : ∀ m, m < 12 → rs (D (b + 2)) (D (b + 3)) m (rl (E 15) (E 16) (12 * v + m)) := fun m hm => rw_rs hrw hm (hrsE m hm)
  have hl := rs_len (hrsE n hn)
  have hrw2 : rw_ (cAdd D (b + 1) n x) R G b (xdu (xdu E 16 (4 * (12 * v + n) + ix (E 15 (12 * v + n))) x) 15 (12 * v + n) (nI (ix (E 15 (12 * v + n)) + 1))) v := by
    refine rw_of (rw_rk hrw) (fun m hm => ?_)
    rw [f15, f16]
    by_cases e : m = n
    · subst e
      refine ⟨_, cAdd_rs (D := D) (c := b + 1) (v := x) (hrsD m hm), ?_⟩
      rw [List.take_of_length_le (by simp; omega)]
      have := rs_app (hrsE m hm) (by omega) x
      rw [← hl] at this
      exact this
    · exact ⟨_, cAdd_rs' (D := D) (c := b + 1) (v := x) (hrsD n hn) (hrsD m hm) e, rs_oth (hrsE m hm) (by omega) (by omega)⟩
  have r12 := hrw.2.2.2.1
  have r48 := hrw.2.2.2.2.1
  obtain ⟨s1, s2⟩ := Sim_th (D' := cAdd D (b + 1) n x) (R' := R) h v1 v2 hb (fun p _ a c => hne p a c) (fun _ _ _ => rfl) (h.I.rowsOf ej (by
      rw [f15]
      exact vp_upd (fun t ht => h.B.a15 ht) (vi_of (by omega) (by decide)))) (h.F.e (ej 0 (by decide) (by decide)) (ej 4 (by decide) (by decide)) (ej 9 (by decide) (by decide)) (ej 10 (by decide) (by decide)) (fun u hu => by rw [ej 11 (by decide) (by decide)]; exact (h.F.2.2.2.1 u hu).2.1) (fun u _ _ => by rw [ej 11 (by decide) (by decide)]) (ej 12 (by decide) (by decide)) (fun u m a c hm => by rw [f15, upd_ne _ _ (by omega)]) (ej 17 (by decide) (by decide)) (ej 18 (by decide) (by decide))) (fun j _ a c _ _ => ej j a c) (fun u _ => by rw [ej 11 (by decide) (by decide), ej 17 (by decide) (by decide), ej 18 (by decide) (by decide)]; exact ⟨rfl, rfl, rfl⟩) (fun u m hu _ hm => by rw [f15, upd_ne _ _ (by omega)]) (fun u m i hu _ hm _ hi => by rw [f16, upd_ne _ _ (by omega)]) ⟨c2, by rw [hne b (by omega) (by omega), ej 10 (by decide) (by decide), ej 11 (by decide) (by decide), ej 12 (by decide) (by decide), ej 18 (by decide) (by decide)]; exact c3, by rw [ej 17 (by decide) (by decide)]; exact c4, ⟨q, q1, by
      unfold ln at q2 ⊢
      rw [hne q (xis_xia q2.1 r12 (by decide)) (xis_xia q2.1 r48 (by decide)), hne (q + 1) (xia_ne q2.2.2.1 r12 (by omega)) (xia_ne q2.2.2.1 r48 (by omega)), ej 13 (by decide) (by decide), ej 14 (by decide) (by decide)]
      exact q2⟩, hrw2⟩
  refine ⟨s1, s2, ?_⟩
  rw [(hrw2.2.2.2.2.2 n hn).1, f15, upd_self]
set_option maxRecDepth 20000 in
set_option maxHeartbeats 1000000 in
theorem c_value {Γ : xGm} {l : Launch} {f : Nat} {G : xG} {D E : xD} {R : xR} (hf : 4 ≤ f) (hS : Sim D R G E) {t n i x : Int32} : Cn Γ l f MX9_value [.ref 0, .int t, .int n, .int i, .int x] G D R 0 0 (Sq G R D (some (.int (sValue E t n i x).1)) (sValue E t n i x).2) := by
  refine cn_of MX9_value_ok (Nat.le_of_ble_eq_true rfl) ?_
  show Ex Γ l f MX9_value 0 [some (.ref 0), some (.int t), some (.int n), some (.int i), some (.int x), none] [] G D R 0 0 _
  by_cases hv : sIn t 1 (E 0 14) = true
  · obtain ⟨b, hb, hth, ev, v1, v41, vle⟩ := sim_th hS hv
    obtain ⟨⟨hq, h3⟩, ⟨d0, d2, d4, d6⟩, htx, ⟨lq, hlq, hln⟩, hrw⟩ := id hth
    by_cases hC : sIn n 0 11 = false ∨ sIn i 0 3 = false ∨ ¬ i ≤ E 15 (ix (12 * t + n))
    · rw [show sValue E t n i x = (-3, E) from by unfold sValue; rw [if_neg (by rw [hv]; decide), if_pos hC]]
      have hcon : sIn n 0 11 = true → 0 ≤ i → ¬ 4 ≤ i → i ≤ rLen D (b + 1) n → False := fun a c d e => by
        rw [rw_len hrw v41, ← ev] at e
        rcases hC with z | z | z
        · rw [a] at z; cases z
        · have : sIn i 0 3 = true := sIn_t.mpr ⟨c, by
            rw [i32_le] at d ⊢
            have : (4 : Int32).toInt = 4 := rfl
            have : (3 : Int32).toInt = 3 := rfl
            omega⟩
          rw [this] at z
          cases z
        · refine z ?_
          unfold sRowAt at e
          rw [if_pos a] at e
          exact e
      refine al0 dX9_value_0 (by first | nofun | exact xrv_ne _) ?_
      refine il1 dX9_value_1 ?_
      refine cd9_115 (f' := f - 1) rfl dX9_value_2 (Nat.le_of_ble_eq_true rfl) (fx0 hS.X) (by omega) (c_thing_y hS.X hS.n8 (by rw [hS.A.1]; exact hv) hb) ?_
      refine as5 dX9_value_5 (by first | nofun | exact xrv_ne _) ?_
      refine al5 dX9_value_7 (by first | nofun | exact xrv_ne _) ?_
      refine ex_ifnonnull 15 dX9_value_9 (by decide) ?_
      refine il2 dX9_value_15 ?_
      refine cd9_119 (f' := f - 1) rfl dX9_value_16 (Nat.le_of_ble_eq_true rfl) (by omega) (c_isName) ?_
      refine ex_if_eq 44 dX9_value_19 (by decide) (fun h19 => ?_) (fun h19 => ?_)
      · simp only [bi_0, Bool.not_eq_false] at h19
        refine ex_bipush (v := (-3)) dX9_value_44 (by decide) ?_
        refine ex_iret dX9_value_46 rfl ?_
        exact ⟨rfl, rfl, rfl, hS, Sam.rf⟩
      · simp only [bi_0, Bool.not_eq_false] at h19
        refine il3 dX9_value_22 ?_
        refine ex_if_lt 44 dX9_value_23 (by decide) (fun h23 => ?_) (fun h23 => ?_)
        · refine ex_bipush (v := (-3)) dX9_value_44 (by decide) ?_
          refine ex_iret dX9_value_46 rfl ?_
          exact ⟨rfl, rfl, rfl, hS, Sam.rf⟩
        · refine il3 dX9_value_26 ?_
          refine ex_iconst (v := 4) dX9_value_27 (by decide) ?_
          refine ex_icmp_ge 44 dX9_value_28 (by decide) (fun h28 => ?_) (fun h28 => ?_)
          · refine ex_bipush (v := (-3)) dX9_value_44 (by decide) ?_
            refine ex_iret dX9_value_46 rfl ?_
            exact ⟨rfl, rfl, rfl, hS, Sam.rf⟩
          · refine il3 dX9_value_31 ?_
            refine al5 dX9_value_32 (by first | nofun | exact xrv_ne _) ?_
            refine gf9_124 rfl dX9_value_34 (h3) hq ?_
            refine il2 dX9_value_37 ?_
            refine cd9_128 (f' := f - 1) rfl dX9_value_38 (Nat.le_of_ble_eq_true rfl) hrw.1 (by omega) (c_len (by omega) (rw_rk hrw)) ?_
            refine ex_icmp_le 47 dX9_value_41 (by decide) (fun h41 => ?_) (fun h41 => ?_)
            · exact (hcon h19 h23 h28 h41).elim
            · refine ex_bipush (v := (-3)) dX9_value_44 (by decide) ?_
              refine ex_iret dX9_value_46 rfl ?_
              exact ⟨rfl, rfl, rfl, hS, Sam.rf⟩
    · have hn : sIn n 0 11 = true := by
        cases q : sIn n 0 11
        · exact absurd (Or.inl q) hC
        · rfl
      have hi3 : sIn i 0 3 = true := by
        cases q : sIn i 0 3
        · exact absurd (Or.inr (Or.inl q)) hC
        · rfl
      have hil : i ≤ E 15 (ix (12 * t + n)) := Classical.byContradiction fun q => hC (Or.inr (Or.inr q))
      have hn12 := vi_n11 hn
      obtain ⟨en, ln⟩ := vi_n hn12 (by decide)
      have hi4 := vi_n3 hi3
      obtain ⟨ei, li⟩ := vi_n hi4 (by decide)
      have e12 : ix (12 * t + n) = 12 * ix t + ix n := by
        conv => lhs; rw [ev]
        exact ix_12 v41 hn12
      have e16 : ix (4 * (12 * t + n) + i) = 4 * (12 * ix t + ix n) + ix i := by
        conv => lhs; rw [ev, en, ei]
        exact ix_16 v41 ln li
      rw [e12] at hil
      have h15 := hS.B.a15 (t := 12 * ix t + ix n) (by omega)
      obtain ⟨e15, l15⟩ := vi_n h15 (by decide)
      have hlen : rLen D (b + 1) n = E 15 (12 * ix t + ix n) := by
        rw [rw_len hrw v41]
        unfold sRowAt
        rw [if_pos hn, ix_12 v41 hn12]
      have hR5 := rw_Rv hrw (fun t ht => hS.B.a15 ht) v41
      have i0 : 0 ≤ i := vi_0le hi4
      have i4 : ¬ 4 ≤ i := vi_not (n := 4) hi4 (by decide)
      rw [show sValue E t n i x = (if i = E 15 (12 * ix t + ix n) then i + 1 else E 15 (12 * ix t + ix n), xdu (xdu E 16 (4 * (12 * ix t + ix n) + ix i) x) 15 (12 * ix t + ix n) (if i = E 15 (12 * ix t + ix n) then i + 1 else E 15 (12 * ix t + ix n))) from by unfold sValue; rw [if_neg (by rw [hv]; decide), if_neg hC, e12, e16]]
      by_cases he : i = E 15 (12 * ix t + ix n)
      · have eix : ix i = ix (E 15 (12 * ix t + ix n)) := by rw [← he]
        obtain ⟨hS1, hM1, hL⟩ := Sim_addv (x := x) hS v1 vle hb hth ln (by omega)
        rw [← eix] at hS1 hL
        have e1 : i + 1 = nI (ix i + 1) := vi_s hi4 (by decide)
        have hlen2 : rLen (cAdd D (b + 1) (ix n) x) (b + 1) n = i + 1 := by
          unfold rLen
          rw [if_pos hn, e1]
          exact hL
        rw [if_pos he, e1]
        rw [e1] at hlen2
        have hadd := c_radd1 (Γ := Γ) (l := l) (f := f - 1) (v := x) (by omega) (rw_rk hrw) hR5 ln
        rw [← en] at hadd
        refine al0 dX9_value_0 (by first | nofun | exact xrv_ne _) ?_
        refine il1 dX9_value_1 ?_
        refine cd9_115 (f' := f - 1) rfl dX9_value_2 (Nat.le_of_ble_eq_true rfl) (fx0 hS.X) (by omega) (c_thing_y hS.X hS.n8 (by rw [hS.A.1]; exact hv) hb) ?_
        refine as5 dX9_value_5 (by first | nofun | exact xrv_ne _) ?_
        refine al5 dX9_value_7 (by first | nofun | exact xrv_ne _) ?_
        refine ex_ifnonnull 15 dX9_value_9 (by decide) ?_
        refine il2 dX9_value_15 ?_
        refine cd9_119 (f' := f - 1) rfl dX9_value_16 (Nat.le_of_ble_eq_true rfl) (by omega) (c_isName) ?_
        refine ex_if_eq 44 dX9_value_19 (by decide) (fun h19 => ?_) (fun h19 => ?_)
        · rw [hn] at h19; exact absurd h19 (by decide)
        · simp only [bi_0, Bool.not_eq_false] at h19
          refine il3 dX9_value_22 ?_
          refine ex_if_lt 44 dX9_value_23 (by decide) (fun h23 => ?_) (fun h23 => ?_)
          · exact absurd i0 h23
          · refine il3 dX9_value_26 ?_
            refine ex_iconst (v := 4) dX9_value_27 (by decide) ?_
            refine ex_icmp_ge 44 dX9_value_28 (by decide) (fun h28 => ?_) (fun h28 => ?_)
            · exact absurd h28 i4
            · refine il3 dX9_value_31 ?_
              refine al5 dX9_value_32 (by first | nofun | exact xrv_ne _) ?_
              refine gf9_124 rfl dX9_value_34 (h3) hq ?_
              refine il2 dX9_value_37 ?_
              refine cd9_128 (f' := f - 1) rfl dX9_value_38 (Nat.le_of_ble_eq_true rfl) hrw.1 (by omega) (c_len (by omega) (rw_rk hrw)) ?_
              rw [hlen]
              refine ex_icmp_le 47 dX9_value_41 (by decide) (fun h41 => ?_) (fun h41 => ?_)
              · refine il3 dX9_value_47 ?_
                refine al5 dX9_value_48 (by first | nofun | exact xrv_ne _) ?_
                refine gf9_124 rfl dX9_value_50 (h3) hq ?_
                refine il2 dX9_value_53 ?_
                refine cd9_128 (f' := f - 1) rfl dX9_value_54 (Nat.le_of_ble_eq_true rfl) hrw.1 (by omega) (c_len (by omega) (rw_rk hrw)) ?_
                rw [hlen]
                refine ex_icmp_ne 74 dX9_value_57 (by decide) (fun h57 => ?_) (fun h57 => ?_)
                · exact absurd he h57
                · refine al5 dX9_value_60 (by first | nofun | exact xrv_ne _) ?_
                  refine gf9_124 rfl dX9_value_62 (h3) hq ?_
                  refine il2 dX9_value_65 ?_
                  refine il4 dX9_value_66 ?_
                  refine cd9_132 (f' := f - 1) rfl dX9_value_68 (Nat.le_of_ble_eq_true rfl) hrw.1 (by omega) (hadd) ?_
                  refine ex_goto 86 dX9_value_71 (by decide) ?_
                  refine al5 dX9_value_86 (by first | nofun | exact xrv_ne _) ?_
                  refine gf9_124 rfl dX9_value_88 (h3) hq ?_
                  refine il2 dX9_value_91 ?_
                  refine cd9_128 (f' := f - 1) rfl dX9_value_92 (Nat.le_of_ble_eq_true rfl) hrw.1 (by omega) (c_len (by omega) (rw_rk hrw)) ?_
                  refine ex_iret dX9_value_95 rfl ?_
                  refine ⟨?_, rfl, rfl, hS1, hM1⟩
                  rw [hlen2]
              · exact absurd hil h41
      · have hlt : ix i < ix (E 15 (12 * ix t + ix n)) := by
          rw [ei, e15] at hil
          have := (nI_leI (by omega) (by omega)).mp hil
          have hne : ix i ≠ ix (E 15 (12 * ix t + ix n)) := fun q => he (by rw [ei, q]; exact e15.symm)
          omega
        rw [if_neg he, xdu_same (by rw [xdu_ne _ _ _ (by decide)])]
        obtain ⟨hS1, hM1⟩ := Sim_write (x := x) hS v1 vle hb hth ln li
        have hput := c_rput (Γ := Γ) (l := l) (f := f - 1) (v := x) (by omega) (rw_rk hrw) ln (hR5 (ix n) ln) (i := ix i) (by show ix i < ix (D (b + 2) (ix n)); rw [(hrw.2.2.2.2.2 (ix n) ln).1]; exact hlt)
        rw [← en, ← ei] at hput
        have hlen2 : rLen (xdu D (b + 1 + 2) (4 * ix n + ix i) x) (b + 1) n = E 15 (12 * ix t + ix n) := by
          rw [← hlen]
          unfold rLen
          rw [xdu_ne _ _ _ (by omega)]
        refine al0 dX9_value_0 (by first | nofun | exact xrv_ne _) ?_
        refine il1 dX9_value_1 ?_
        refine cd9_115 (f' := f - 1) rfl dX9_value_2 (Nat.le_of_ble_eq_true rfl) (fx0 hS.X) (by omega) (c_thing_y hS.X hS.n8 (by rw [hS.A.1]; exact hv) hb) ?_
        refine as5 dX9_value_5 (by first | nofun | exact xrv_ne _) ?_
        refine al5 dX9_value_7 (by first | nofun | exact xrv_ne _) ?_
        refine ex_ifnonnull 15 dX9_value_9 (by decide) ?_
        refine il2 dX9_value_15 ?_
        refine cd9_119 (f' := f - 1) rfl dX9_value_16 (Nat.le_of_ble_eq_true rfl) (by omega) (c_isName) ?_
        refine ex_if_eq 44 dX9_value_19 (by decide) (fun h19 => ?_) (fun h19 => ?_)
        · rw [hn] at h19; exact absurd h19 (by decide)
        · simp only [bi_0, Bool.not_eq_false] at h19
          refine il3 dX9_value_22 ?_
          refine ex_if_lt 44 dX9_value_23 (by decide) (fun h23 => ?_) (fun h23 => ?_)
          · exact absurd i0 h23
          · refine il3 dX9_value_26 ?_
            refine ex_iconst (v := 4) dX9_value_27 (by decide) ?_
            refine ex_icmp_ge 44 dX9_value_28 (by decide) (fun h28 => ?_) (fun h28 => ?_)
            · exact absurd h28 i4
            · refine il3 dX9_value_31 ?_
              refine al5 dX9_value_32 (by first | nofun | exact xrv_ne _) ?_
              refine gf9_124 rfl dX9_value_34 (h3) hq ?_
              refine il2 dX9_value_37 ?_
              refine cd9_128 (f' := f - 1) rfl dX9_value_38 (Nat.le_of_ble_eq_true rfl) hrw.1 (by omega) (c_len (by omega) (rw_rk hrw)) ?_
              rw [hlen]
              refine ex_icmp_le 47 dX9_value_41 (by decide) (fun h41 => ?_) (fun h41 => ?_)
              · refine il3 dX9_value_47 ?_
                refine al5 dX9_value_48 (by first | nofun | exact xrv_ne _) ?_
                refine gf9_124 rfl dX9_value_50 (h3) hq ?_
                refine il2 dX9_value_53 ?_
                refine cd9_128 (f' := f - 1) rfl dX9_value_54 (Nat.le_of_ble_eq_true rfl) hrw.1 (by omega) (c_len (by omega) (rw_rk hrw)) ?_
                rw [hlen]
                refine ex_icmp_ne 74 dX9_value_57 (by decide) (fun h57 => ?_) (fun h57 => ?_)
                · refine al5 dX9_value_74 (by first | nofun | exact xrv_ne _) ?_
                  refine gf9_124 rfl dX9_value_76 (h3) hq ?_
                  refine il2 dX9_value_79 ?_
                  refine il3 dX9_value_80 ?_
                  refine il4 dX9_value_81 ?_
                  refine cd9_135 (f' := f - 1) rfl dX9_value_83 (Nat.le_of_ble_eq_true rfl) hrw.1 (by omega) (hput) ?_
                  refine al5 dX9_value_86 (by first | nofun | exact xrv_ne _) ?_
                  refine gf9_124 rfl dX9_value_88 (h3) hq ?_
                  refine il2 dX9_value_91 ?_
                  refine cd9_128 (f' := f - 1) rfl dX9_value_92 (Nat.le_of_ble_eq_true rfl) hrw.1 (by omega) (c_len (by omega) (rw_rk hrw)) ?_
                  refine ex_iret dX9_value_95 rfl ?_
                  refine ⟨?_, rfl, rfl, hS1, hM1⟩
                  rw [hlen2]
                · exact absurd h57 he
              · exact absurd hil h41
  · have hv := nb hv
    rw [show sValue E t n i x = (-2, E) from by unfold sValue; rw [if_pos hv]]
    refine al0 dX9_value_0 (by first | nofun | exact xrv_ne _) ?_
    refine il1 dX9_value_1 ?_
    refine cd9_115 (f' := f - 1) rfl dX9_value_2 (Nat.le_of_ble_eq_true rfl) (fx0 hS.X) (by omega) (c_thing_n hS.X hS.n8 (by rw [hS.A.1]; exact hv)) ?_
    refine as5 dX9_value_5 (by first | nofun | exact xrv_ne _) ?_
    refine al5 dX9_value_7 (by first | nofun | exact xrv_ne _) ?_
    refine ex_ifnonnullN dX9_value_9 ?_
    refine ex_bipush (v := (-2)) dX9_value_12 (by decide) ?_
    refine ex_iret dX9_value_14 rfl ?_
    exact ⟨rfl, rfl, rfl, hS, Sam.rf⟩
theorem Sim_called {D : xD} {R : xR} {G : xG} {E : xD} {v b : Nat} {x p : Int32} {ot : Option Nat} (h : Sim D R G E) (v1 : 1 ≤ v) (v2 : v ≤ ix (E 0 14)) (hb : R 1 (v - 1) = some b) (hth : th D R G b E v) (hx : (x = 0 ∧ ot = none) ∨ (¬ x = 0 ∧ ot = R 2 (ix x - 101) ∧ 101 ≤ x ∧ x ≤ 100 + E 0 3)) (hp : p = 0 ∨ p = 1) : Sim (xdu D b 6 p) (xru R b 5 ot) G (xdu (xdu E 17 v x) 18 v p) ∧ Sam D (xdu D b 6 p) := by
  have v41 : v < 41 := by have := (vi_n h.B.n14 (by decide)).2; omega
  have ej : ∀ j, j ≠ 17 → j ≠ 18 → xdu (xdu E 17 v x) 18 v p j = E j := fun j a b => by rw [xdu_ne _ _ _ b, xdu_ne _ _ _ a]
  have f17 : xdu (xdu E 17 v x) 18 v p 17 = upd (E 17) v x := by rw [xdu_ne _ _ _ (by decide), xdu_self]
  have f18 : xdu (xdu E 17 v x) 18 v p 18 = upd (E 18) v p := by rw [xdu_self, xdu_ne _ _ _ (by decide)]
  have e0 := ej 0 (by decide) (by decide)
  have hI : Iv (xdu (xdu E 17 v x) 18 v p) := by
    refine Iv_b h.I (by rw [e0]; exact ⟨h.B.n1, h.B.n3, h.B.n6, h.B.n11, h.B.n27, h.B.n29, h.B.n41⟩) (by rw [e0]) (by rw [ej 2 (by decide) (by decide)]; exact fun t ht => h.B.a2 ht) (by rw [ej 4 (by decide) (by decide)]; exact fun t ht => h.B.a4 ht) (by rw [ej 8 (by decide) (by decide)]; exact fun t ht => h.B.a8 ht) (by rw [ej 5 (by decide) (by decide)]; exact fun t ht => h.B.a5 ht) (by rw [ej 15 (by decide) (by decide)]; exact fun t ht => h.B.a15 ht) ?_ (ej 10 (by decide) (by decide)) (ej 12 (by decide) (by decide)) (ej 13 (by decide) (by decide)) (ej 14 (by decide) (by decide)) (ej 19 (by decide) (by decide)) (ej 20 (by decide) (by decide)) (ej 21 (by decide) (by decide))
    rw [f17, e0]
    intro t ht
    unfold upd
    split
    · exact hx.elim (fun q => Or.inl q.1) (fun q => Or.inr q.2.2)
    · exact h.B.a17 ht
  have hF : Fsh (xdu (xdu E 17 v x) 18 v p) := by
    have z := h.F
    unfold Fsh at z ⊢
    rw [e0, ej 4 (by decide) (by decide), ej 9 (by decide) (by decide), ej 10 (by decide) (by decide), ej 11 (by decide) (by decide), ej 12 (by decide) (by decide), ej 15 (by decide) (by decide), f17, f18]
    refine ⟨z.1, z.2.1, fun u a c => ?_, fun u hu => ⟨(z.2.2.2.1 u hu).1, (z.2.2.2.1 u hu).2.1, ?_⟩, z.2.2.2.2⟩
    · rw [upd_ne _ _ (by omega), upd_ne _ _ (by omega)]
      exact z.2.2.1 u a c
    · unfold upd
      split
      · exact hp
      · exact (z.2.2.2.1 u hu).2.2
  obtain ⟨c2, c3, c4, ⟨q, q1, q2⟩, r1, r2, r3, r4, r5, r6⟩ := hth
  have xr : ∀ a k, ¬ (a = b ∧ k = 5) → xru R b 5 ot a k = R a k := fun a k hk => by
    unfold xru
    split
    next e =>
      subst e
      rw [va_up_ne _ _ (fun z => hk ⟨rfl, z⟩)]
    next => rfl
  have xs : xru R b 5 ot b 5 = ot := by
    unfold xru
    rw [if_pos rfl, va_up_self]
  refine Sim_th (D' := xdu D b 6 p) (R' := xru R b 5 ot) h v1 v2 hb (fun a a1 _ _ => xdu_ne _ _ _ a1) xr hI hF (fun j _ _ _ a c => ej j a c) (fun u hu => by rw [f17, f18, upd_ne _ _ hu, upd_ne _ _ hu, ej 11 (by decide) (by decide)]; exact ⟨rfl, rfl, rfl⟩) (fun u n _ _ _ => by rw [ej 15 (by decide) (by decide)]) (fun u n i _ _ _ _ _ => by rw [ej 16 (by decide) (by decide)]) ?_
  refine ⟨⟨c2.1, by rw [xr b 3 (by omega)]; exact c2.2⟩, ?_, ?_, ⟨q, by rw [xr b 1 (by omega)]; exact q1, ?_⟩, r1, ?_, ?_, r4, r5, ?_⟩
  · rw [xdu_self, upd_ne _ _ (by decide), upd_ne _ _ (by decide), upd_ne _ _ (by decide), upd_self, f18, upd_self, ej 10 (by decide) (by decide), ej 11 (by decide) (by decide), ej 12 (by decide) (by decide)]
    exact ⟨c3.1, c3.2.1, c3.2.2.1, rfl⟩
  · rw [xs, f17, upd_self, show xru R b 5 ot 2 = R 2 from funext (fun k => xr 2 k (fun z => fx_n6 h.X (by decide) c2.1 z.1))]
    exact hx.imp id (fun z => ⟨z.1, z.2.1⟩)
  · unfold ln at q2 ⊢
    rw [xdu_ne D _ _ (xis_ne q2.1 c2.1 (by decide)), xdu_ne D _ _ (Ne.symm (xis_xia c2.1 q2.2.2.1 (by decide))), ej 13 (by decide) (by decide), ej 14 (by decide) (by decide), xr q 0 (fun z => by omega)]
    exact q2
  · rw [xr (b + 1) 0 (fun z => by omega)]; exact r2
  · rw [xr (b + 1) 1 (fun z => by omega)]; exact r3
  · rw [xdu_ne D _ _ (show b + 2 ≠ b by omega), xdu_ne D _ _ (show b + 3 ≠ b by omega), ej 15 (by decide) (by decide), ej 16 (by decide) (by decide)]
    exact r6
set_option maxRecDepth 20000 in
set_option maxHeartbeats 1000000 in
theorem c_called {Γ : xGm} {l : Launch} {f : Nat} {G : xG} {D E : xD} {R : xR} (hf : 2 ≤ f) (hS : Sim D R G E) {t x p : Int32} (hp : p = 0 ∨ p = 1) : Cn Γ l f MX9_called [.ref 0, .int t, .int x, .int p] G D R 0 0 (Sa D (some (.int (sCalled E t x p).1)) (sCalled E t x p).2) := by
  refine cn_of MX9_called_ok (Nat.le_of_ble_eq_true rfl) ?_
  show Ex Γ l f MX9_called 0 [some (.ref 0), some (.int t), some (.int x), some (.int p), none, none] [] G D R 0 0 _
  by_cases hv : sIn t 1 (E 0 14) = true
  · obtain ⟨b, hb, hth, ev, v1, v41, vle⟩ := sim_th hS hv
    obtain ⟨⟨hq, h3⟩, ⟨d0, d2, d4, d6⟩, htx, ⟨lq, hlq, hln⟩, hrw⟩ := id hth
    by_cases hv2 : sIn x 101 (100 + E 0 3) = true
    · obtain ⟨bt, hbt, htt⟩ := sim_tx hS hv2
      have m3 := (meta_3 hS.B).mpr hv2
      have x0 : ¬ x = 0 := fun q => by
        have := (sIn_t.mp hv2).1
        rw [q] at this
        exact absurd this (by decide)
      have eix : ix x - 101 = ix (x - 101) := by
        have h3 := (sIn_b (b := 100) hv2 hS.B.n3 (by decide) (by decide))
        have l := (vi_n h3.1 (by decide)).2
        have e := h3.2.2
        conv => lhs; rw [e]
        rw [ix_nI (by omega)]
        show 101 + ix (x - 101) - 101 = ix (x - 101)
        omega
      rw [show sCalled E t x p = (1, xdu (xdu E 17 (ix t) x) 18 (ix t) p) from by unfold sCalled; rw [if_neg (fun q => q.elim (fun z => by rw [hv] at z; cases z) (fun z => z.2 m3))]]
      obtain ⟨hS1, hM1⟩ := Sim_called (x := x) (p := p) (ot := some bt) hS v1 vle hb hth (Or.inr ⟨x0, by rw [eix]; exact hbt.symm, sIn_t.mp hv2⟩) hp
      refine al0 dX9_called_0 (by first | nofun | exact xrv_ne _) ?_
      refine il1 dX9_called_1 ?_
      refine cd9_115 (f' := f - 1) rfl dX9_called_2 (Nat.le_of_ble_eq_true rfl) (fx0 hS.X) (by omega) (c_thing_y hS.X hS.n8 (by rw [hS.A.1]; exact hv) hb) ?_
      refine as4 dX9_called_5 (by first | nofun | exact xrv_ne _) ?_
      refine al0 dX9_called_7 (by first | nofun | exact xrv_ne _) ?_
      refine il2 dX9_called_8 ?_
      refine cd9_143 (f' := f - 1) rfl dX9_called_9 (Nat.le_of_ble_eq_true rfl) (fx0 hS.X) (by omega) (c_text_y hS.X hS.n9 (by rw [hS.A.2.1]; exact hv2) hbt) ?_
      refine as5 dX9_called_12 (by first | nofun | exact xrv_ne _) ?_
      refine al4 dX9_called_14 (by first | nofun | exact xrv_ne _) ?_
      refine ex_ifnull dX9_called_16 ?_
      refine il2 dX9_called_19 ?_
      refine ex_if_eq 31 dX9_called_20 (by decide) (fun h20 => ?_) (fun h20 => ?_)
      · exact absurd h20 x0
      · refine al5 dX9_called_23 (by first | nofun | exact xrv_ne _) ?_
        refine ex_ifnonnull 31 dX9_called_25 (by decide) ?_
        refine al4 dX9_called_31 (by first | nofun | exact xrv_ne _) ?_
        refine al5 dX9_called_33 (by first | nofun | exact xrv_ne _) ?_
        refine pf9_147 (some bt) rfl dX9_called_35 rfl (fun r hr => by cases hr; exact htt.1.1) hq ?_
        refine al4 dX9_called_38 (by first | nofun | exact xrv_ne _) ?_
        refine il3 dX9_called_40 ?_
        refine pf9_150 rfl dX9_called_41 hp hq ?_
        refine ex_iconst (v := 1) dX9_called_44 (by decide) ?_
        refine ex_iret dX9_called_45 rfl ?_
        exact ⟨rfl, hS1, hM1⟩
    · have hv2 := nb hv2
      by_cases x0 : x = 0
      · rw [show sCalled E t x p = (1, xdu (xdu E 17 (ix t) x) 18 (ix t) p) from by unfold sCalled; rw [if_neg (fun q => q.elim (fun z => by rw [hv] at z; cases z) (fun z => z.1 x0))]]
        obtain ⟨hS1, hM1⟩ := Sim_called (x := x) (p := p) (ot := none) hS v1 vle hb hth (Or.inl ⟨x0, rfl⟩) hp
        refine al0 dX9_called_0 (by first | nofun | exact xrv_ne _) ?_
        refine il1 dX9_called_1 ?_
        refine cd9_115 (f' := f - 1) rfl dX9_called_2 (Nat.le_of_ble_eq_true rfl) (fx0 hS.X) (by omega) (c_thing_y hS.X hS.n8 (by rw [hS.A.1]; exact hv) hb) ?_
        refine as4 dX9_called_5 (by first | nofun | exact xrv_ne _) ?_
        refine al0 dX9_called_7 (by first | nofun | exact xrv_ne _) ?_
        refine il2 dX9_called_8 ?_
        refine cd9_143 (f' := f - 1) rfl dX9_called_9 (Nat.le_of_ble_eq_true rfl) (fx0 hS.X) (by omega) (c_text_n hS.X hS.n9 (by rw [hS.A.2.1]; exact hv2)) ?_
        refine as5 dX9_called_12 (by first | nofun | exact xrv_ne _) ?_
        refine al4 dX9_called_14 (by first | nofun | exact xrv_ne _) ?_
        refine ex_ifnull dX9_called_16 ?_
        refine il2 dX9_called_19 ?_
        refine ex_if_eq 31 dX9_called_20 (by decide) (fun h20 => ?_) (fun h20 => ?_)
        · refine al4 dX9_called_31 (by first | nofun | exact xrv_ne _) ?_
          refine al5 dX9_called_33 (by first | nofun | exact xrv_ne _) ?_
          refine pf9_147 none rfl dX9_called_35 rfl (fun r hr => by cases hr) hq ?_
          refine al4 dX9_called_38 (by first | nofun | exact xrv_ne _) ?_
          refine il3 dX9_called_40 ?_
          refine pf9_150 rfl dX9_called_41 hp hq ?_
          refine ex_iconst (v := 1) dX9_called_44 (by decide) ?_
          refine ex_iret dX9_called_45 rfl ?_
          exact ⟨rfl, hS1, hM1⟩
        · exact absurd x0 h20
      · rw [show sCalled E t x p = (-2, E) from by unfold sCalled; rw [if_pos (Or.inr ⟨x0, fun q => by rw [(meta_3 hS.B).mp q] at hv2; cases hv2⟩)]]
        refine al0 dX9_called_0 (by first | nofun | exact xrv_ne _) ?_
        refine il1 dX9_called_1 ?_
        refine cd9_115 (f' := f - 1) rfl dX9_called_2 (Nat.le_of_ble_eq_true rfl) (fx0 hS.X) (by omega) (c_thing_y hS.X hS.n8 (by rw [hS.A.1]; exact hv) hb) ?_
        refine as4 dX9_called_5 (by first | nofun | exact xrv_ne _) ?_
        refine al0 dX9_called_7 (by first | nofun | exact xrv_ne _) ?_
        refine il2 dX9_called_8 ?_
        refine cd9_143 (f' := f - 1) rfl dX9_called_9 (Nat.le_of_ble_eq_true rfl) (fx0 hS.X) (by omega) (c_text_n hS.X hS.n9 (by rw [hS.A.2.1]; exact hv2)) ?_
        refine as5 dX9_called_12 (by first | nofun | exact xrv_ne _) ?_
        refine al4 dX9_called_14 (by first | nofun | exact xrv_ne _) ?_
        refine ex_ifnull dX9_called_16 ?_
        refine il2 dX9_called_19 ?_
        refine ex_if_eq 31 dX9_called_20 (by decide) (fun h20 => ?_) (fun h20 => ?_)
        · exact absurd h20 x0
        · refine al5 dX9_called_23 (by first | nofun | exact xrv_ne _) ?_
          refine ex_ifnonnullN dX9_called_25 ?_
          refine ex_bipush (v := (-2)) dX9_called_28 (by decide) ?_
          refine ex_iret dX9_called_30 rfl ?_
          exact ⟨rfl, hS, Sam.rf⟩
  · have hv := nb hv
    rw [show sCalled E t x p = (-2, E) from by unfold sCalled; rw [if_pos (Or.inl hv)]]
    by_cases hv2 : sIn x 101 (100 + E 0 3) = true
    · obtain ⟨bt, hbt, htt⟩ := sim_tx hS hv2
      refine al0 dX9_called_0 (by first | nofun | exact xrv_ne _) ?_
      refine il1 dX9_called_1 ?_
      refine cd9_115 (f' := f - 1) rfl dX9_called_2 (Nat.le_of_ble_eq_true rfl) (fx0 hS.X) (by omega) (c_thing_n hS.X hS.n8 (by rw [hS.A.1]; exact hv)) ?_
      refine as4 dX9_called_5 (by first | nofun | exact xrv_ne _) ?_
      refine al0 dX9_called_7 (by first | nofun | exact xrv_ne _) ?_
      refine il2 dX9_called_8 ?_
      refine cd9_143 (f' := f - 1) rfl dX9_called_9 (Nat.le_of_ble_eq_true rfl) (fx0 hS.X) (by omega) (c_text_y hS.X hS.n9 (by rw [hS.A.2.1]; exact hv2) hbt) ?_
      refine as5 dX9_called_12 (by first | nofun | exact xrv_ne _) ?_
      refine al4 dX9_called_14 (by first | nofun | exact xrv_ne _) ?_
      refine ex_ifnullN 28 dX9_called_16 (by decide) ?_
      refine ex_bipush (v := (-2)) dX9_called_28 (by decide) ?_
      refine ex_iret dX9_called_30 rfl ?_
      exact ⟨rfl, hS, Sam.rf⟩
    · have hv2 := nb hv2
      refine al0 dX9_called_0 (by first | nofun | exact xrv_ne _) ?_
      refine il1 dX9_called_1 ?_
      refine cd9_115 (f' := f - 1) rfl dX9_called_2 (Nat.le_of_ble_eq_true rfl) (fx0 hS.X) (by omega) (c_thing_n hS.X hS.n8 (by rw [hS.A.1]; exact hv)) ?_
      refine as4 dX9_called_5 (by first | nofun | exact xrv_ne _) ?_
      refine al0 dX9_called_7 (by first | nofun | exact xrv_ne _) ?_
      refine il2 dX9_called_8 ?_
      refine cd9_143 (f' := f - 1) rfl dX9_called_9 (Nat.le_of_ble_eq_true rfl) (fx0 hS.X) (by omega) (c_text_n hS.X hS.n9 (by rw [hS.A.2.1]; exact hv2)) ?_
      refine as5 dX9_called_12 (by first | nofun | exact xrv_ne _) ?_
      refine al4 dX9_called_14 (by first | nofun | exact xrv_ne _) ?_
      refine ex_ifnullN 28 dX9_called_16 (by decide) ?_
      refine ex_bipush (v := (-2)) dX9_called_28 (by decide) ?_
      refine ex_iret dX9_called_30 rfl ?_
      exact ⟨rfl, hS, Sam.rf⟩
