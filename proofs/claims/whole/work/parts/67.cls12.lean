/-! ===== sending: the class goes as the functions do ===== -/
theorem sq_k {G : xG} {R : xR} {D E' : xD} {v0 : Option Value} {P : Option Value → xG → xD → xR → Prop} (h : ∀ D', Sim D' R G E' → Sam D D' → P v0 G D' R) : ∀ v G' D' R', Sq G R D v0 E' v G' D' R' → P v G' D' R' := by
  rintro v G' D' R' ⟨rfl, rfl, rfl, a, b⟩
  exact h D' a b
theorem big_n1 {E : xD} (hB : RB E) {v : Int32} (h : 101 ≤ v) : sIn v 1 (E 0 14) = false := by
  cases q : sIn v 1 (E 0 14)
  · rfl
  · obtain ⟨e, -, h2, -⟩ := sIn_1 q hB.n14
    rw [e] at h
    have := (nI_leI (a := 101) (b := ix v) (by decide) (by omega)).mp h
    omega
theorem big_off {v n : Int32} {b c N : Nat} (hn : vp_in n (N + 1)) (hb : b + N < c) (hc : c < 2 ^ 20) (h : nI c ≤ v) : sIn v (nI (b + 1)) (nI b + n) = false := by
  cases q : sIn v (nI (b + 1)) (nI b + n)
  · rfl
  · obtain ⟨h1, h2, h3⟩ := sIn_b q hn (by omega) (by omega)
    have l := (vi_n hn (by omega)).2
    rw [h3] at h
    have := (nI_leI (a := c) (b := b + 1 + ix (v - nI (b + 1))) (by omega) (by omega)).mp h
    omega
theorem meta_3 {E : xD} (hB : RB E) {v : Int32} : sMeta E v = 3 ↔ sIn v 101 (100 + E 0 3) = true := by
  constructor
  · intro h
    unfold sMeta at h
    split at h
    · split at h
      · exact absurd h (by decide)
      · split at h <;> exact absurd h (by decide)
    · split at h
      next q => exact q
      next =>
        split at h
        · exact absurd h (by decide)
        · split at h <;> exact absurd h (by decide)
  · intro h
    unfold sMeta
    rw [big_n1 hB (sIn_t.mp h).1, h]
    rfl
theorem meta_4 {E : xD} (hB : RB E) {v : Int32} : sMeta E v = 4 ↔ sIn v 201 (200 + E 0 6) = true := by
  constructor
  · intro h
    unfold sMeta at h
    split at h
    · split at h
      · exact absurd h (by decide)
      · split at h <;> exact absurd h (by decide)
    · split at h
      · exact absurd h (by decide)
      · split at h
        next q => exact q
        next => split at h <;> exact absurd h (by decide)
  · intro h
    unfold sMeta
    rw [big_n1 hB (Int32.le_trans (by decide) (sIn_t.mp h).1), show sIn v 101 (100 + E 0 3) = false from big_off (b := 100) (c := 201) (N := 20) hB.n3 (by decide) (by decide) (sIn_t.mp h).1, h]
    rfl
theorem meta_5 {E : xD} (hB : RB E) {v : Int32} : sMeta E v = 5 ↔ sIn v 301 (300 + E 0 11) = true := by
  constructor
  · intro h
    exact sIn_t.mpr (sMeta_5 h)
  · intro h
    unfold sMeta
    rw [big_n1 hB (Int32.le_trans (by decide) (sIn_t.mp h).1), show sIn v 101 (100 + E 0 3) = false from big_off (b := 100) (c := 301) (N := 20) hB.n3 (by decide) (by decide) (sIn_t.mp h).1, show sIn v 201 (200 + E 0 6) = false from big_off (b := 200) (c := 301) (N := 20) hB.n6 (by decide) (by decide) (sIn_t.mp h).1, h]
    rfl
def Prun (Γ : xGm) (l : Launch) (G : xG) (R : xR) (N : Nat) (rn : xRn) (wi : Int32) : Prop := ∀ (f : Nat) (D E : xD) (v o w : Int32), N ≤ f → Sim D R G E → sMeta E v = 4 → Cn Γ l f MX9_run [.ref 0, .int v, .int o, .int w, .int wi] G D R 0 0 (Sq G R D (some (.int (rn E v o w).1)) (rn E v o w).2)
noncomputable def sAor (rn : xRn) (E : xD) (g o n w : Int32) : Int32 × xD := if sRowAt E g n = 0 then (0, sFails E 3 o n) else sDoes rn E (E 16 (ix (4 * (12 * g + n)))) o w
set_option maxRecDepth 20000 in
set_option maxHeartbeats 1000000 in
theorem c_aor {Γ : xGm} {l : Launch} {f : Nat} {G : xG} {D E : xD} {R : xR}  {N : Nat} {rn : xRn} {wi : Int32} (hN : 10 ≤ N) (hr : IKr rn) (hrun : Prun Γ l G R N rn wi) (hf : N + 1 ≤ f) (hS : Sim D R G E) {g b : Nat} {o n w : Int32} (g41 : g < 41) (hrw : rw_ D R G b E g) : Cn Γ l f MX9_answerOfRow [.ref 0, .ref (b + 1), .int o, .int n, .int w, .int wi] G D R 0 0 (Sq G R D (some (.int (sAor rn E (nI g) o n w).1)) (sAor rn E (nI g) o n w).2) := by
  refine cn_of MX9_answerOfRow_ok (Nat.le_of_ble_eq_true rfl) ?_
  show Ex Γ l f MX9_answerOfRow 0 [some (.ref 0), some (.ref (b + 1)), some (.int o), some (.int n), some (.int w), some (.int wi), none, none] [] G D R 0 0 _
  by_cases h0 : sRowAt E (nI g) n = 0
  · rw [show sAor rn E (nI g) o n w = (0, sFails E 3 o n) from by unfold sAor; rw [if_pos h0]]
    refine al1 dX9_answerOfRow_0 (by first | nofun | exact xrv_ne _) ?_
    refine il3 dX9_answerOfRow_1 ?_
    refine cd9_128 (f' := f - 1) rfl dX9_answerOfRow_2 (Nat.le_of_ble_eq_true rfl) hrw.1 (by omega) (c_len (by omega) (rw_rk hrw)) ?_
    rw [rw_len hrw g41]
    refine ex_if_ne 19 dX9_answerOfRow_5 (by decide) (fun h5 => ?_) (fun h5 => ?_)
    · exact absurd h0 h5
    · refine al0 dX9_answerOfRow_8 (by first | nofun | exact xrv_ne _) ?_
      refine gf9_57 rfl dX9_answerOfRow_9 (fr0_6 hS.X) (fx0 hS.X) ?_
      refine ex_iconst (v := 3) dX9_answerOfRow_12 (by decide) ?_
      refine il2 dX9_answerOfRow_13 ?_
      refine il3 dX9_answerOfRow_14 ?_
      refine cd9_175 (f' := f - 1) rfl dX9_answerOfRow_15 (Nat.le_of_ble_eq_true rfl) (fx13 hS.X) (by omega) (c_tell hS.X hS.n13) ?_
      refine ex_iret dX9_answerOfRow_18 rfl ?_
      exact ⟨rfl, rfl, rfl, (Sim_tell hS _ _ _).1, (Sim_tell hS _ _ _).2⟩
  · rw [show sAor rn E (nI g) o n w = sDoes rn E (E 16 (ix (4 * (12 * nI g + n)))) o w from by unfold sAor; rw [if_neg h0]]
    have hi : sIn n 0 11 = true := by
      cases q : sIn n 0 11
      · exact absurd (by unfold sRowAt; rw [q]; rfl) h0
      · rfl
    have hn12 := vi_n11 hi
    obtain ⟨en, ln⟩ := vi_n hn12 (by decide)
    have h15 := hS.B.a15 (t := 12 * g + ix n) (by omega)
    have er : sRowAt E (nI g) n = E 15 (12 * g + ix n) := by
      unfold sRowAt
      rw [hi, if_pos rfl, ix_12 g41 hn12]
    have hl0 : 0 < ix (E 15 (12 * g + ix n)) := by
      obtain ⟨e5, l5⟩ := vi_n h15 (by decide)
      have : ix (E 15 (12 * g + ix n)) ≠ 0 := fun q => h0 (by rw [er, e5, q]; rfl)
      omega
    have hR5 := rw_Rv hrw (fun t ht => hS.B.a15 ht) g41 (ix n) ln
    have hlen : 0 < ix (D (b + 1 + 1) (ix n)) := by
      show 0 < ix (D (b + 2) (ix n))
      rw [(hrw.2.2.2.2.2 (ix n) ln).1]
      exact hl0
    have eV : D (b + 1 + 2) (4 * ix n + 0) = E 16 (ix (4 * (12 * nI g + n))) := by
      show D (b + 3) (4 * ix n + 0) = _
      rw [(hrw.2.2.2.2.2 (ix n) ln).2 0 hl0]
      congr 1
      conv => rhs; rw [en]
      rw [ix12 g41 ln, show (4 : Int32) = nI 4 from rfl, pk_mul, ix_nI (by omega)]
      omega
    have hat := c_rat (Γ := Γ) (l := l) (f := f - 1) (by omega) (rw_rk hrw) ln hR5 hlen
    rw [eV, ← en] at hat
    generalize E 16 (ix (4 * (12 * nI g + n))) = V at hat ⊢
    by_cases hv2 : sIn V 101 (100 + E 0 3) = true
    · obtain ⟨t, bt, et, t20, tlt, eix, hb, htt⟩ := sim_text hS (sIn_t.mp hv2)
      have e101 : ix (V - 101) = t := by rw [et, ix_nI (by omega)]
      have m3 := (meta_3 hS.B).mpr hv2
      rw [show sDoes rn E V o w = (1, sSayText E V) from by unfold sDoes; rw [if_neg (by rw [m3]; decide), if_pos m3]]
      obtain ⟨hS1, hM1⟩ := Sim_oS hS (hS.I.sayText (x := V)) (fun j a b => sSayText_ne a b) (fun k a => sSayText_0 a)
      have hsay := c_sayT (Γ := Γ) (l := l) (f := f - 1) (E := E) (by omega) hS.X htt hS.B.n29
      rw [oS_id hS.ou, ← sayText_eq (E := E) et t20 rfl rfl (hS.B.a2 t20)] at hsay
      have hb : R 2 (ix (V - 101)) = some bt := by rw [e101]; exact hb
      refine al1 dX9_answerOfRow_0 (by first | nofun | exact xrv_ne _) ?_
      refine il3 dX9_answerOfRow_1 ?_
      refine cd9_128 (f' := f - 1) rfl dX9_answerOfRow_2 (Nat.le_of_ble_eq_true rfl) hrw.1 (by omega) (c_len (by omega) (rw_rk hrw)) ?_
      rw [rw_len hrw g41]
      refine ex_if_ne 19 dX9_answerOfRow_5 (by decide) (fun h5 => ?_) (fun h5 => ?_)
      · refine al1 dX9_answerOfRow_19 (by first | nofun | exact xrv_ne _) ?_
        refine il3 dX9_answerOfRow_20 ?_
        refine ex_iconst (v := 0) dX9_answerOfRow_21 (by decide) ?_
        refine cd9_168 (f' := f - 1) rfl dX9_answerOfRow_22 (Nat.le_of_ble_eq_true rfl) hrw.1 (by omega) (hat) ?_
        refine is6 dX9_answerOfRow_25 ?_
        refine al0 dX9_answerOfRow_27 (by first | nofun | exact xrv_ne _) ?_
        refine il6 dX9_answerOfRow_28 ?_
        refine cd9_143 (f' := f - 1) rfl dX9_answerOfRow_30 (Nat.le_of_ble_eq_true rfl) (fx0 hS.X) (by omega) (c_text_y hS.X hS.n9 (by rw [hS.A.2.1]; exact hv2) hb) ?_
        refine as7 dX9_answerOfRow_33 (by first | nofun | exact xrv_ne _) ?_
        refine al7 dX9_answerOfRow_35 (by first | nofun | exact xrv_ne _) ?_
        refine ex_ifnull dX9_answerOfRow_37 ?_
        refine al0 dX9_answerOfRow_40 (by first | nofun | exact xrv_ne _) ?_
        refine gf9_43 rfl dX9_answerOfRow_41 (fr0_5 hS.X) (fx0 hS.X) ?_
        refine al7 dX9_answerOfRow_44 (by first | nofun | exact xrv_ne _) ?_
        refine cd9_293 (f' := f - 1) rfl dX9_answerOfRow_46 (Nat.le_of_ble_eq_true rfl) (fx9 hS.X) (by omega) (hsay) ?_
        refine ex_iconst (v := 1) dX9_answerOfRow_49 (by decide) ?_
        refine ex_iret dX9_answerOfRow_50 rfl ?_
        exact ⟨rfl, rfl, rfl, hS1, hM1⟩
      · exact absurd h5 h0
    · have hv2 := nb hv2
      by_cases hv3 : sIn V 201 (200 + E 0 6) = true
      · obtain ⟨br, hb, hro, r20, -⟩ := sim_ro hS hv3
        have m4 := (meta_4 hS.B).mpr hv3
        rw [show sDoes rn E V o w = rn E V o w from by unfold sDoes; rw [if_pos m4]]
        refine al1 dX9_answerOfRow_0 (by first | nofun | exact xrv_ne _) ?_
        refine il3 dX9_answerOfRow_1 ?_
        refine cd9_128 (f' := f - 1) rfl dX9_answerOfRow_2 (Nat.le_of_ble_eq_true rfl) hrw.1 (by omega) (c_len (by omega) (rw_rk hrw)) ?_
        rw [rw_len hrw g41]
        refine ex_if_ne 19 dX9_answerOfRow_5 (by decide) (fun h5 => ?_) (fun h5 => ?_)
        · refine al1 dX9_answerOfRow_19 (by first | nofun | exact xrv_ne _) ?_
          refine il3 dX9_answerOfRow_20 ?_
          refine ex_iconst (v := 0) dX9_answerOfRow_21 (by decide) ?_
          refine cd9_168 (f' := f - 1) rfl dX9_answerOfRow_22 (Nat.le_of_ble_eq_true rfl) hrw.1 (by omega) (hat) ?_
          refine is6 dX9_answerOfRow_25 ?_
          refine al0 dX9_answerOfRow_27 (by first | nofun | exact xrv_ne _) ?_
          refine il6 dX9_answerOfRow_28 ?_
          refine cd9_143 (f' := f - 1) rfl dX9_answerOfRow_30 (Nat.le_of_ble_eq_true rfl) (fx0 hS.X) (by omega) (c_text_n hS.X hS.n9 (by rw [hS.A.2.1]; exact hv2)) ?_
          refine as7 dX9_answerOfRow_33 (by first | nofun | exact xrv_ne _) ?_
          refine al7 dX9_answerOfRow_35 (by first | nofun | exact xrv_ne _) ?_
          refine ex_ifnullN 51 dX9_answerOfRow_37 (by decide) ?_
          refine al0 dX9_answerOfRow_51 (by first | nofun | exact xrv_ne _) ?_
          refine il6 dX9_answerOfRow_52 ?_
          refine cd9_76 (f' := f - 1) rfl dX9_answerOfRow_54 (Nat.le_of_ble_eq_true rfl) (fx0 hS.X) (by omega) (c_routine_y hS.X hS.n10 (by rw [hS.A.2.2.1]; exact hv3) hb) ?_
          refine ex_ifnull dX9_answerOfRow_57 ?_
          refine al0 dX9_answerOfRow_60 (by first | nofun | exact xrv_ne _) ?_
          refine il6 dX9_answerOfRow_61 ?_
          refine il2 dX9_answerOfRow_63 ?_
          refine il4 dX9_answerOfRow_64 ?_
          refine il5 dX9_answerOfRow_66 ?_
          refine cs9_200 (f' := f - 1) rfl dX9_answerOfRow_68 (Nat.le_of_ble_eq_true rfl) (fx0 hS.X) (by omega) (Nat.zero_le _) (Nat.zero_le _) (hrun (f - 1) D E V o w (by omega) hS m4) ?_
          refine sq_k (fun D1 hS1 hM1 => ?_)
          refine ex_goto 76 dX9_answerOfRow_71 (by decide) ?_
          refine ex_iret dX9_answerOfRow_76 rfl ?_
          exact ⟨rfl, rfl, rfl, hS1, hM1⟩
        · exact absurd h5 h0
      · have hv3 := nb hv3
        rw [show sDoes rn E V o w = (V, E) from by unfold sDoes; rw [if_neg (fun q => by rw [(meta_4 hS.B).mp q] at hv3; cases hv3), if_neg (fun q => by rw [(meta_3 hS.B).mp q] at hv2; cases hv2)]]
        refine al1 dX9_answerOfRow_0 (by first | nofun | exact xrv_ne _) ?_
        refine il3 dX9_answerOfRow_1 ?_
        refine cd9_128 (f' := f - 1) rfl dX9_answerOfRow_2 (Nat.le_of_ble_eq_true rfl) hrw.1 (by omega) (c_len (by omega) (rw_rk hrw)) ?_
        rw [rw_len hrw g41]
        refine ex_if_ne 19 dX9_answerOfRow_5 (by decide) (fun h5 => ?_) (fun h5 => ?_)
        · refine al1 dX9_answerOfRow_19 (by first | nofun | exact xrv_ne _) ?_
          refine il3 dX9_answerOfRow_20 ?_
          refine ex_iconst (v := 0) dX9_answerOfRow_21 (by decide) ?_
          refine cd9_168 (f' := f - 1) rfl dX9_answerOfRow_22 (Nat.le_of_ble_eq_true rfl) hrw.1 (by omega) (hat) ?_
          refine is6 dX9_answerOfRow_25 ?_
          refine al0 dX9_answerOfRow_27 (by first | nofun | exact xrv_ne _) ?_
          refine il6 dX9_answerOfRow_28 ?_
          refine cd9_143 (f' := f - 1) rfl dX9_answerOfRow_30 (Nat.le_of_ble_eq_true rfl) (fx0 hS.X) (by omega) (c_text_n hS.X hS.n9 (by rw [hS.A.2.1]; exact hv2)) ?_
          refine as7 dX9_answerOfRow_33 (by first | nofun | exact xrv_ne _) ?_
          refine al7 dX9_answerOfRow_35 (by first | nofun | exact xrv_ne _) ?_
          refine ex_ifnullN 51 dX9_answerOfRow_37 (by decide) ?_
          refine al0 dX9_answerOfRow_51 (by first | nofun | exact xrv_ne _) ?_
          refine il6 dX9_answerOfRow_52 ?_
          refine cd9_76 (f' := f - 1) rfl dX9_answerOfRow_54 (Nat.le_of_ble_eq_true rfl) (fx0 hS.X) (by omega) (c_routine_n hS.X hS.n10 (by rw [hS.A.2.2.1]; exact hv3)) ?_
          refine ex_ifnullN 74 dX9_answerOfRow_57 (by decide) ?_
          refine il6 dX9_answerOfRow_74 ?_
          refine ex_iret dX9_answerOfRow_76 rfl ?_
          exact ⟨rfl, rfl, rfl, hS, Sam.rf⟩
        · exact absurd h5 h0
set_option maxRecDepth 20000 in
set_option maxHeartbeats 1000000 in
theorem c_sendO {Γ : xGm} {l : Launch} {f : Nat} {G : xG} {D E : xD} {R : xR}  {N : Nat} {rn : xRn} {wi : Int32} (hN : 10 ≤ N) (hr : IKr rn) (hrun : Prun Γ l G R N rn wi) (hf : N + 2 ≤ f) (hS : Sim D R G E) {o n w : Int32} (hM : sMeta E o = 2) : Cn Γ l f MX9_sendTo [.ref 0, .int o, .int n, .int w, .int wi] G D R 0 0 (Sq G R D (some (.int (sSendO rn E o n w).1)) (sSendO rn E o n w).2) := by
  refine cn_of MX9_sendTo_ok (Nat.le_of_ble_eq_true rfl) ?_
  show Ex Γ l f MX9_sendTo 0 [some (.ref 0), some (.int o), some (.int n), some (.int w), some (.int wi), none] [] G D R 0 0 _
  obtain ⟨b, hb, hth, ev, v1, v41, vle⟩ := sim_ans hS (Or.inr hM)
  obtain ⟨⟨hq, h3⟩, ⟨d0, d2, d4, d6⟩, htx, ⟨lq, hlq, hln⟩, hrw⟩ := id hth
  have ha := c_aor (w := w) (n := n) (o := o) (f := f - 1) hN hr hrun (by omega) hS v41 hrw
  rw [← ev] at ha
  change Cn Γ l (f - 1) MX9_answerOfRow _ G D R 0 0 (Sq G R D (some (.int (sSendO rn E o n w).1)) (sSendO rn E o n w).2) at ha
  refine al0 dX9_sendTo_0 (by first | nofun | exact xrv_ne _) ?_
  refine il1 dX9_sendTo_1 ?_
  refine cd9_217 (f' := f - 1) rfl dX9_sendTo_2 (Nat.le_of_ble_eq_true rfl) (fx0 hS.X) (by omega) (c_ans_y (by omega) hS (Or.inr hM) hb hth) ?_
  refine as5 dX9_sendTo_5 (by first | nofun | exact xrv_ne _) ?_
  refine al5 dX9_sendTo_7 (by first | nofun | exact xrv_ne _) ?_
  refine ex_ifnonnull 23 dX9_sendTo_9 (by decide) ?_
  refine al5 dX9_sendTo_23 (by first | nofun | exact xrv_ne _) ?_
  refine gf9_203 rfl dX9_sendTo_25 hq ?_
  rw [d0]
  refine ex_if_eq 41 dX9_sendTo_28 (by decide) (fun h28 => ?_) (fun h28 => ?_)
  · refine al0 dX9_sendTo_41 (by first | nofun | exact xrv_ne _) ?_
    refine al5 dX9_sendTo_42 (by first | nofun | exact xrv_ne _) ?_
    refine gf9_124 rfl dX9_sendTo_44 (h3) hq ?_
    refine il1 dX9_sendTo_47 ?_
    refine il2 dX9_sendTo_48 ?_
    refine il3 dX9_sendTo_49 ?_
    refine il4 dX9_sendTo_50 ?_
    refine cs9_274 (f' := f - 1) rfl dX9_sendTo_52 (Nat.le_of_ble_eq_true rfl) (fx0 hS.X) (by omega) (Nat.zero_le _) (Nat.zero_le _) (ha) ?_
    refine sq_k (fun D1 hS1 hM1 => ?_)
    refine ex_iret dX9_sendTo_55 rfl ?_
    exact ⟨rfl, rfl, rfl, hS1, hM1⟩
  · exact absurd (sMeta_f2 hM).1 h28
set_option maxRecDepth 20000 in
set_option maxHeartbeats 1000000 in
theorem c_sip {Γ : xGm} {l : Launch} {f : Nat} {G : xG} {D E : xD} {R : xR}  {N : Nat} {rn : xRn} {wi : Int32} (hN : 10 ≤ N) (hr : IKr rn) (hrun : Prun Γ l G R N rn wi) (hf : N + 3 ≤ f) (hS : Sim D R G E) {v b : Nat} {n w : Int32} (v41 : v < 41) (hM : sMeta E (nI v) = 2) (hth : th D R G b E v) : Cn Γ l f MX9_sendIfProvided [.ref 0, .ref b, .int (nI v), .int n, .int w, .int wi] G D R 0 0 (Sq G R D none (sIfThere rn E (nI v) n w).2) := by
  refine cn_of MX9_sendIfProvided_ok (Nat.le_of_ble_eq_true rfl) ?_
  show Ex Γ l f MX9_sendIfProvided 0 [some (.ref 0), some (.ref b), some (.int (nI v)), some (.int n), some (.int w), some (.int wi)] [] G D R 0 0 _
  obtain ⟨⟨hq, h3⟩, ⟨d0, d2, d4, d6⟩, htx, ⟨lq, hlq, hln⟩, hrw⟩ := id hth
  refine al1 dX9_sendIfProvided_0 (by first | nofun | exact xrv_ne _) ?_
  refine gf9_124 rfl dX9_sendIfProvided_1 (h3) hq ?_
  refine il3 dX9_sendIfProvided_4 ?_
  refine cd9_128 (f' := f - 1) rfl dX9_sendIfProvided_5 (Nat.le_of_ble_eq_true rfl) hrw.1 (by omega) (c_len (by omega) (rw_rk hrw)) ?_
  rw [rw_len hrw v41]
  refine ex_if_le 22 dX9_sendIfProvided_8 (by decide) (fun h8 => ?_) (fun h8 => ?_)
  · rw [show sIfThere rn E (nI v) n w = (0, E) from by unfold sIfThere; rw [if_neg (fun q => q h8)]]
    refine ex_vret dX9_sendIfProvided_22 rfl ?_
    first | exact ⟨rfl, rfl, rfl, hS1, hM1⟩ | exact ⟨rfl, rfl, rfl, hS, Sam.rf⟩
  · rw [show sIfThere rn E (nI v) n w = sSendO rn E (nI v) n w from by unfold sIfThere; rw [if_pos h8]]
    refine al0 dX9_sendIfProvided_11 (by first | nofun | exact xrv_ne _) ?_
    refine il2 dX9_sendIfProvided_12 ?_
    refine il3 dX9_sendIfProvided_13 ?_
    refine il4 dX9_sendIfProvided_14 ?_
    refine il5 dX9_sendIfProvided_16 ?_
    refine cs9_156 (f' := f - 1) rfl dX9_sendIfProvided_18 (Nat.le_of_ble_eq_true rfl) (fx0 hS.X) (by omega) (Nat.zero_le _) (Nat.zero_le _) (c_sendO (f := f - 1) hN hr hrun (by omega) hS hM) ?_
    refine sq_k (fun D1 hS1 hM1 => ?_)
    refine ex_pop dX9_sendIfProvided_21 ?_
    refine ex_vret dX9_sendIfProvided_22 rfl ?_
    first | exact ⟨rfl, rfl, rfl, hS1, hM1⟩ | exact ⟨rfl, rfl, rfl, hS, Sam.rf⟩
