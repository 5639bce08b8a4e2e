theorem Sim_there {D : xD} {R : xR} {G : xG} {E : xD} {v b : Nat} {x : Int32} (h : Sim D R G E) (v1 : 1 ≤ v) (v2 : v ≤ ix (E 0 14)) (hb : R 1 (v - 1) = some b) (hth : th D R G b E v) (hx : x = 0 ∨ x = 1) : Sim (xdu D b 4 x) R G (xdu E 11 v x) ∧ Sam D (xdu D b 4 x) ∧ th (xdu D b 4 x) R G b (xdu E 11 v x) v := by
  have hne : ∀ j, j ≠ 11 → xdu E 11 v x j = E j := fun j hj => xdu_ne _ _ _ hj
  have hth2 : th (xdu D b 4 x) R G b (xdu E 11 v x) v := by
    obtain ⟨c2, c3, c4, ⟨q, q1, q2⟩, r1, r2, r3, r4, r5, r6⟩ := hth
    refine ⟨c2, ?_, ?_, ⟨q, q1, ?_⟩, r1, r2, r3, r4, r5, ?_⟩
    · rw [xdu_self, upd_ne _ _ (by decide), upd_ne _ _ (by decide), upd_self, upd_ne _ _ (by decide), hne 10 (by decide), hne 12 (by decide), hne 18 (by decide), xdu_self, upd_self]
      exact ⟨c3.1, c3.2.1, rfl, c3.2.2.2⟩
    · rw [hne 17 (by decide)]
      exact c4
    · unfold ln at q2 ⊢
      rw [xdu_ne D _ _ (xis_ne q2.1 c2.1 (by decide)), xdu_ne D _ _ (Ne.symm (xis_xia c2.1 q2.2.2.1 (by decide))), hne 13 (by decide), hne 14 (by decide)]
      exact q2
    · rw [xdu_ne D _ _ (show b + 2 ≠ b by omega), xdu_ne D _ _ (show b + 3 ≠ b by omega), hne 15 (by decide), hne 16 (by decide)]
      exact r6
  obtain ⟨s1, s2⟩ := Sim_th h v1 v2 hb (fun p p1 _ _ => xdu_ne _ _ _ p1) (fun _ _ _ => rfl) (h.I.free (by decide)) (h.F.e (hne _ (by decide)) (hne _ (by decide)) (hne _ (by decide)) (hne _ (by decide)) (fun u hu => by
      rw [xdu_self]
      by_cases e : u = v
      · subst e
        rw [upd_self]
        exact hx
      · rw [upd_ne _ _ e]
        exact (h.F.2.2.2.1 u hu).2.1) (fun u a c => by rw [xdu_self, upd_ne _ _ (by omega)]) (hne _ (by decide)) (fun u n _ _ _ => by rw [hne 15 (by decide)]) (hne _ (by decide)) (hne _ (by decide))) (fun j a _ _ _ _ => hne j a) (fun u hu => by rw [xdu_self, upd_ne _ _ hu, hne 17 (by decide), hne 18 (by decide)]; exact ⟨rfl, rfl, rfl⟩) (fun u n _ _ _ => by rw [hne 15 (by decide)]) (fun u n i _ _ _ _ _ => by rw [hne 16 (by decide)]) hth2
  exact ⟨s1, s2, hth2⟩
theorem sim_thn {D E : xD} {R : xR} {G : xG} (h : Sim D R G E) {v b : Nat} (v1 : 1 ≤ v) (v2 : v ≤ ix (E 0 14)) (hb : R 1 (v - 1) = some b) : th D R G b E v := by
  obtain ⟨c, c1, c2⟩ := h.th.1 v v1 v2
  rw [hb] at c1
  cases c1
  exact c2
theorem sIn_n {E : xD} (hB : RB E) {v : Nat} (v1 : 1 ≤ v) (v2 : v ≤ ix (E 0 14)) : sIn (nI v) 1 (E 0 14) = true := by
  obtain ⟨en, ln⟩ := vi_n hB.n14 (by decide)
  rw [en]
  exact sIn_t.mpr ⟨nI_le (a := 1) (by omega) (by omega), nI_le (by omega) (by omega)⟩
theorem meta_n2 {E : xD} (hB : RB E) {v : Nat} (v1 : 1 ≤ v) (v2 : v ≤ ix (E 0 14)) (h10 : E 10 v = 0) (h11 : ¬ E 11 v = 0) : sMeta E (nI v) = 2 := by
  have l := (vi_n hB.n14 (by decide)).2
  have e : ix (nI v) = v := ix_nI (by omega)
  exact sMeta_i2 (sIn_n hB v1 v2) (by rw [e]; exact h10) (by rw [e]; exact h11)
noncomputable def sCreate (rn : xRn) (E : xD) (c : Nat) (w : Int32) : Int32 × xD := if sLeast E (nI c) 0 (ix (E 12 c)) = 0 then (0, E) else (sLeast E (nI c) 0 (ix (E 12 c)), (sIfThere rn (sRows (xdu E 11 (ix (sLeast E (nI c) 0 (ix (E 12 c)))) 1) (sLeast E (nI c) 0 (ix (E 12 c)))) (sLeast E (nI c) 0 (ix (E 12 c))) 1 w).2)
set_option maxRecDepth 20000 in
set_option maxHeartbeats 1000000 in
theorem c_create {Γ : xGm} {l : Launch} {f : Nat} {G : xG} {D E : xD} {R : xR}  {N : Nat} {rn : xRn} {wi : Int32} (hN : 10 ≤ N) (hr : IKr rn) (hrun : Prun Γ l G R N rn wi) (hf : N + 4 ≤ f) (hS : Sim D R G E) {c b : Nat} (c1 : 1 ≤ c) (c41 : c < 41) (hv : sIn (nI c) 1 (E 0 14) = true) (hb : R 1 (c - 1) = some b) (hth : th D R G b E c) {w : Int32} : Cn Γ l f MX9_createOne [.ref 0, .int (nI c), .int w, .int wi] G D R 0 0 (Sq G R D (some (.int (sCreate rn E c w).1)) (sCreate rn E c w).2) := by
  refine cn_of MX9_createOne_ok (Nat.le_of_ble_eq_true rfl) ?_
  show Ex Γ l f MX9_createOne 0 [some (.ref 0), some (.int (nI c)), some (.int w), some (.int wi), none, none] [] G D R 0 0 _
  have hle := c_least (Γ := Γ) (l := l) (f := f - 1) (by omega) hS c1 c41 hv hb hth
  have pn := pool_n hS.B c41 (by omega)
  unfold sCreate
  rcases sLeast_n (E := E) (c := c) 0 (ix (E 12 c)) pn.2 with h0 | ⟨i, i1, i2, i3, i4⟩
  · rw [h0] at hle ⊢
    rw [if_pos rfl]
    refine al0 dX9_createOne_0 (by first | nofun | exact xrv_ne _) ?_
    refine il1 dX9_createOne_1 ?_
    refine cd9_299 (f' := f - 1) rfl dX9_createOne_2 (Nat.le_of_ble_eq_true rfl) (fx0 hS.X) (by omega) (hle) ?_
    refine is4 dX9_createOne_5 ?_
    refine al0 dX9_createOne_7 (by first | nofun | exact xrv_ne _) ?_
    refine il4 dX9_createOne_8 ?_
    refine cd9_115 (f' := f - 1) rfl dX9_createOne_10 (Nat.le_of_ble_eq_true rfl) (fx0 hS.X) (by omega) (c_thing_n hS.X hS.n8 (by cases q : sIn (0 : Int32) 1 (D 0 8) <;> first | rfl | exact absurd (sIn_t.mp q).1 (by decide))) ?_
    refine as5 dX9_createOne_13 (by first | nofun | exact xrv_ne _) ?_
    refine al5 dX9_createOne_15 (by first | nofun | exact xrv_ne _) ?_
    refine ex_ifnonnullN dX9_createOne_17 ?_
    refine ex_iconst (v := 0) dX9_createOne_20 (by decide) ?_
    refine ex_iret dX9_createOne_21 rfl ?_
    exact ⟨rfl, rfl, rfl, hS, Sam.rf⟩
  · rw [i3] at hle ⊢
    obtain ⟨-, k41, kle, k10, -⟩ := pool_k hS c1 c41 i1 i2
    have a1 : 1 ≤ c + i := by omega
    have ea : ix (nI (c + i)) = c + i := ix_nI (by omega)
    generalize c + i = a at *
    have ane : ¬ nI a = 0 := fun q => by
      rw [q] at ea
      have : ix (0 : Int32) = 0 := rfl
      omega
    rw [if_neg ane, ea]
    obtain ⟨ba, hba, hta⟩ := hS.th.1 a a1 kle
    have hqa := hta.1.1
    obtain ⟨s1, m1, ht1⟩ := Sim_there (x := 1) hS a1 kle hba hta (Or.inr rfl)
    have e14 : xdu E 11 a 1 0 = E 0 := xdu_ne _ _ _ (by decide)
    obtain ⟨D2, s2, m2, htake⟩ := c_takeS (Γ := Γ) (l := l) (f := f - 1) (by omega) s1 a1 (by rw [e14]; exact kle) hba ht1 (by rw [xdu_ne _ _ _ (by decide)]; exact k10)
    have hj := (sRows_LN s1.I.2.1 k41).2
    have a2 : a ≤ ix (sRows (xdu E 11 a 1) (nI a) 0 14) := by rw [hj 0 (by decide) (by decide), e14]; exact kle
    have ht2 := sim_thn s2 a1 a2 hba
    have hM2 : sMeta (sRows (xdu E 11 a 1) (nI a)) (nI a) = 2 := meta_n2 s2.B a1 a2 (by rw [hj 10 (by decide) (by decide), xdu_ne _ _ _ (by decide)]; exact k10) (by rw [hj 11 (by decide) (by decide), xdu_self, upd_self]; decide)
    refine al0 dX9_createOne_0 (by first | nofun | exact xrv_ne _) ?_
    refine il1 dX9_createOne_1 ?_
    refine cd9_299 (f' := f - 1) rfl dX9_createOne_2 (Nat.le_of_ble_eq_true rfl) (fx0 hS.X) (by omega) (hle) ?_
    refine is4 dX9_createOne_5 ?_
    refine al0 dX9_createOne_7 (by first | nofun | exact xrv_ne _) ?_
    refine il4 dX9_createOne_8 ?_
    refine cd9_115 (f' := f - 1) rfl dX9_createOne_10 (Nat.le_of_ble_eq_true rfl) (fx0 hS.X) (by omega) (c_thing_y hS.X hS.n8 (by rw [hS.A.1]; exact sIn_n hS.B a1 kle) (by rw [ea]; exact hba)) ?_
    refine as5 dX9_createOne_13 (by first | nofun | exact xrv_ne _) ?_
    refine al5 dX9_createOne_15 (by first | nofun | exact xrv_ne _) ?_
    refine ex_ifnonnull 22 dX9_createOne_17 (by decide) ?_
    refine al5 dX9_createOne_22 (by first | nofun | exact xrv_ne _) ?_
    refine ex_iconst (v := 1) dX9_createOne_24 (by decide) ?_
    refine pf9_111 rfl dX9_createOne_25 (Or.inr rfl) hqa ?_
    refine al0 dX9_createOne_28 (by first | nofun | exact xrv_ne _) ?_
    refine al5 dX9_createOne_29 (by first | nofun | exact xrv_ne _) ?_
    refine cd9_108 (f' := f - 1) rfl dX9_createOne_31 (Nat.le_of_ble_eq_true rfl) (fx0 hS.X) (by omega) (htake) ?_
    refine al0 dX9_createOne_34 (by first | nofun | exact xrv_ne _) ?_
    refine al5 dX9_createOne_35 (by first | nofun | exact xrv_ne _) ?_
    refine il4 dX9_createOne_37 ?_
    refine ex_iconst (v := 1) dX9_createOne_39 (by decide) ?_
    refine il2 dX9_createOne_40 ?_
    refine il3 dX9_createOne_41 ?_
    refine cs9_302 (f' := f - 1) rfl dX9_createOne_42 (Nat.le_of_ble_eq_true rfl) (fx0 hS.X) (by omega) (Nat.zero_le _) (Nat.zero_le _) (c_sip (f := f - 1) hN hr hrun (by omega) s2 k41 hM2 ht2) ?_
    refine sq_k (fun D1 hS1 hM1 => ?_)
    refine il4 dX9_createOne_45 ?_
    refine ex_iret dX9_createOne_47 rfl ?_
    exact ⟨rfl, rfl, rfl, hS1, (m1.tr m2).tr hM1⟩
noncomputable def sDestroy (rn : xRn) (E : xD) (c : Nat) (w : Int32) : Int32 × xD := if sIn w (nI c + 1) (nI c + E 12 c) = false ∨ E 11 (ix w) = 0 then (0, sFails E 8 (nI c) w) else (1, if ¬ (sIfThere rn E w 2 0).2 11 (ix w) = 0 then sGone (sIfThere rn E w 2 0).2 w else (sIfThere rn E w 2 0).2)
noncomputable def sRecreate (rn : xRn) (E : xD) (c : Nat) (w : Int32) : Int32 × xD := if sIn w (nI c + 1) (nI c + E 12 c) = false ∨ E 11 (ix w) = 0 then (0, sFails E 8 (nI c) w) else (1, if ¬ (sIfThere rn E w 2 0).2 11 (ix w) = 0 then (sIfThere rn (sRows (sIfThere rn E w 2 0).2 w) w 1 0).2 else (sIfThere rn E w 2 0).2)
set_option maxRecDepth 20000 in
set_option maxHeartbeats 1000000 in
theorem c_destroy {Γ : xGm} {l : Launch} {f : Nat} {G : xG} {D E : xD} {R : xR}  {N : Nat} {rn : xRn} {wi : Int32} (hN : 10 ≤ N) (hr : IKr rn) (hrun : Prun Γ l G R N rn wi) (hf : N + 4 ≤ f) (hS : Sim D R G E) {c b : Nat} (c1 : 1 ≤ c) (c41 : c < 41) (hv : sIn (nI c) 1 (E 0 14) = true) (hb : R 1 (c - 1) = some b) (hth : th D R G b E c) {w : Int32} : Cn Γ l f MX9_destroyOne [.ref 0, .int (nI c), .int w, .int wi] G D R 0 0 (Sq G R D (some (.int (sDestroy rn E c w).1)) (sDestroy rn E c w).2) := by
  refine cn_of MX9_destroyOne_ok (Nat.le_of_ble_eq_true rfl) ?_
  show Ex Γ l f MX9_destroyOne 0 [some (.ref 0), some (.int (nI c)), some (.int w), some (.int wi), none] [] G D R 0 0 _
  unfold sDestroy
  by_cases hw : sIn w (nI c + 1) (nI c + E 12 c) = false ∨ E 11 (ix w) = 0
  · rw [if_pos hw]
    refine al0 dX9_destroyOne_0 (by first | nofun | exact xrv_ne _) ?_
    refine il1 dX9_destroyOne_1 ?_
    refine il2 dX9_destroyOne_2 ?_
    refine cd9_306 (f' := f - 1) rfl dX9_destroyOne_3 (Nat.le_of_ble_eq_true rfl) (fx0 hS.X) (by omega) (c_tip_n (by omega) hS c1 c41 hv hb hth hw) ?_
    refine as4 dX9_destroyOne_6 (by first | nofun | exact xrv_ne _) ?_
    refine al4 dX9_destroyOne_8 (by first | nofun | exact xrv_ne _) ?_
    refine ex_ifnonnullN dX9_destroyOne_10 ?_
    refine ex_iconst (v := 0) dX9_destroyOne_13 (by decide) ?_
    refine ex_iret dX9_destroyOne_14 rfl ?_
    exact ⟨rfl, rfl, rfl, (Sim_tell hS _ _ _).1, (Sim_tell hS _ _ _).2⟩
  · rw [if_neg hw]
    have hw1 : sIn w (nI c + 1) (nI c + E 12 c) = true := by
      cases q : sIn w (nI c + 1) (nI c + E 12 c)
      · exact absurd (Or.inl q) hw
      · rfl
    have hw2 : ¬ E 11 (ix w) = 0 := fun q => hw (Or.inr q)
    obtain ⟨a, ea, a1, a41, ale, a10, hwi⟩ := pool_wn hS c1 c41 hw1
    subst ea
    have ea : ix (nI a) = a := ix_nI (by omega)
    obtain ⟨ba, hba, hta⟩ := hS.th.1 a a1 ale
    have htip := c_tip_y (Γ := Γ) (l := l) (f := f - 1) (by omega) hS c1 c41 hv hb hth hw1 hw2 (by rw [ea]; exact hba) (by rw [ea]; exact hta)
    rw [ea] at hw2
    have hqa := hta.1.1
    have hM := meta_n2 hS.B a1 ale a10 hw2
    obtain ⟨hI1, hK⟩ := ik_ifThere (o := nI a) (n := 2) (w := 0) hr hS.I
    have e14 : (sIfThere rn E (nI a) 2 0).2 0 14 = E 0 14 := hK.2.2.2 14 (by decide) (by decide) (by decide) (by decide)
    rw [ea]
    refine al0 dX9_destroyOne_0 (by first | nofun | exact xrv_ne _) ?_
    refine il1 dX9_destroyOne_1 ?_
    refine il2 dX9_destroyOne_2 ?_
    refine cd9_306 (f' := f - 1) rfl dX9_destroyOne_3 (Nat.le_of_ble_eq_true rfl) (fx0 hS.X) (by omega) (htip) ?_
    refine as4 dX9_destroyOne_6 (by first | nofun | exact xrv_ne _) ?_
    refine al4 dX9_destroyOne_8 (by first | nofun | exact xrv_ne _) ?_
    refine ex_ifnonnull 15 dX9_destroyOne_10 (by decide) ?_
    refine al0 dX9_destroyOne_15 (by first | nofun | exact xrv_ne _) ?_
    refine al4 dX9_destroyOne_16 (by first | nofun | exact xrv_ne _) ?_
    refine il2 dX9_destroyOne_18 ?_
    refine ex_iconst (v := 2) dX9_destroyOne_19 (by decide) ?_
    refine ex_iconst (v := 0) dX9_destroyOne_20 (by decide) ?_
    refine il3 dX9_destroyOne_21 ?_
    refine cs9_302 (f' := f - 1) rfl dX9_destroyOne_22 (Nat.le_of_ble_eq_true rfl) (fx0 hS.X) (by omega) (Nat.zero_le _) (Nat.zero_le _) (c_sip (f := f - 1) hN hr hrun (by omega) hS a41 hM hta) ?_
    refine sq_k (fun D1 hS1 hM1 => ?_)
    have ht1 := sim_thn hS1 a1 (by rw [e14]; exact ale) hba
    generalize (sIfThere rn E (nI a) 2 0).2 = E1 at *
    refine al4 dX9_destroyOne_25 (by first | nofun | exact xrv_ne _) ?_
    refine gf9_111 rfl dX9_destroyOne_27 hqa ?_
    rw [ht1.2.1.2.2.1]
    refine ex_if_eq 55 dX9_destroyOne_30 (by decide) (fun h30 => ?_) (fun h30 => ?_)
    · refine ex_iconst (v := 1) dX9_destroyOne_55 (by decide) ?_
      refine ex_iret dX9_destroyOne_56 rfl ?_
      first
        | (rw [if_neg (fun q => q h30)]
           exact ⟨rfl, rfl, rfl, hS1, hM1⟩)
        | (rw [if_pos h30]
           have hL := Iv.lift (lk 40) _ a41 (hS1.I.leave a1 a41)
           obtain ⟨s2, m2⟩ := Sim_tS hS1 hL (fun j x y z => by rw [sLift_ne x y z, sLeave_ne x y z])
           have e14b : ix (sLift (sLeave E1 (nI a)) (nI a) (lk 40) 0 14) = ix (E 0 14) := by rw [sLift_ne (by decide) (by decide) (by decide), sLeave_ne (by decide) (by decide) (by decide), e14]
           obtain ⟨s3, m3, -⟩ := Sim_there (x := 0) s2 a1 (by rw [e14b]; exact ale) hba (sim_thn s2 a1 (by rw [e14b]; exact ale) hba) (Or.inl rfl)
           have eg : sGone E1 (nI a) = xdu (sLift (sLeave E1 (nI a)) (nI a) (lk 40)) 11 a 0 := by unfold sGone; rw [ea]
           rw [eg]
           exact ⟨rfl, rfl, rfl, s3, (hM1.tr m2).tr m3⟩)
    · refine al0 dX9_destroyOne_33 (by first | nofun | exact xrv_ne _) ?_
      refine gf9_36 rfl dX9_destroyOne_34 (fr0_4 hS.X) (fx0 hS.X) ?_
      refine il2 dX9_destroyOne_37 ?_
      refine cd9_183 (f' := f - 1) rfl dX9_destroyOne_38 (Nat.le_of_ble_eq_true rfl) (fx5 hS.X) (by omega) ((by have z := c_lift (Γ := Γ) (l := l) (f := f - 1) (D := D1) (E := E1) (by omega) hS1.X hS1.B hS1.I.2.2.1 a1 a41; rw [hS1.tr'] at z; exact z)) ?_
      refine al0 dX9_destroyOne_41 (by first | nofun | exact xrv_ne _) ?_
      refine gf9_36 rfl dX9_destroyOne_42 (fr0_4 hS.X) (fx0 hS.X) ?_
      refine il2 dX9_destroyOne_45 ?_
      refine cd9_310 (f' := f - 1) rfl dX9_destroyOne_46 (Nat.le_of_ble_eq_true rfl) (fx5 hS.X) (by omega) (c_liftC (by omega) hS1.X (hS1.I.leave a1 a41) a1 a41) ?_
      refine al4 dX9_destroyOne_49 (by first | nofun | exact xrv_ne _) ?_
      refine ex_iconst (v := 0) dX9_destroyOne_51 (by decide) ?_
      refine pf9_111 rfl dX9_destroyOne_52 (Or.inl rfl) hqa ?_
      refine ex_iconst (v := 1) dX9_destroyOne_55 (by decide) ?_
      refine ex_iret dX9_destroyOne_56 rfl ?_
      first
        | (rw [if_neg (fun q => q h30)]
           exact ⟨rfl, rfl, rfl, hS1, hM1⟩)
        | (rw [if_pos h30]
           have hL := Iv.lift (lk 40) _ a41 (hS1.I.leave a1 a41)
           obtain ⟨s2, m2⟩ := Sim_tS hS1 hL (fun j x y z => by rw [sLift_ne x y z, sLeave_ne x y z])
           have e14b : ix (sLift (sLeave E1 (nI a)) (nI a) (lk 40) 0 14) = ix (E 0 14) := by rw [sLift_ne (by decide) (by decide) (by decide), sLeave_ne (by decide) (by decide) (by decide), e14]
           obtain ⟨s3, m3, -⟩ := Sim_there (x := 0) s2 a1 (by rw [e14b]; exact ale) hba (sim_thn s2 a1 (by rw [e14b]; exact ale) hba) (Or.inl rfl)
           have eg : sGone E1 (nI a) = xdu (sLift (sLeave E1 (nI a)) (nI a) (lk 40)) 11 a 0 := by unfold sGone; rw [ea]
           rw [eg]
           exact ⟨rfl, rfl, rfl, s3, (hM1.tr m2).tr m3⟩)
set_option maxRecDepth 20000 in
set_option maxHeartbeats 1000000 in
theorem c_recreate {Γ : xGm} {l : Launch} {f : Nat} {G : xG} {D E : xD} {R : xR}  {N : Nat} {rn : xRn} {wi : Int32} (hN : 10 ≤ N) (hr : IKr rn) (hrun : Prun Γ l G R N rn wi) (hf : N + 4 ≤ f) (hS : Sim D R G E) {c b : Nat} (c1 : 1 ≤ c) (c41 : c < 41) (hv : sIn (nI c) 1 (E 0 14) = true) (hb : R 1 (c - 1) = some b) (hth : th D R G b E c) {w : Int32} : Cn Γ l f MX9_recreateOne [.ref 0, .int (nI c), .int w, .int wi] G D R 0 0 (Sq G R D (some (.int (sRecreate rn E c w).1)) (sRecreate rn E c w).2) := by
  refine cn_of MX9_recreateOne_ok (Nat.le_of_ble_eq_true rfl) ?_
  show Ex Γ l f MX9_recreateOne 0 [some (.ref 0), some (.int (nI c)), some (.int w), some (.int wi), none] [] G D R 0 0 _
  unfold sRecreate
  by_cases hw : sIn w (nI c + 1) (nI c + E 12 c) = false ∨ E 11 (ix w) = 0
  · rw [if_pos hw]
    refine al0 dX9_recreateOne_0 (by first | nofun | exact xrv_ne _) ?_
    refine il1 dX9_recreateOne_1 ?_
    refine il2 dX9_recreateOne_2 ?_
    refine cd9_306 (f' := f - 1) rfl dX9_recreateOne_3 (Nat.le_of_ble_eq_true rfl) (fx0 hS.X) (by omega) (c_tip_n (by omega) hS c1 c41 hv hb hth hw) ?_
    refine as4 dX9_recreateOne_6 (by first | nofun | exact xrv_ne _) ?_
    refine al4 dX9_recreateOne_8 (by first | nofun | exact xrv_ne _) ?_
    refine ex_ifnonnullN dX9_recreateOne_10 ?_
    refine ex_iconst (v := 0) dX9_recreateOne_13 (by decide) ?_
    refine ex_iret dX9_recreateOne_14 rfl ?_
    exact ⟨rfl, rfl, rfl, (Sim_tell hS _ _ _).1, (Sim_tell hS _ _ _).2⟩
  · rw [if_neg hw]
    have hw1 : sIn w (nI c + 1) (nI c + E 12 c) = true := by
      cases q : sIn w (nI c + 1) (nI c + E 12 c)
      · exact absurd (Or.inl q) hw
      · rfl
    have hw2 : ¬ E 11 (ix w) = 0 := fun q => hw (Or.inr q)
    obtain ⟨a, ea, a1, a41, ale, a10, hwi⟩ := pool_wn hS c1 c41 hw1
    subst ea
    have ea : ix (nI a) = a := ix_nI (by omega)
    obtain ⟨ba, hba, hta⟩ := hS.th.1 a a1 ale
    have htip := c_tip_y (Γ := Γ) (l := l) (f := f - 1) (by omega) hS c1 c41 hv hb hth hw1 hw2 (by rw [ea]; exact hba) (by rw [ea]; exact hta)
    rw [ea] at hw2
    have hqa := hta.1.1
    have hM := meta_n2 hS.B a1 ale a10 hw2
    obtain ⟨hI1, hK⟩ := ik_ifThere (o := nI a) (n := 2) (w := 0) hr hS.I
    have e14 : (sIfThere rn E (nI a) 2 0).2 0 14 = E 0 14 := hK.2.2.2 14 (by decide) (by decide) (by decide) (by decide)
    rw [ea]
    refine al0 dX9_recreateOne_0 (by first | nofun | exact xrv_ne _) ?_
    refine il1 dX9_recreateOne_1 ?_
    refine il2 dX9_recreateOne_2 ?_
    refine cd9_306 (f' := f - 1) rfl dX9_recreateOne_3 (Nat.le_of_ble_eq_true rfl) (fx0 hS.X) (by omega) (htip) ?_
    refine as4 dX9_recreateOne_6 (by first | nofun | exact xrv_ne _) ?_
    refine al4 dX9_recreateOne_8 (by first | nofun | exact xrv_ne _) ?_
    refine ex_ifnonnull 15 dX9_recreateOne_10 (by decide) ?_
    refine al0 dX9_recreateOne_15 (by first | nofun | exact xrv_ne _) ?_
    refine al4 dX9_recreateOne_16 (by first | nofun | exact xrv_ne _) ?_
    refine il2 dX9_recreateOne_18 ?_
    refine ex_iconst (v := 2) dX9_recreateOne_19 (by decide) ?_
    refine ex_iconst (v := 0) dX9_recreateOne_20 (by decide) ?_
    refine il3 dX9_recreateOne_21 ?_
    refine cs9_302 (f' := f - 1) rfl dX9_recreateOne_22 (Nat.le_of_ble_eq_true rfl) (fx0 hS.X) (by omega) (Nat.zero_le _) (Nat.zero_le _) (c_sip (f := f - 1) hN hr hrun (by omega) hS a41 hM hta) ?_
    refine sq_k (fun D1 hS1 hM1 => ?_)
    have ht1 := sim_thn hS1 a1 (by rw [e14]; exact ale) hba
    have e10 : (sIfThere rn E (nI a) 2 0).2 10 a = 0 := by rw [hK.2.1]; exact a10
    generalize (sIfThere rn E (nI a) 2 0).2 = E1 at *
    refine al4 dX9_recreateOne_25 (by first | nofun | exact xrv_ne _) ?_
    refine gf9_111 rfl dX9_recreateOne_27 hqa ?_
    rw [ht1.2.1.2.2.1]
    refine ex_if_eq 49 dX9_recreateOne_30 (by decide) (fun h30 => ?_) (fun h30 => ?_)
    · rw [if_neg (fun q => q h30)]
      refine ex_iconst (v := 1) dX9_recreateOne_49 (by decide) ?_
      refine ex_iret dX9_recreateOne_50 rfl ?_
      first | exact ⟨rfl, rfl, rfl, hS3, (hM1.tr m2).tr hM3⟩ | exact ⟨rfl, rfl, rfl, hS1, hM1⟩
    · rw [if_pos h30]
      obtain ⟨D2, s2, m2, htake⟩ := c_takeS (Γ := Γ) (l := l) (f := f - 1) (by omega) hS1 a1 (by rw [e14]; exact ale) hba ht1 e10
      have hj := (sRows_LN hS1.I.2.1 a41).2
      have a2 : a ≤ ix (sRows E1 (nI a) 0 14) := by rw [hj 0 (by decide) (by decide), e14]; exact ale
      have ht2 := sim_thn s2 a1 a2 hba
      have hM2 : sMeta (sRows E1 (nI a)) (nI a) = 2 := meta_n2 s2.B a1 a2 (by rw [hj 10 (by decide) (by decide)]; exact e10) (by rw [hj 11 (by decide) (by decide)]; exact h30)
      refine al0 dX9_recreateOne_33 (by first | nofun | exact xrv_ne _) ?_
      refine al4 dX9_recreateOne_34 (by first | nofun | exact xrv_ne _) ?_
      refine cd9_108 (f' := f - 1) rfl dX9_recreateOne_36 (Nat.le_of_ble_eq_true rfl) (fx0 hS.X) (by omega) (htake) ?_
      refine al0 dX9_recreateOne_39 (by first | nofun | exact xrv_ne _) ?_
      refine al4 dX9_recreateOne_40 (by first | nofun | exact xrv_ne _) ?_
      refine il2 dX9_recreateOne_42 ?_
      refine ex_iconst (v := 1) dX9_recreateOne_43 (by decide) ?_
      refine ex_iconst (v := 0) dX9_recreateOne_44 (by decide) ?_
      refine il3 dX9_recreateOne_45 ?_
      refine cs9_302 (f' := f - 1) rfl dX9_recreateOne_46 (Nat.le_of_ble_eq_true rfl) (fx0 hS.X) (by omega) (Nat.zero_le _) (Nat.zero_le _) (c_sip (f := f - 1) hN hr hrun (by omega) s2 a41 hM2 ht2) ?_
      refine sq_k (fun D3 hS3 hM3 => ?_)
      refine ex_iconst (v := 1) dX9_recreateOne_49 (by decide) ?_
      refine ex_iret dX9_recreateOne_50 rfl ?_
      first | exact ⟨rfl, rfl, rfl, hS3, (hM1.tr m2).tr hM3⟩ | exact ⟨rfl, rfl, rfl, hS1, hM1⟩
set_option maxRecDepth 20000 in
set_option maxHeartbeats 1000000 in
theorem c_sendG {Γ : xGm} {l : Launch} {f : Nat} {G : xG} {D E : xD} {R : xR}  {N : Nat} {rn : xRn} {wi : Int32} (hN : 10 ≤ N) (hr : IKr rn) (hrun : Prun Γ l G R N rn wi) (hf : N + 5 ≤ f) (hS : Sim D R G E) {c b : Nat} (c1 : 1 ≤ c) (c41 : c < 41) (hv : sIn (nI c) 1 (E 0 14) = true) (hb : R 1 (c - 1) = some b) (hth : th D R G b E c) {n w : Int32} : Cn Γ l f MX9_sendToClass [.ref 0, .int (nI c), .int n, .int w, .int wi] G D R 0 0 (Sq G R D (some (.int (sSendG rn E (nI c) n w).1)) (sSendG rn E (nI c) n w).2) := by
  refine cn_of MX9_sendToClass_ok (Nat.le_of_ble_eq_true rfl) ?_
  show Ex Γ l f MX9_sendToClass 0 [some (.ref 0), some (.int (nI c)), some (.int n), some (.int w), some (.int wi)] [] G D R 0 0 _
  have ec : ix (nI c) = c := ix_nI (by omega)
  have g12 : n = 12 → sSendG rn E (nI c) n w = sCreate rn E c w := fun q => by
    unfold sSendG sCreate
    rw [if_neg (by rw [q]; decide), if_pos q, ec]
  have g13 : n = 13 → sSendG rn E (nI c) n w = sDestroy rn E c w := fun q => by
    unfold sSendG sDestroy
    rw [if_neg (by rw [q]; decide), if_neg (by rw [q]; decide), if_neg (fun z => z.1 q), ec]
    split
    · rfl
    · first | rfl | rw [if_pos q]
  have g14 : n = 14 → sSendG rn E (nI c) n w = (nI (sFreeN E (nI c) (ix (E 12 c))), E) := fun q => by
    unfold sSendG
    rw [if_pos q, ec]
  have g15 : n = 15 → sSendG rn E (nI c) n w = sRecreate rn E c w := fun q => by
    unfold sSendG sRecreate
    rw [if_neg (by rw [q]; decide), if_neg (by rw [q]; decide), if_neg (fun z => z.2 q), ec]
    split
    · rfl
    · rw [if_neg (by rw [q]; decide)]
  have g0 : ¬ n = 12 → ¬ n = 13 → ¬ n = 14 → ¬ n = 15 → sSendG rn E (nI c) n w = (0, sFails E 2 (nI c) n) := fun a b d e => by
    unfold sSendG
    rw [if_neg d, if_neg a, if_pos ⟨b, e⟩]
  refine il2 dX9_sendToClass_0 ?_
  refine ex_table 12 65 [32, 41, 50, 56] dX9_sendToClass_1 (by decide) (by decide) (by decide) (by decide) (by decide) ⟨fun h1 => ?_, fun h1 => ?_, fun h1 => ?_, fun h1 => ?_, trivial⟩ (fun h1 => ?_)
  · change _ = (12 : Int32) at h1
    rw [g12 h1]
    refine al0 dX9_sendToClass_32 (by first | nofun | exact xrv_ne _) ?_
    refine il1 dX9_sendToClass_33 ?_
    refine il3 dX9_sendToClass_34 ?_
    refine il4 dX9_sendToClass_35 ?_
    refine cs9_278 (f' := f - 1) rfl dX9_sendToClass_37 (Nat.le_of_ble_eq_true rfl) (fx0 hS.X) (by omega) (Nat.zero_le _) (Nat.zero_le _) (c_create (f := f - 1) hN hr hrun (by omega) hS c1 c41 hv hb hth) ?_
    refine sq_k (fun D1 hS1 hM1 => ?_)
    refine ex_iret dX9_sendToClass_40 rfl ?_
    exact ⟨rfl, rfl, rfl, hS1, hM1⟩
  · change _ = (13 : Int32) at h1
    rw [g13 h1]
    refine al0 dX9_sendToClass_41 (by first | nofun | exact xrv_ne _) ?_
    refine il1 dX9_sendToClass_42 ?_
    refine il3 dX9_sendToClass_43 ?_
    refine il4 dX9_sendToClass_44 ?_
    refine cs9_281 (f' := f - 1) rfl dX9_sendToClass_46 (Nat.le_of_ble_eq_true rfl) (fx0 hS.X) (by omega) (Nat.zero_le _) (Nat.zero_le _) (c_destroy (f := f - 1) hN hr hrun (by omega) hS c1 c41 hv hb hth) ?_
    refine sq_k (fun D1 hS1 hM1 => ?_)
    refine ex_iret dX9_sendToClass_49 rfl ?_
    exact ⟨rfl, rfl, rfl, hS1, hM1⟩
  · change _ = (14 : Int32) at h1
    rw [g14 h1]
    refine al0 dX9_sendToClass_50 (by first | nofun | exact xrv_ne _) ?_
    refine il1 dX9_sendToClass_51 ?_
    refine cd9_284 (f' := f - 1) rfl dX9_sendToClass_52 (Nat.le_of_ble_eq_true rfl) (fx0 hS.X) (by omega) (c_free (by omega) hS c1 c41 hv hb hth) ?_
    refine ex_iret dX9_sendToClass_55 rfl ?_
    exact ⟨rfl, rfl, rfl, hS, Sam.rf⟩
  · change _ = (15 : Int32) at h1
    rw [g15 h1]
    refine al0 dX9_sendToClass_56 (by first | nofun | exact xrv_ne _) ?_
    refine il1 dX9_sendToClass_57 ?_
    refine il3 dX9_sendToClass_58 ?_
    refine il4 dX9_sendToClass_59 ?_
    refine cs9_287 (f' := f - 1) rfl dX9_sendToClass_61 (Nat.le_of_ble_eq_true rfl) (fx0 hS.X) (by omega) (Nat.zero_le _) (Nat.zero_le _) (c_recreate (f := f - 1) hN hr hrun (by omega) hS c1 c41 hv hb hth) ?_
    refine sq_k (fun D1 hS1 hM1 => ?_)
    refine ex_iret dX9_sendToClass_64 rfl ?_
    exact ⟨rfl, rfl, rfl, hS1, hM1⟩
  · obtain ⟨h1_12, h1_13, h1_14, h1_15, -⟩ := h1
    change ¬ _ = (12 : Int32) at h1_12
    change ¬ _ = (13 : Int32) at h1_13
    change ¬ _ = (14 : Int32) at h1_14
    change ¬ _ = (15 : Int32) at h1_15
    rw [g0 h1_12 h1_13 h1_14 h1_15]
    refine al0 dX9_sendToClass_65 (by first | nofun | exact xrv_ne _) ?_
    refine gf9_57 rfl dX9_sendToClass_66 (fr0_6 hS.X) (fx0 hS.X) ?_
    refine ex_iconst (v := 2) dX9_sendToClass_69 (by decide) ?_
    refine il1 dX9_sendToClass_70 ?_
    refine il2 dX9_sendToClass_71 ?_
    refine cd9_175 (f' := f - 1) rfl dX9_sendToClass_72 (Nat.le_of_ble_eq_true rfl) (fx13 hS.X) (by omega) (c_tell hS.X hS.n13) ?_
    refine ex_iret dX9_sendToClass_75 rfl ?_
    exact ⟨rfl, rfl, rfl, (Sim_tell hS _ _ _).1, (Sim_tell hS _ _ _).2⟩
set_option maxRecDepth 20000 in
set_option maxHeartbeats 1000000 in
theorem c_sendTo {Γ : xGm} {l : Launch} {f : Nat} {G : xG} {D E : xD} {R : xR}  {N : Nat} {rn : xRn} {wi : Int32} (hN : 10 ≤ N) (hr : IKr rn) (hrun : Prun Γ l G R N rn wi) (hf : N + 6 ≤ f) (hS : Sim D R G E) {o n w : Int32} : Cn Γ l f MX9_sendTo [.ref 0, .int o, .int n, .int w, .int wi] G D R 0 0 (Sq G R D (some (.int (sSend rn E o n w).1)) (sSend rn E o n w).2) := by
  refine cn_of MX9_sendTo_ok (Nat.le_of_ble_eq_true rfl) ?_
  show Ex Γ l f MX9_sendTo 0 [some (.ref 0), some (.int o), some (.int n), some (.int w), some (.int wi), none] [] G D R 0 0 _
  by_cases h1 : sMeta E o = 1
  · obtain ⟨b, hb, hth, ev, v1, v41, vle⟩ := sim_ans hS (Or.inl h1)
    obtain ⟨⟨hq, h3⟩, ⟨d0, d2, d4, d6⟩, htx, ⟨lq, hlq, hln⟩, hrw⟩ := id hth
    rw [show sSend rn E o n w = sSendG rn E o n w from by unfold sSend; rw [if_pos h1]]
    have hg := c_sendG (n := n) (w := w) (f := f - 1) hN hr hrun (by omega) hS v1 v41 (by rw [← ev]; exact sMeta_1 h1) hb hth
    rw [← ev] at hg
    refine al0 dX9_sendTo_0 (by first | nofun | exact xrv_ne _) ?_
    refine il1 dX9_sendTo_1 ?_
    refine cd9_217 (f' := f - 1) rfl dX9_sendTo_2 (Nat.le_of_ble_eq_true rfl) (fx0 hS.X) (by omega) (c_ans_y (by omega) hS (Or.inl h1) hb hth) ?_
    refine as5 dX9_sendTo_5 (by first | nofun | exact xrv_ne _) ?_
    refine al5 dX9_sendTo_7 (by first | nofun | exact xrv_ne _) ?_
    refine ex_ifnonnull 23 dX9_sendTo_9 (by decide) ?_
    refine al5 dX9_sendTo_23 (by first | nofun | exact xrv_ne _) ?_
    refine gf9_203 rfl dX9_sendTo_25 hq ?_
    rw [d0]
    refine ex_if_eq 41 dX9_sendTo_28 (by decide) (fun h28 => ?_) (fun h28 => ?_)
    · exact absurd h28 (sMeta_f1 h1)
    · refine al0 dX9_sendTo_31 (by first | nofun | exact xrv_ne _) ?_
      refine il1 dX9_sendTo_32 ?_
      refine il2 dX9_sendTo_33 ?_
      refine il3 dX9_sendTo_34 ?_
      refine il4 dX9_sendTo_35 ?_
      refine cs9_271 (f' := f - 1) rfl dX9_sendTo_37 (Nat.le_of_ble_eq_true rfl) (fx0 hS.X) (by omega) (Nat.zero_le _) (Nat.zero_le _) (hg) ?_
      refine sq_k (fun D1 hS1 hM1 => ?_)
      refine ex_iret dX9_sendTo_40 rfl ?_
      exact ⟨rfl, rfl, rfl, hS1, hM1⟩
  · by_cases h2 : sMeta E o = 2
    · obtain ⟨b, hb, hth, ev, v1, v41, vle⟩ := sim_ans hS (Or.inr h2)
      obtain ⟨⟨hq, h3⟩, ⟨d0, d2, d4, d6⟩, htx, ⟨lq, hlq, hln⟩, hrw⟩ := id hth
      rw [show sSend rn E o n w = sSendO rn E o n w from by unfold sSend; rw [if_neg h1, if_pos h2]]
      have ha := c_aor (w := w) (n := n) (o := o) (f := f - 1) hN hr hrun (by omega) hS v41 hrw
      rw [← ev] at ha
      change Cn Γ l (f - 1) MX9_answerOfRow _ G D R 0 0 (Sq G R D (some (.int (sSendO rn E o n w).1)) (sSendO rn E o n w).2) at ha
      refine al0 dX9_sendTo_0 (by first | nofun | exact xrv_ne _) ?_
      refine il1 dX9_sendTo_1 ?_
      refine cd9_217 (f' := f - 1) rfl dX9_sendTo_2 (Nat.le_of_ble_eq_true rfl) (fx0 hS.X) (by omega) (c_ans_y (by omega) hS (Or.inr h2) hb hth) ?_
      refine as5 dX9_sendTo_5 (by first | nofun | exact xrv_ne _) ?_
      refine al5 dX9_sendTo_7 (by first | nofun | exact xrv_ne _) ?_
      refine ex_ifnonnull 23 dX9_sendTo_9 (by decide) ?_
      refine al5 dX9_sendTo_23 (by first | nofun | exact xrv_ne _) ?_
      refine gf9_203 rfl dX9_sendTo_25 hq ?_
      rw [d0]
      refine ex_if_eq 41 dX9_sendTo_28 (by decide) (fun h28 => ?_) (fun h28 => ?_)
      · refine al0 dX9_sendTo_41 (by first | nofun | exact xrv_ne _) ?_
        refine al5 dX9_sendTo_42 (by first | nofun | exact xrv_ne _) ?_
        refine gf9_124 rfl dX9_sendTo_44 (h3) hq ?_
        refine il1 dX9_sendTo_47 ?_
        refine il2 dX9_sendTo_48 ?_
        refine il3 dX9_sendTo_49 ?_
        refine il4 dX9_sendTo_50 ?_
        refine cs9_274 (f' := f - 1) rfl dX9_sendTo_52 (Nat.le_of_ble_eq_true rfl) (fx0 hS.X) (by omega) (Nat.zero_le _) (Nat.zero_le _) (ha) ?_
        refine sq_k (fun D1 hS1 hM1 => ?_)
        refine ex_iret dX9_sendTo_55 rfl ?_
        exact ⟨rfl, rfl, rfl, hS1, hM1⟩
      · exact absurd (sMeta_f2 h2).1 h28
    · rw [show sSend rn E o n w = (0, sFails E 1 o n) from by unfold sSend; rw [if_neg h1, if_neg h2]]
      refine al0 dX9_sendTo_0 (by first | nofun | exact xrv_ne _) ?_
      refine il1 dX9_sendTo_1 ?_
      refine cd9_217 (f' := f - 1) rfl dX9_sendTo_2 (Nat.le_of_ble_eq_true rfl) (fx0 hS.X) (by omega) (c_ans_n (by omega) hS ⟨h1, h2⟩) ?_
      refine as5 dX9_sendTo_5 (by first | nofun | exact xrv_ne _) ?_
      refine al5 dX9_sendTo_7 (by first | nofun | exact xrv_ne _) ?_
      refine ex_ifnonnullN dX9_sendTo_9 ?_
      refine al0 dX9_sendTo_12 (by first | nofun | exact xrv_ne _) ?_
      refine gf9_57 rfl dX9_sendTo_13 (fr0_6 hS.X) (fx0 hS.X) ?_
      refine ex_iconst (v := 1) dX9_sendTo_16 (by decide) ?_
      refine il1 dX9_sendTo_17 ?_
      refine il2 dX9_sendTo_18 ?_
      refine cd9_175 (f' := f - 1) rfl dX9_sendTo_19 (Nat.le_of_ble_eq_true rfl) (fx13 hS.X) (by omega) (c_tell hS.X hS.n13) ?_
      refine ex_iret dX9_sendTo_22 rfl ?_
      exact ⟨rfl, rfl, rfl, (Sim_tell hS _ _ _).1, (Sim_tell hS _ _ _).2⟩
set_option maxRecDepth 20000 in
set_option maxHeartbeats 1000000 in
theorem c_sendToAs {Γ : xGm} {l : Launch} {f : Nat} {G : xG} {D E : xD} {R : xR}  {N : Nat} {rn : xRn} {wi : Int32} (hN : 10 ≤ N) (hr : IKr rn) (hrun : Prun Γ l G R N rn wi) (hf : N + 3 ≤ f) (hS : Sim D R G E) {g o n w : Int32} : Cn Γ l f MX9_sendToAs [.ref 0, .int g, .int o, .int n, .int w, .int wi] G D R 0 0 (Sq G R D (some (.int (sSendAs rn E g o n w).1)) (sSendAs rn E g o n w).2) := by
  refine cn_of MX9_sendToAs_ok (Nat.le_of_ble_eq_true rfl) ?_
  show Ex Γ l f MX9_sendToAs 0 [some (.ref 0), some (.int g), some (.int o), some (.int n), some (.int w), some (.int wi), none] [] G D R 0 0 _
  by_cases h2 : sMeta E o = 2
  · by_cases hi : sIsOf E o g = true
    · have hg : isC E g := by
        unfold sIsOf at hi
        rw [Bool.and_eq_true] at hi
        obtain ⟨x, ex, x1, x2⟩ := sMeta_n hS.B h2
        rw [ex, ix_nI (by omega)] at hi
        obtain ⟨i, -, i2, i3⟩ := (sHas_iff (E := E) (t := x) x2 (g := g) (ix (E 13 x)) 0 (by have := (hS.I.2.1.2.2 x x2).1.le; omega)).mp hi.2
        have := (hS.I.2.1.2.2 x x2).2.1 i (by omega)
        rw [i3] at this
        exact this
      obtain ⟨b, hb, hth, ev, v1, v41, vle⟩ := sim_th hS hg.1
      obtain ⟨⟨hq, h3⟩, ⟨d0, d2, d4, d6⟩, htx, ⟨lq, hlq, hln⟩, hrw⟩ := id hth
      have hv := hg.1
      have ha := c_aor (w := w) (n := n) (o := o) (f := f - 1) hN hr hrun (by omega) hS v41 hrw
      rw [← ev] at ha
      rw [show sSendAs rn E g o n w = sAor rn E g o n w from by unfold sSendAs sAor; rw [if_neg (fun q => q h2), if_neg (by rw [hi]; decide)]]
      refine al0 dX9_sendToAs_0 (by first | nofun | exact xrv_ne _) ?_
      refine il2 dX9_sendToAs_1 ?_
      refine cd9_172 (f' := f - 1) rfl dX9_sendToAs_2 (Nat.le_of_ble_eq_true rfl) (fx0 hS.X) (by omega) (c_meta (by omega) hS) ?_
      refine ex_iconst (v := 2) dX9_sendToAs_5 (by decide) ?_
      refine ex_icmp_eq 20 dX9_sendToAs_6 (by decide) (fun h6 => ?_) (fun h6 => ?_)
      · refine al0 dX9_sendToAs_20 (by first | nofun | exact xrv_ne _) ?_
        refine il1 dX9_sendToAs_21 ?_
        refine cd9_115 (f' := f - 1) rfl dX9_sendToAs_22 (Nat.le_of_ble_eq_true rfl) (fx0 hS.X) (by omega) (c_thing_y hS.X hS.n8 (by rw [hS.A.1]; exact hv) hb) ?_
        refine as6 dX9_sendToAs_25 (by first | nofun | exact xrv_ne _) ?_
        refine al6 dX9_sendToAs_27 (by first | nofun | exact xrv_ne _) ?_
        refine ex_ifnull dX9_sendToAs_29 ?_
        refine al0 dX9_sendToAs_32 (by first | nofun | exact xrv_ne _) ?_
        refine il2 dX9_sendToAs_33 ?_
        refine il1 dX9_sendToAs_34 ?_
        refine cd9_290 (f' := f - 1) rfl dX9_sendToAs_35 (Nat.le_of_ble_eq_true rfl) (fx0 hS.X) (by omega) (c_isOf (by omega) hS) ?_
        rw [hi]
        refine ex_if_ne 52 dX9_sendToAs_38 (by decide) (fun h38 => ?_) (fun h38 => ?_)
        · refine al0 dX9_sendToAs_52 (by first | nofun | exact xrv_ne _) ?_
          refine al6 dX9_sendToAs_53 (by first | nofun | exact xrv_ne _) ?_
          refine gf9_124 rfl dX9_sendToAs_55 (h3) hq ?_
          refine il2 dX9_sendToAs_58 ?_
          refine il3 dX9_sendToAs_59 ?_
          refine il4 dX9_sendToAs_60 ?_
          refine il5 dX9_sendToAs_62 ?_
          refine cs9_274 (f' := f - 1) rfl dX9_sendToAs_64 (Nat.le_of_ble_eq_true rfl) (fx0 hS.X) (by omega) (Nat.zero_le _) (Nat.zero_le _) (ha) ?_
          refine sq_k (fun D1 hS1 hM1 => ?_)
          refine ex_iret dX9_sendToAs_67 rfl ?_
          exact ⟨rfl, rfl, rfl, hS1, hM1⟩
        · exact absurd h38 (by decide)
      · exact absurd h2 h6
    · have hi := nb hi
      rw [show sSendAs rn E g o n w = (0, sFails E 4 o n) from by unfold sSendAs; rw [if_neg (fun q => q h2), if_pos hi]]
      by_cases hv : sIn g 1 (E 0 14) = true
      · obtain ⟨b, hb, hth, ev, v1, v41, vle⟩ := sim_th hS hv
        have hq := hth.1.1
        refine al0 dX9_sendToAs_0 (by first | nofun | exact xrv_ne _) ?_
        refine il2 dX9_sendToAs_1 ?_
        refine cd9_172 (f' := f - 1) rfl dX9_sendToAs_2 (Nat.le_of_ble_eq_true rfl) (fx0 hS.X) (by omega) (c_meta (by omega) hS) ?_
        refine ex_iconst (v := 2) dX9_sendToAs_5 (by decide) ?_
        refine ex_icmp_eq 20 dX9_sendToAs_6 (by decide) (fun h6 => ?_) (fun h6 => ?_)
        · refine al0 dX9_sendToAs_20 (by first | nofun | exact xrv_ne _) ?_
          refine il1 dX9_sendToAs_21 ?_
          refine cd9_115 (f' := f - 1) rfl dX9_sendToAs_22 (Nat.le_of_ble_eq_true rfl) (fx0 hS.X) (by omega) (c_thing_y hS.X hS.n8 (by rw [hS.A.1]; exact hv) hb) ?_
          refine as6 dX9_sendToAs_25 (by first | nofun | exact xrv_ne _) ?_
          refine al6 dX9_sendToAs_27 (by first | nofun | exact xrv_ne _) ?_
          refine ex_ifnull dX9_sendToAs_29 ?_
          refine al0 dX9_sendToAs_32 (by first | nofun | exact xrv_ne _) ?_
          refine il2 dX9_sendToAs_33 ?_
          refine il1 dX9_sendToAs_34 ?_
          refine cd9_290 (f' := f - 1) rfl dX9_sendToAs_35 (Nat.le_of_ble_eq_true rfl) (fx0 hS.X) (by omega) (c_isOf (by omega) hS) ?_
          rw [hi]
          refine ex_if_ne 52 dX9_sendToAs_38 (by decide) (fun h38 => ?_) (fun h38 => ?_)
          · exact absurd rfl h38
          · refine al0 dX9_sendToAs_41 (by first | nofun | exact xrv_ne _) ?_
            refine gf9_57 rfl dX9_sendToAs_42 (fr0_6 hS.X) (fx0 hS.X) ?_
            refine ex_iconst (v := 4) dX9_sendToAs_45 (by decide) ?_
            refine il2 dX9_sendToAs_46 ?_
            refine il3 dX9_sendToAs_47 ?_
            refine cd9_175 (f' := f - 1) rfl dX9_sendToAs_48 (Nat.le_of_ble_eq_true rfl) (fx13 hS.X) (by omega) (c_tell hS.X hS.n13) ?_
            refine ex_iret dX9_sendToAs_51 rfl ?_
            exact ⟨rfl, rfl, rfl, (Sim_tell hS _ _ _).1, (Sim_tell hS _ _ _).2⟩
        · exact absurd h2 h6
      · have hv := nb hv
        refine al0 dX9_sendToAs_0 (by first | nofun | exact xrv_ne _) ?_
        refine il2 dX9_sendToAs_1 ?_
        refine cd9_172 (f' := f - 1) rfl dX9_sendToAs_2 (Nat.le_of_ble_eq_true rfl) (fx0 hS.X) (by omega) (c_meta (by omega) hS) ?_
        refine ex_iconst (v := 2) dX9_sendToAs_5 (by decide) ?_
        refine ex_icmp_eq 20 dX9_sendToAs_6 (by decide) (fun h6 => ?_) (fun h6 => ?_)
        · refine al0 dX9_sendToAs_20 (by first | nofun | exact xrv_ne _) ?_
          refine il1 dX9_sendToAs_21 ?_
          refine cd9_115 (f' := f - 1) rfl dX9_sendToAs_22 (Nat.le_of_ble_eq_true rfl) (fx0 hS.X) (by omega) (c_thing_n hS.X hS.n8 (by rw [hS.A.1]; exact hv)) ?_
          refine as6 dX9_sendToAs_25 (by first | nofun | exact xrv_ne _) ?_
          refine al6 dX9_sendToAs_27 (by first | nofun | exact xrv_ne _) ?_
          refine ex_ifnullN 41 dX9_sendToAs_29 (by decide) ?_
          refine al0 dX9_sendToAs_41 (by first | nofun | exact xrv_ne _) ?_
          refine gf9_57 rfl dX9_sendToAs_42 (fr0_6 hS.X) (fx0 hS.X) ?_
          refine ex_iconst (v := 4) dX9_sendToAs_45 (by decide) ?_
          refine il2 dX9_sendToAs_46 ?_
          refine il3 dX9_sendToAs_47 ?_
          refine cd9_175 (f' := f - 1) rfl dX9_sendToAs_48 (Nat.le_of_ble_eq_true rfl) (fx13 hS.X) (by omega) (c_tell hS.X hS.n13) ?_
          refine ex_iret dX9_sendToAs_51 rfl ?_
          exact ⟨rfl, rfl, rfl, (Sim_tell hS _ _ _).1, (Sim_tell hS _ _ _).2⟩
        · exact absurd h2 h6
  · rw [show sSendAs rn E g o n w = (0, sFails E 1 o n) from by unfold sSendAs; rw [if_pos h2]]
    refine al0 dX9_sendToAs_0 (by first | nofun | exact xrv_ne _) ?_
    refine il2 dX9_sendToAs_1 ?_
    refine cd9_172 (f' := f - 1) rfl dX9_sendToAs_2 (Nat.le_of_ble_eq_true rfl) (fx0 hS.X) (by omega) (c_meta (by omega) hS) ?_
    refine ex_iconst (v := 2) dX9_sendToAs_5 (by decide) ?_
    refine ex_icmp_eq 20 dX9_sendToAs_6 (by decide) (fun h6 => ?_) (fun h6 => ?_)
    · exact absurd h6 h2
    · refine al0 dX9_sendToAs_9 (by first | nofun | exact xrv_ne _) ?_
      refine gf9_57 rfl dX9_sendToAs_10 (fr0_6 hS.X) (fx0 hS.X) ?_
      refine ex_iconst (v := 1) dX9_sendToAs_13 (by decide) ?_
      refine il2 dX9_sendToAs_14 ?_
      refine il3 dX9_sendToAs_15 ?_
      refine cd9_175 (f' := f - 1) rfl dX9_sendToAs_16 (Nat.le_of_ble_eq_true rfl) (fx13 hS.X) (by omega) (c_tell hS.X hS.n13) ?_
      refine ex_iret dX9_sendToAs_19 rfl ?_
      exact ⟨rfl, rfl, rfl, (Sim_tell hS _ _ _).1, (Sim_tell hS _ _ _).2⟩
