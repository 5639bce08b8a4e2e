/-! ===== lines ===== -/
set_option maxRecDepth 20000 in
set_option maxHeartbeats 1000000 in
theorem c_lat {Γ : xGm} {l : Launch} {f : Nat} {G : xG} {D E : xD} {R : xR} {q v : Nat} (h : ln D R G q E v) (hL : Lnp E v) {k : Int32} (hk : vp_in k (ix (E 13 v))) : Cn Γ l f MX1_at [.ref q, .int k] G D R 0 0 (xdet (some (.int (E 14 (41 * v + ix k)))) G D R) := by
  obtain ⟨hq, h0, hl, hn, hg⟩ := id h
  have hle := hL.le
  have hv := hL.1
  refine cn_of MX1_at_ok (Nat.le_of_ble_eq_true rfl) ?_
  show Ex Γ l f MX1_at 0 [some (.ref q), some (.int k)] [] G D R 0 0 _
  refine il1 dX1_at_0 ?_
  refine ex_if_lt 27 dX1_at_1 (by decide) (fun h1 => ?_) (fun h1 => ?_)
  · exact absurd (vi_0le hk) h1
  · refine il1 dX1_at_4 ?_
    refine al0 dX1_at_5 (by first | nofun | exact xrv_ne _) ?_
    refine gf1_15 rfl dX1_at_6 hq ?_
    refine ex_icmp_ge 27 dX1_at_9 (by decide) (fun h9 => ?_) (fun h9 => ?_)
    · exact absurd h9 (by rw [hn]; exact vi_nle hv (by decide) hk)
    · refine il1 dX1_at_12 ?_
      refine ex_bipush (v := 40) dX1_at_13 (by decide) ?_
      refine ex_icmp_ge 27 dX1_at_15 (by decide) (fun h15 => ?_) (fun h15 => ?_)
      · exact absurd h15 (vi_not (n := 40) (vi_le hk hle) (by decide))
      · refine al0 dX1_at_18 (by first | nofun | exact xrv_ne _) ?_
        refine gf1_9 rfl dX1_at_19 (h0) hq ?_
        refine il1 dX1_at_22 ?_
        refine ey_iald dX1_at_23 hl (vi_le hk hle) ?_
        refine ex_goto 28 dX1_at_24 (by decide) ?_
        refine ex_iret dX1_at_28 rfl ?_
        refine ⟨?_, rfl, rfl, rfl⟩
        rw [hg (ix k) (vi_n hk (by omega)).2]
set_option maxRecDepth 20000 in
set_option maxHeartbeats 1000000 in
theorem c_lhas_lp {Γ : xGm} {l : Launch} {f : Nat} {G : xG} {D E : xD} {R : xR} (hf : 1 ≤ f) {q v : Nat} (h : ln D R G q E v) (hL : Lnp E v) (hv41 : v < 41) {g : Int32} : ∀ (n k : Nat), k + n = ix (E 13 v) → Ex Γ l f MX1_has 2 [some (.ref q), some (.int g), some (.int (nI k))] [] G D R 0 0 (xdet (some (.int (bi (sHas E (nI v) g (nI k) n)))) G D R) := by
  obtain ⟨hq, h0, hl, hn, hg⟩ := id h
  have hle := hL.le
  have hv := hL.1
  have e := vi_n hv (by decide)
  intro n
  induction n with
  | zero =>
    intro k hk
    have hk : k = ix (E 13 v) := by omega
    subst hk
    refine il2 dX1_has_2 ?_
    refine al0 dX1_has_3 (by first | nofun | exact xrv_ne _) ?_
    refine gf1_15 rfl dX1_has_4 hq ?_
    rw [hn]
    refine ex_icmp_ge 27 dX1_has_7 (by decide) (fun h7 => ?_) (fun h7 => ?_)
    · refine ex_iconst (v := 0) dX1_has_27 (by decide) ?_
      refine ex_zret dX1_has_28 rfl (by decide) ?_
      exact ⟨rfl, rfl, rfl, rfl⟩
    · exact absurd (by rw [← e.1]; exact Int32.le_refl _) h7
  | succ n ih =>
    intro k hk
    have ek : E 14 (ix (41 * nI v + nI k)) = E 14 (41 * v + ix (nI k)) := by rw [ix41 hv41 (by omega), ix_nI (by omega)]
    refine il2 dX1_has_2 ?_
    refine al0 dX1_has_3 (by first | nofun | exact xrv_ne _) ?_
    refine gf1_15 rfl dX1_has_4 hq ?_
    rw [hn]
    refine ex_icmp_ge 27 dX1_has_7 (by decide) (fun h7 => ?_) (fun h7 => ?_)
    · exact absurd (by rw [e.1] at h7; exact h7) (nI_ge (a := k) (b := ix (E 13 v)) (by omega) (by omega))
    · refine al0 dX1_has_10 (by first | nofun | exact xrv_ne _) ?_
      refine il2 dX1_has_11 ?_
      refine cd1_19 (f' := f - 1) rfl dX1_has_12 (Nat.le_of_ble_eq_true rfl) hq (by omega) (c_lat h hL (vi_of (n := k) (by omega) (by omega))) ?_
      refine il1 dX1_has_15 ?_
      refine ex_icmp_ne 21 dX1_has_16 (by decide) (fun h16 => ?_) (fun h16 => ?_)
      · refine ic2 (nI (k + 1)) dX1_has_21 (nI_1 k) ?_
        refine ex_goto 2 dX1_has_24 (by decide) ?_
        rw [show sHas E (nI v) g (nI k) (n + 1) = sHas E (nI v) g (nI (k + 1)) n from by rw [sHas, ek, if_neg h16, ← nI_1 k]]
        exact ih (k + 1) (by omega)
      · refine ex_iconst (v := 1) dX1_has_19 (by decide) ?_
        refine ex_zret dX1_has_20 rfl (by decide) ?_
        refine ⟨?_, rfl, rfl, rfl⟩
        rw [sHas, ek, if_pos h16]
        rfl
set_option maxRecDepth 20000 in
set_option maxHeartbeats 1000000 in
theorem c_lhas {Γ : xGm} {l : Launch} {f : Nat} {G : xG} {D E : xD} {R : xR} (hf : 1 ≤ f) {q v : Nat} (h : ln D R G q E v) (hL : Lnp E v) (hv41 : v < 41) {g : Int32} : Cn Γ l f MX1_has [.ref q, .int g] G D R 0 0 (xdet (some (.int (bi (sHas E (nI v) g 0 (ix (E 13 v)))))) G D R) := by
  refine cn_of MX1_has_ok (Nat.le_of_ble_eq_true rfl) ?_
  show Ex Γ l f MX1_has 0 [some (.ref q), some (.int g), none] [] G D R 0 0 _
  refine ex_iconst (v := 0) dX1_has_0 (by decide) ?_
  refine is2 dX1_has_1 ?_
  exact c_lhas_lp hf h hL hv41 (ix (E 13 v)) 0 (by omega)
def cLadd (D : xD) (q : Nat) (g : Int32) (E : xD) (v : Nat) : xD := if sHas E (nI v) g 0 (ix (E 13 v)) = true then D else xdu (xdu D (q + 1) (ix (E 13 v)) g) q 1 (E 13 v + 1)
theorem sAddTo_40 {E : xD} {t j : Nat} (ht : t < 41) (hL : Lnp E t) (h1 : 1 ≤ j) (h40 : j ≤ 40) (hn : sHas E (nI t) (nI j) 0 (ix (E 13 t)) = false) : ix (E 13 t) < 40 := by
  rcases sAddTo_do ht hL h1 h40 with ⟨-, i, a, b⟩ | ⟨-, a, -⟩
  · have := (sAddTo_has ht hL.1 (g := nI j)).mpr ⟨i, a, b⟩
    rw [ix_nI (by omega), hn] at this
    cases this
  · exact a
theorem ln_add {D E : xD} {R : xR} {G : xG} {q v j : Nat} (h : ln D R G q E v) (hL : Lnp E v) (hv : v < 41) (h1 : 1 ≤ j) (h40 : j ≤ 40) : ln (cLadd D q (nI j) E v) R G q (sAddTo E (nI v) (nI j)) v := by
  obtain ⟨hq, h0, hl, hn, hg⟩ := h
  have ev : ix (nI v) = v := ix_nI (by omega)
  have e := vi_n hL.1 (by decide)
  have hle := hL.le
  unfold cLadd sAddTo
  rw [ev]
  by_cases hh : sHas E (nI v) (nI j) 0 (ix (E 13 v)) = true
  · rw [if_pos hh, if_pos hh]
    exact ⟨hq, h0, hl, hn, hg⟩
  · rw [if_neg hh, if_neg hh]
    have h4 := sAddTo_40 hv hL h1 h40 (by simpa using hh)
    have e1 : E 13 v + 1 = nI (ix (E 13 v) + 1) := vi_s hL.1 (by decide)
    refine ⟨hq, h0, hl, ?_, ?_⟩
    · rw [xdu_self, upd_self, xdu_self, upd_self]
    · intro k hk
      rw [xdu_self, upd_self, e1, ix_nI (by omega)] at hk
      have e4 : ix (41 * nI v + E 13 v) = 41 * v + ix (E 13 v) := by
        conv => lhs; rw [e.1]
        exact ix41 hv (by omega)
      rw [xdu_ne _ _ _ (by omega), xdu_self, xdu_ne _ _ _ (by decide), xdu_self, e4]
      by_cases hk2 : k = ix (E 13 v)
      · subst hk2
        rw [upd_self, upd_self]
      · rw [upd_ne _ _ hk2, upd_ne _ _ (by omega)]
        exact hg k (by omega)
theorem cLadd_ne {D E : xD} {q v p : Nat} {g : Int32} (h : p ≠ q) (h1 : p ≠ q + 1) : cLadd D q g E v p = D p := by
  unfold cLadd
  split
  · rfl
  · rw [xdu_ne _ _ _ h, xdu_ne _ _ _ h1]
set_option maxRecDepth 20000 in
set_option maxHeartbeats 1000000 in
theorem c_ladd {Γ : xGm} {l : Launch} {f : Nat} {G : xG} {D E : xD} {R : xR} (hf : 2 ≤ f) {q v : Nat} (h : ln D R G q E v) (hL : Lnp E v) (hv41 : v < 41) {j : Nat} (j1 : 1 ≤ j) (j2 : j ≤ 40) : Cn Γ l f MX1_add [.ref q, .int (nI j)] G D R 0 0 (xdet none G (cLadd D q (nI j) E v) R) := by
  obtain ⟨hq, h0, hl, hn, hg⟩ := id h
  have hle := hL.le
  have hv := hL.1
  refine cn_of MX1_add_ok (Nat.le_of_ble_eq_true rfl) ?_
  show Ex Γ l f MX1_add 0 [some (.ref q), some (.int (nI j))] [] G D R 0 0 _
  refine al0 dX1_add_0 (by first | nofun | exact xrv_ne _) ?_
  refine gf1_15 rfl dX1_add_1 hq ?_
  rw [hn]
  refine ex_if_lt 44 dX1_add_4 (by decide) (fun h4 => ?_) (fun h4 => ?_)
  · exact absurd (vi_0le hv) h4
  · refine al0 dX1_add_7 (by first | nofun | exact xrv_ne _) ?_
    refine gf1_15 rfl dX1_add_8 hq ?_
    refine ex_bipush (v := 40) dX1_add_11 (by decide) ?_
    rw [hn]
    refine ex_icmp_ge 44 dX1_add_13 (by decide) (fun h13 => ?_) (fun h13 => ?_)
    · refine ex_vret dX1_add_44 rfl ?_
      refine ⟨rfl, rfl, ?_, rfl⟩
      unfold cLadd
      by_cases hh : sHas E (nI v) (nI j) 0 (ix (E 13 v)) = true
      · rw [if_pos hh]
        first | done | (rw [hh] at h21; cases h21)
      · rw [if_neg hh]
        first | done | exact absurd h21 hh | exact absurd h13 (vi_not (n := 40) (by rw [(vi_n hv (by decide)).1]; exact vi_of (sAddTo_40 hv41 hL j1 j2 (by simpa using hh)) (by decide)) (by decide))
    · refine al0 dX1_add_16 (by first | nofun | exact xrv_ne _) ?_
      refine il1 dX1_add_17 ?_
      refine cd1_23 (f' := f - 1) rfl dX1_add_18 (Nat.le_of_ble_eq_true rfl) hq (by omega) (c_lhas (by omega) h hL hv41) ?_
      refine ex_if_ne 44 dX1_add_21 (by decide) (fun h21 => ?_) (fun h21 => ?_)
      · simp only [bi_0, Bool.not_eq_false] at h21
        refine ex_vret dX1_add_44 rfl ?_
        refine ⟨rfl, rfl, ?_, rfl⟩
        unfold cLadd
        by_cases hh : sHas E (nI v) (nI j) 0 (ix (E 13 v)) = true
        · rw [if_pos hh]
          first | done | (rw [hh] at h21; cases h21)
        · rw [if_neg hh]
          first | done | exact absurd h21 hh | exact absurd h13 (vi_not (n := 40) (by rw [(vi_n hv (by decide)).1]; exact vi_of (sAddTo_40 hv41 hL j1 j2 (by simpa using hh)) (by decide)) (by decide))
      · simp only [bi_0, Bool.not_eq_false] at h21
        refine al0 dX1_add_24 (by first | nofun | exact xrv_ne _) ?_
        refine gf1_9 rfl dX1_add_25 (h0) hq ?_
        refine al0 dX1_add_28 (by first | nofun | exact xrv_ne _) ?_
        refine gf1_15 rfl dX1_add_29 hq ?_
        rw [hn]
        refine il1 dX1_add_32 ?_
        refine ey_iast dX1_add_33 hl (vi_lt hv (by decide) h13) ?_
        refine al0 dX1_add_34 (by first | nofun | exact xrv_ne _) ?_
        refine ex_dup dX1_add_35 ?_
        refine gf1_15 rfl dX1_add_36 hq ?_
        rw [xdu_ne _ _ _ (show q ≠ q + 1 by omega), hn]
        refine ex_iconst (v := 1) dX1_add_39 (by decide) ?_
        refine ex_iadd dX1_add_40 ?_
        refine pf1_15 rfl dX1_add_41 hq ?_
        refine ex_vret dX1_add_44 rfl ?_
        refine ⟨rfl, rfl, ?_, rfl⟩
        unfold cLadd
        by_cases hh : sHas E (nI v) (nI j) 0 (ix (E 13 v)) = true
        · rw [if_pos hh]
          first | done | (rw [hh] at h21; cases h21)
        · rw [if_neg hh]
          first | done | exact absurd h21 hh | exact absurd h13 (vi_not (n := 40) (by rw [(vi_n hv (by decide)).1]; exact vi_of (sAddTo_40 hv41 hL j1 j2 (by simpa using hh)) (by decide)) (by decide))
def cLall (D : xD) (q : Nat) (E : xD) (v u k : Nat) : Nat → xD
  | 0 => D
  | n + 1 => cLall (cLadd D q (E 14 (41 * u + k)) E v) q (sAddTo E (nI v) (E 14 (41 * u + k))) v u (k + 1) n
theorem cLall_ne {q v u p : Nat} (h : p ≠ q) (h1 : p ≠ q + 1) : ∀ (n k : Nat) (D E : xD), cLall D q E v u k n p = D p
  | 0, _, _, _ => rfl
  | n + 1, k, D, E => by rw [cLall, cLall_ne h h1 n, cLadd_ne h h1]
theorem ln.same {D D' E E' : xD} {R : xR} {G : xG} {q v : Nat} (h : ln D R G q E v) (h0 : D' q = D q) (h1 : D' (q + 1) = D (q + 1)) (h13 : E' 13 v = E 13 v) (h14 : ∀ k, k < 41 → E' 14 (41 * v + k) = E 14 (41 * v + k)) (hL : ix (E 13 v) ≤ 41) : ln D' R G q E' v := by
  obtain ⟨hq, hr, hl, hn, hg⟩ := h
  refine ⟨hq, hr, hl, by rw [h0, h13]; exact hn, fun k hk => ?_⟩
  rw [h13] at hk
  rw [h1, h14 k (by omega)]
  exact hg k hk
theorem ln_all {R : xR} {G : xG} {q q2 v u : Nat} (hv : v < 41) (hu : u < 41) (hne : v ≠ u) (hqq : q2 ≠ q) : ∀ (n k : Nat) (D E : xD), ln D R G q E v → Lnp E v → ln D R G q2 E u → Lnp E u → k + n = ix (E 13 u) → ln (cLall D q E v u k n) R G q (sJoinL E (nI v) (nI u) (nI k) n) v := by
  intro n
  induction n with
  | zero => intro k D E h _ _ _ _; exact h
  | succ n ih =>
    intro k D E h hL h2 hL2 hk
    have hle := hL2.le
    obtain ⟨j, j1, j2, hj⟩ := hL2.2.1 k (by omega)
    obtain ⟨s1, s2⟩ := sAddTo_S hv hL j1 j2
    rw [cLall, sJoinL, ix41 hu (by omega), hj, show nI k + 1 = nI (k + 1) from nI_1 k]
    refine ih (k + 1) _ _ (ln_add h hL hv j1 j2) s2 (h2.same (cLadd_ne hqq ?_) (cLadd_ne ?_ ?_) (s1.2.1 u (Ne.symm hne)) (fun z hz => s1.2.2 _ (by omega)) (by omega)) ?_ ?_
    · exact xis_xia h2.1 h.2.2.1 (by decide)
    · exact Ne.symm (xis_xia h.1 h2.2.2.1 (by decide))
    · omega
    · refine ⟨by rw [s1.2.1 u (Ne.symm hne)]; exact hL2.1, ?_, ?_⟩
      · intro z hz
        rw [s1.2.1 u (Ne.symm hne)] at hz
        rw [s1.2.2 _ (by omega)]
        exact hL2.2.1 z hz
      · intro a b ha hb
        rw [s1.2.1 u (Ne.symm hne)] at ha hb
        rw [s1.2.2 _ (by omega), s1.2.2 _ (by omega)]
        exact hL2.2.2 a b ha hb
    · rw [s1.2.1 u (Ne.symm hne)]
      omega
set_option maxRecDepth 20000 in
set_option maxHeartbeats 1000000 in
theorem c_lall_lp {Γ : xGm} {l : Launch} {f : Nat} {G : xG} {R : xR} (hf : 3 ≤ f) {q q2 v u : Nat} (hv : v < 41) (hu : u < 41) (hne : v ≠ u) (hqq : q2 ≠ q) : ∀ (n k : Nat) (D E : xD), ln D R G q E v → Lnp E v → ln D R G q2 E u → Lnp E u → k + n = ix (E 13 u) → Ex Γ l f MX1_addAll 2 [some (.ref q), some (.ref q2), some (.int (nI k))] [] G D R 0 0 (xdet none G (cLall D q E v u k n) R) := by
  intro n
  induction n with
  | zero =>
    intro k D E h hL h2 hL2 hk
    have hk : k = ix (E 13 u) := by omega
    subst hk
    have e := vi_n hL2.1 (by decide)
    refine il2 dX1_addAll_2 ?_
    refine al1 dX1_addAll_3 (by first | nofun | exact xrv_ne _) ?_
    refine gf1_15 rfl dX1_addAll_4 (h2.1) ?_
    rw [h2.2.2.2.1]
    refine ex_icmp_ge 25 dX1_addAll_7 (by decide) (fun h7 => ?_) (fun h7 => ?_)
    · refine ex_vret dX1_addAll_25 rfl ?_
      exact ⟨rfl, rfl, rfl, rfl⟩
    · exact absurd (by rw [← e.1]; exact Int32.le_refl _) h7
  | succ n ih =>
    intro k D E h hL h2 hL2 hk
    have hle := hL2.le
    have e := vi_n hL2.1 (by decide)
    obtain ⟨j, j1, j2, hj⟩ := hL2.2.1 k (by omega)
    obtain ⟨s1, s2⟩ := sAddTo_S hv hL j1 j2
    rw [cLall, hj]
    refine il2 dX1_addAll_2 ?_
    refine al1 dX1_addAll_3 (by first | nofun | exact xrv_ne _) ?_
    refine gf1_15 rfl dX1_addAll_4 (h2.1) ?_
    rw [h2.2.2.2.1]
    refine ex_icmp_ge 25 dX1_addAll_7 (by decide) (fun h7 => ?_) (fun h7 => ?_)
    · exact absurd (by rw [e.1] at h7; exact h7) (nI_ge (a := k) (b := ix (E 13 u)) (by omega) (by omega))
    · refine al0 dX1_addAll_10 (by first | nofun | exact xrv_ne _) ?_
      refine al1 dX1_addAll_11 (by first | nofun | exact xrv_ne _) ?_
      refine il2 dX1_addAll_12 ?_
      refine cd1_19 (f' := f - 1) rfl dX1_addAll_13 (Nat.le_of_ble_eq_true rfl) (h2.1) (by omega) (c_lat h2 hL2 (vi_of (n := k) (by omega) (by omega))) ?_
      rw [ix_nI (show k < 2 ^ 31 by omega), hj]
      refine cd1_27 (f' := f - 1) rfl dX1_addAll_16 (Nat.le_of_ble_eq_true rfl) (h.1) (by omega) (c_ladd (by omega) h hL hv j1 j2) ?_
      refine ic2 (nI (k + 1)) dX1_addAll_19 (nI_1 k) ?_
      refine ex_goto 2 dX1_addAll_22 (by decide) ?_
      refine ih (k + 1) _ _ (ln_add h hL hv j1 j2) s2 (h2.same (cLadd_ne hqq (xis_xia h2.1 h.2.2.1 (by decide))) (cLadd_ne (Ne.symm (xis_xia h.1 h2.2.2.1 (by decide))) (by omega)) (s1.2.1 u (Ne.symm hne)) (fun z hz => s1.2.2 _ (by omega)) (by omega)) ?_ ?_
      · refine ⟨by rw [s1.2.1 u (Ne.symm hne)]; exact hL2.1, ?_, ?_⟩
        · intro z hz
          rw [s1.2.1 u (Ne.symm hne)] at hz
          rw [s1.2.2 _ (by omega)]
          exact hL2.2.1 z hz
        · intro a b ha hb
          rw [s1.2.1 u (Ne.symm hne)] at ha hb
          rw [s1.2.2 _ (by omega), s1.2.2 _ (by omega)]
          exact hL2.2.2 a b ha hb
      · rw [s1.2.1 u (Ne.symm hne)]
        omega
set_option maxRecDepth 20000 in
set_option maxHeartbeats 1000000 in
theorem c_lall {Γ : xGm} {l : Launch} {f : Nat} {G : xG} {D E : xD} {R : xR} (hf : 3 ≤ f) {q q2 v u : Nat} (hv : v < 41) (hu : u < 41) (hne : v ≠ u) (hqq : q2 ≠ q) (h : ln D R G q E v) (hL : Lnp E v) (h2 : ln D R G q2 E u) (hL2 : Lnp E u) : Cn Γ l f MX1_addAll [.ref q, .ref q2] G D R 0 0 (xdet none G (cLall D q E v u 0 (ix (E 13 u))) R) := by
  refine cn_of MX1_addAll_ok (Nat.le_of_ble_eq_true rfl) ?_
  show Ex Γ l f MX1_addAll 0 [some (.ref q), some (.ref q2), none] [] G D R 0 0 _
  refine ex_iconst (v := 0) dX1_addAll_0 (by decide) ?_
  refine is2 dX1_addAll_1 ?_
  exact c_lall_lp hf hv hu hne hqq (ix (E 13 u)) 0 D E h hL h2 hL2 (by omega)
