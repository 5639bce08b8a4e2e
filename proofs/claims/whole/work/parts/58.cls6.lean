/-! ===== rows: the object at c, lengths at c + 1, values at c + 2 ===== -/
def rk (R : xR) (G : xG) (c : Nat) : Prop := xis G c 4 ∧ R c 0 = some (c + 1) ∧ R c 1 = some (c + 2) ∧ xia G (c + 1) 0 12 ∧ xia G (c + 2) 0 48
def Rv (D : xD) (c : Nat) : Prop := ∀ n, n < 12 → vp_in (D (c + 1) n) 5
theorem sIn_12 {v : Int32} : sIn v 0 11 = true ↔ 0 ≤ v ∧ ¬ 12 ≤ v := by
  rw [sIn_t, i32_le, i32_le, i32_le]
  have : (11 : Int32).toInt = 11 := rfl
  have : (12 : Int32).toInt = 12 := rfl
  omega
theorem sIn_12f {v : Int32} (h : ¬ (0 ≤ v ∧ ¬ 12 ≤ v)) : sIn v 0 11 = false := by
  cases q : sIn v 0 11
  · rfl
  · exact absurd (sIn_12.mp q) h
def rLen (D : xD) (c : Nat) (n : Int32) : Int32 := if sIn n 0 11 = true then D (c + 1) (ix n) else 0
def rHas (D : xD) (c : Nat) (n i : Int32) : Bool := sIn n 0 11 && decide (0 ≤ i) && !decide (D (c + 1) (ix n) ≤ i) && !decide (4 ≤ i)
theorem name_n {n : Nat} (h : n < 12) : sIn (nI n) 0 11 = true := sIn_t.mpr ⟨nI_le (a := 0) (by omega) (by omega), nI_le (b := 11) (by omega) (by decide)⟩
theorem rHas_n {D : xD} {c n i : Nat} (hn : n < 12) (hv : vp_in (D (c + 1) n) 5) (hi : i < ix (D (c + 1) n)) : rHas D c (nI n) (nI i) = true := by
  have e := vi_n hv (by decide)
  unfold rHas
  rw [name_n hn, ix_nI (by omega)]
  have h2 : ¬ D (c + 1) n ≤ nI i := by
    rw [e.1]
    exact nI_ge (by omega) (by omega)
  have h3 : ¬ (4 : Int32) ≤ nI i := nI_ge (b := 4) (by omega) (by decide)
  have h5 : (0 : Int32) ≤ nI i := nI_le (a := 0) (by omega) (by omega)
  simp [h2, h3, h5]
theorem ix_48 {n i : Nat} (hn : n < 12) (hi : i < 4) : vp_in (nI n * 4 + nI i) 48 ∧ ix (nI n * 4 + nI i) = 4 * n + i := by
  have := vi_ln (N := 48) 4 (vi_of (n := n) (N := 12) hn (by decide)) (vi_of (n := i) (N := 4) hi (by decide)) (by decide) (by decide) (by decide) (by decide)
  rw [ix_nI (by omega), ix_nI (by omega)] at this
  rw [Int32.mul_comm]
  exact this
set_option maxRecDepth 20000 in
set_option maxHeartbeats 1000000 in
theorem c_isName {Γ : xGm} {l : Launch} {f : Nat} {G : xG} {D : xD} {R : xR} {n : Int32} : Cn Γ l f MX4_isName [.int n] G D R 0 0 (xdet (some (.int (bi (sIn n 0 11)))) G D R) := by
  refine cn_of MX4_isName_ok (Nat.le_of_ble_eq_true rfl) ?_
  show Ex Γ l f MX4_isName 0 [some (.int n)] [] G D R 0 0 _
  refine il0 dX4_isName_0 ?_
  refine ex_if_lt 14 dX4_isName_1 (by decide) (fun h1 => ?_) (fun h1 => ?_)
  · refine ex_iconst (v := 0) dX4_isName_14 (by decide) ?_
    refine ex_zret dX4_isName_15 rfl (by decide) ?_
    refine ⟨?_, rfl, rfl, rfl⟩
    first | rw [sIn_12.mpr ⟨h1, h7⟩]; rfl | rw [sIn_12f (fun q => absurd q.1 h1)]; rfl | rw [sIn_12f (fun q => absurd h7 q.2)]; rfl
  · refine il0 dX4_isName_4 ?_
    refine ex_bipush (v := 12) dX4_isName_5 (by decide) ?_
    refine ex_icmp_ge 14 dX4_isName_7 (by decide) (fun h7 => ?_) (fun h7 => ?_)
    · refine ex_iconst (v := 0) dX4_isName_14 (by decide) ?_
      refine ex_zret dX4_isName_15 rfl (by decide) ?_
      refine ⟨?_, rfl, rfl, rfl⟩
      first | rw [sIn_12.mpr ⟨h1, h7⟩]; rfl | rw [sIn_12f (fun q => absurd q.1 h1)]; rfl | rw [sIn_12f (fun q => absurd h7 q.2)]; rfl
    · refine ex_iconst (v := 1) dX4_isName_10 (by decide) ?_
      refine ex_goto 15 dX4_isName_11 (by decide) ?_
      refine ex_zret dX4_isName_15 rfl (by decide) ?_
      refine ⟨?_, rfl, rfl, rfl⟩
      first | rw [sIn_12.mpr ⟨h1, h7⟩]; rfl | rw [sIn_12f (fun q => absurd q.1 h1)]; rfl | rw [sIn_12f (fun q => absurd h7 q.2)]; rfl
set_option maxRecDepth 20000 in
set_option maxHeartbeats 1000000 in
theorem c_len {Γ : xGm} {l : Launch} {f : Nat} {G : xG} {D : xD} {R : xR} (hf : 1 ≤ f) {c : Nat} (h : rk R G c) {n : Int32} : Cn Γ l f MX4_lengthOf [.ref c, .int n] G D R 0 0 (xdet (some (.int (rLen D c n))) G D R) := by
  obtain ⟨hq, h0, h1_, hl, hv⟩ := id h
  refine cn_of MX4_lengthOf_ok (Nat.le_of_ble_eq_true rfl) ?_
  show Ex Γ l f MX4_lengthOf 0 [some (.ref c), some (.int n)] [] G D R 0 0 _
  refine il1 dX4_lengthOf_0 ?_
  refine cd4_18 (f' := f - 1) rfl dX4_lengthOf_1 (Nat.le_of_ble_eq_true rfl) (by omega) (c_isName) ?_
  refine ex_if_eq 16 dX4_lengthOf_4 (by decide) (fun h4 => ?_) (fun h4 => ?_)
  · simp only [bi_0, Bool.not_eq_false] at h4
    refine ex_iconst (v := 0) dX4_lengthOf_16 (by decide) ?_
    refine ex_iret dX4_lengthOf_17 rfl ?_
    refine ⟨?_, rfl, rfl, rfl⟩
    unfold rLen
    rw [h4]
    rfl
  · simp only [bi_0, Bool.not_eq_false] at h4
    refine al0 dX4_lengthOf_7 (by first | nofun | exact xrv_ne _) ?_
    refine gf4_9 rfl dX4_lengthOf_8 (h0) hq ?_
    refine il1 dX4_lengthOf_11 ?_
    refine ey_iald dX4_lengthOf_12 hl (vi_n11 h4) ?_
    refine ex_goto 17 dX4_lengthOf_13 (by decide) ?_
    refine ex_iret dX4_lengthOf_17 rfl ?_
    refine ⟨?_, rfl, rfl, rfl⟩
    unfold rLen
    rw [h4]
    rfl
set_option maxRecDepth 20000 in
set_option maxHeartbeats 1000000 in
theorem c_rwhas {Γ : xGm} {l : Launch} {f : Nat} {G : xG} {D : xD} {R : xR} (hf : 1 ≤ f) {c : Nat} (h : rk R G c) {n i : Int32} : Cn Γ l f MX4_has [.ref c, .int n, .int i] G D R 0 0 (xdet (some (.int (bi (rHas D c n i)))) G D R) := by
  obtain ⟨hq, h0, h1_, hl, hv⟩ := id h
  refine cn_of MX4_has_ok (Nat.le_of_ble_eq_true rfl) ?_
  show Ex Γ l f MX4_has 0 [some (.ref c), some (.int n), some (.int i)] [] G D R 0 0 _
  refine il1 dX4_has_0 ?_
  refine cd4_18 (f' := f - 1) rfl dX4_has_1 (Nat.le_of_ble_eq_true rfl) (by omega) (c_isName) ?_
  refine ex_if_eq 30 dX4_has_4 (by decide) (fun h4 => ?_) (fun h4 => ?_)
  · simp only [bi_0, Bool.not_eq_false] at h4
    refine ex_iconst (v := 0) dX4_has_30 (by decide) ?_
    refine ex_zret dX4_has_31 rfl (by decide) ?_
    refine ⟨?_, rfl, rfl, rfl⟩
    unfold rHas
    first | simp [bi, h4, h8, h18, h23] | simp [bi, h4, h8, h18] | simp [bi, h4, h8] | simp [bi, h4]
  · simp only [bi_0, Bool.not_eq_false] at h4
    refine il2 dX4_has_7 ?_
    refine ex_if_lt 30 dX4_has_8 (by decide) (fun h8 => ?_) (fun h8 => ?_)
    · refine ex_iconst (v := 0) dX4_has_30 (by decide) ?_
      refine ex_zret dX4_has_31 rfl (by decide) ?_
      refine ⟨?_, rfl, rfl, rfl⟩
      unfold rHas
      first | simp [bi, h4, h8, h18, h23] | simp [bi, h4, h8, h18] | simp [bi, h4, h8] | simp [bi, h4]
    · refine il2 dX4_has_11 ?_
      refine al0 dX4_has_12 (by first | nofun | exact xrv_ne _) ?_
      refine gf4_9 rfl dX4_has_13 (h0) hq ?_
      refine il1 dX4_has_16 ?_
      refine ey_iald dX4_has_17 hl (vi_n11 h4) ?_
      refine ex_icmp_ge 30 dX4_has_18 (by decide) (fun h18 => ?_) (fun h18 => ?_)
      · refine ex_iconst (v := 0) dX4_has_30 (by decide) ?_
        refine ex_zret dX4_has_31 rfl (by decide) ?_
        refine ⟨?_, rfl, rfl, rfl⟩
        unfold rHas
        first | simp [bi, h4, h8, h18, h23] | simp [bi, h4, h8, h18] | simp [bi, h4, h8] | simp [bi, h4]
      · refine il2 dX4_has_21 ?_
        refine ex_iconst (v := 4) dX4_has_22 (by decide) ?_
        refine ex_icmp_ge 30 dX4_has_23 (by decide) (fun h23 => ?_) (fun h23 => ?_)
        · refine ex_iconst (v := 0) dX4_has_30 (by decide) ?_
          refine ex_zret dX4_has_31 rfl (by decide) ?_
          refine ⟨?_, rfl, rfl, rfl⟩
          unfold rHas
          first | simp [bi, h4, h8, h18, h23] | simp [bi, h4, h8, h18] | simp [bi, h4, h8] | simp [bi, h4]
        · refine ex_iconst (v := 1) dX4_has_26 (by decide) ?_
          refine ex_goto 31 dX4_has_27 (by decide) ?_
          refine ex_zret dX4_has_31 rfl (by decide) ?_
          refine ⟨?_, rfl, rfl, rfl⟩
          unfold rHas
          first | simp [bi, h4, h8, h18, h23] | simp [bi, h4, h8, h18] | simp [bi, h4, h8] | simp [bi, h4]
set_option maxRecDepth 20000 in
set_option maxHeartbeats 1000000 in
theorem c_rat {Γ : xGm} {l : Launch} {f : Nat} {G : xG} {D : xD} {R : xR} (hf : 2 ≤ f) {c : Nat} (h : rk R G c) {n i : Nat} (hn : n < 12) (hv5 : vp_in (D (c + 1) n) 5) (hi : i < ix (D (c + 1) n)) : Cn Γ l f MX4_at [.ref c, .int (nI n), .int (nI i)] G D R 0 0 (xdet (some (.int (D (c + 2) (4 * n + i)))) G D R) := by
  obtain ⟨hq, h0, h1_, hl, hv⟩ := id h
  have hh := rHas_n hn hv5 hi
  have hi4 : i < 4 := by have := (vi_n hv5 (by decide)).2; omega
  refine cn_of MX4_at_ok (Nat.le_of_ble_eq_true rfl) ?_
  show Ex Γ l f MX4_at 0 [some (.ref c), some (.int (nI n)), some (.int (nI i))] [] G D R 0 0 _
  refine al0 dX4_at_0 (by first | nofun | exact xrv_ne _) ?_
  refine il1 dX4_at_1 ?_
  refine il2 dX4_at_2 ?_
  refine cd4_22 (f' := f - 1) rfl dX4_at_3 (Nat.le_of_ble_eq_true rfl) hq (by omega) (c_rwhas (by omega) h) ?_
  refine ex_if_eq 22 dX4_at_6 (by decide) (fun h6 => ?_) (fun h6 => ?_)
  · rw [hh] at h6; exact absurd h6 (by decide)
  · simp only [bi_0, Bool.not_eq_false] at h6
    refine al0 dX4_at_9 (by first | nofun | exact xrv_ne _) ?_
    refine gf4_15 rfl dX4_at_10 (h1_) hq ?_
    refine il1 dX4_at_13 ?_
    refine ex_iconst (v := 4) dX4_at_14 (by decide) ?_
    refine ex_imul dX4_at_15 ?_
    refine il2 dX4_at_16 ?_
    refine ex_iadd dX4_at_17 ?_
    refine ey_iald dX4_at_18 hv (ix_48 hn hi4).1 ?_
    refine ex_goto 23 dX4_at_19 (by decide) ?_
    refine ex_iret dX4_at_23 rfl ?_
    refine ⟨?_, rfl, rfl, rfl⟩
    rw [(ix_48 hn hi4).2]
set_option maxRecDepth 20000 in
set_option maxHeartbeats 1000000 in
theorem c_rput {Γ : xGm} {l : Launch} {f : Nat} {G : xG} {D : xD} {R : xR} (hf : 2 ≤ f) {c : Nat} (h : rk R G c) {n i : Nat} (hn : n < 12) (hv5 : vp_in (D (c + 1) n) 5) (hi : i < ix (D (c + 1) n)) {v : Int32} : Cn Γ l f MX4_put [.ref c, .int (nI n), .int (nI i), .int v] G D R 0 0 (xdet none G (xdu D (c + 2) (4 * n + i) v) R) := by
  obtain ⟨hq, h0, h1_, hl, hv⟩ := id h
  have hh := rHas_n hn hv5 hi
  have hi4 : i < 4 := by have := (vi_n hv5 (by decide)).2; omega
  refine cn_of MX4_put_ok (Nat.le_of_ble_eq_true rfl) ?_
  show Ex Γ l f MX4_put 0 [some (.ref c), some (.int (nI n)), some (.int (nI i)), some (.int v)] [] G D R 0 0 _
  refine al0 dX4_put_0 (by first | nofun | exact xrv_ne _) ?_
  refine il1 dX4_put_1 ?_
  refine il2 dX4_put_2 ?_
  refine cd4_22 (f' := f - 1) rfl dX4_put_3 (Nat.le_of_ble_eq_true rfl) hq (by omega) (c_rwhas (by omega) h) ?_
  refine ex_if_eq 20 dX4_put_6 (by decide) (fun h6 => ?_) (fun h6 => ?_)
  · rw [hh] at h6; exact absurd h6 (by decide)
  · simp only [bi_0, Bool.not_eq_false] at h6
    refine al0 dX4_put_9 (by first | nofun | exact xrv_ne _) ?_
    refine gf4_15 rfl dX4_put_10 (h1_) hq ?_
    refine il1 dX4_put_13 ?_
    refine ex_iconst (v := 4) dX4_put_14 (by decide) ?_
    refine ex_imul dX4_put_15 ?_
    refine il2 dX4_put_16 ?_
    refine ex_iadd dX4_put_17 ?_
    refine il3 dX4_put_18 ?_
    refine ey_iast dX4_put_19 hv (ix_48 hn hi4).1 ?_
    refine ex_vret dX4_put_20 rfl ?_
    refine ⟨rfl, rfl, ?_, rfl⟩
    rw [(ix_48 hn hi4).2]
def cAdd (D : xD) (c n : Nat) (v : Int32) : xD := if 4 ≤ D (c + 1) n then D else xdu (xdu D (c + 1) n (D (c + 1) n + 1)) (c + 2) (4 * n + ix (D (c + 1) n)) v
theorem cAdd_ne {D : xD} {c n p : Nat} {v : Int32} (h1 : p ≠ c + 1) (h2 : p ≠ c + 2) : cAdd D c n v p = D p := by
  unfold cAdd
  split
  · rfl
  · rw [xdu_ne _ _ _ h2, xdu_ne _ _ _ h1]
theorem cAdd_Rv {D : xD} {c n : Nat} {v : Int32} (h : Rv D c) (hn : n < 12) : Rv (cAdd D c n v) c := by
  unfold cAdd
  split
  · exact h
  next q =>
    intro m hm
    rw [xdu_ne _ _ _ (by omega), xdu_self]
    by_cases e : m = n
    · subst e
      rw [upd_self, vi_s (h m hm) (by decide)]
      have := (vi_n (vi_lt (h m hm) (B := 4) (by decide) q) (by decide)).2
      exact vi_of (by omega) (by decide)
    · rw [upd_ne _ _ e]
      exact h m hm
set_option maxRecDepth 20000 in
set_option maxHeartbeats 1000000 in
theorem c_radd1 {Γ : xGm} {l : Launch} {f : Nat} {G : xG} {D : xD} {R : xR} (hf : 3 ≤ f) {c : Nat} (h : rk R G c) (hR : Rv D c) {n : Nat} (hn : n < 12) {v : Int32} : Cn Γ l f MX4_add [.ref c, .int (nI n), .int v] G D R 0 0 (xdet none G (cAdd D c n v) R) := by
  obtain ⟨hq, h0, h1_, hl, hv⟩ := id h
  have en : ix (nI n) = n := ix_nI (by omega)
  refine cn_of MX4_add_ok (Nat.le_of_ble_eq_true rfl) ?_
  show Ex Γ l f MX4_add 0 [some (.ref c), some (.int (nI n)), some (.int v)] [] G D R 0 0 _
  refine il1 dX4_add_0 ?_
  refine cd4_18 (f' := f - 1) rfl dX4_add_1 (Nat.le_of_ble_eq_true rfl) (by omega) (c_isName) ?_
  refine ex_if_eq 41 dX4_add_4 (by decide) (fun h4 => ?_) (fun h4 => ?_)
  · rw [name_n hn] at h4; exact absurd h4 (by decide)
  · simp only [bi_0, Bool.not_eq_false] at h4
    refine al0 dX4_add_7 (by first | nofun | exact xrv_ne _) ?_
    refine gf4_9 rfl dX4_add_8 (h0) hq ?_
    refine il1 dX4_add_11 ?_
    refine ey_iald dX4_add_12 hl (vi_of (n := n) (N := 12) hn (by decide)) ?_
    rw [en]
    refine ex_iconst (v := 4) dX4_add_13 (by decide) ?_
    refine ex_icmp_ge 41 dX4_add_14 (by decide) (fun h14 => ?_) (fun h14 => ?_)
    · refine ex_vret dX4_add_41 rfl ?_
      refine ⟨rfl, rfl, ?_, rfl⟩
      unfold cAdd
      first | rw [if_pos h14] | rw [if_neg h14]
    · refine al0 dX4_add_17 (by first | nofun | exact xrv_ne _) ?_
      refine gf4_9 rfl dX4_add_18 (h0) hq ?_
      refine il1 dX4_add_21 ?_
      refine ex_dup2 dX4_add_22 ?_
      refine ey_iald dX4_add_23 hl (vi_of (n := n) (N := 12) hn (by decide)) ?_
      rw [en]
      refine ex_iconst (v := 1) dX4_add_24 (by decide) ?_
      refine ex_iadd dX4_add_25 ?_
      refine ey_iast dX4_add_26 hl (vi_of (n := n) (N := 12) hn (by decide)) ?_
      rw [en]
      have hR2 := hR n hn
      have e5 := vi_n hR2 (by decide)
      have e4 := (vi_n (vi_lt hR2 (B := 4) (by decide) h14) (by decide)).2
      have es := vi_s hR2 (by decide)
      have eL : xdu D (c + 1) n (D (c + 1) n + 1) (c + 1) n = nI (ix (D (c + 1) n) + 1) := by rw [xdu_self, upd_self, es]
      refine al0 dX4_add_27 (by first | nofun | exact xrv_ne _) ?_
      refine il1 dX4_add_28 ?_
      refine al0 dX4_add_29 (by first | nofun | exact xrv_ne _) ?_
      refine gf4_9 rfl dX4_add_30 (h0) hq ?_
      refine il1 dX4_add_33 ?_
      refine ey_iald dX4_add_34 hl (vi_of (n := n) (N := 12) hn (by decide)) ?_
      rw [en, eL]
      refine ex_iconst (v := 1) dX4_add_35 (by decide) ?_
      refine ex_isub dX4_add_36 ?_
      rw [show nI (ix (D (c + 1) n) + 1) - 1 = nI (ix (D (c + 1) n)) from by rw [show (1 : Int32) = nI 1 from rfl, pk_sub (by omega)]; rfl]
      refine il2 dX4_add_37 ?_
      refine cd4_26 (f' := f - 1) rfl dX4_add_38 (Nat.le_of_ble_eq_true rfl) hq (by omega) (c_rput (D := xdu D (c + 1) n (D (c + 1) n + 1)) (by omega) h hn (by rw [eL]; exact vi_of (by omega) (by decide)) (by rw [eL, ix_nI (by omega)]; omega)) ?_
      refine ex_vret dX4_add_41 rfl ?_
      refine ⟨rfl, rfl, ?_, rfl⟩
      unfold cAdd
      first | rw [if_pos h14] | rw [if_neg h14]
set_option maxRecDepth 20000 in
set_option maxHeartbeats 1000000 in
theorem c_clear {Γ : xGm} {l : Launch} {f : Nat} {G : xG} {D : xD} {R : xR} (hf : 1 ≤ f) {c : Nat} (h : rk R G c) : Cn Γ l f MX4_clearAll [.ref c] G D R 0 0 (xdet none G (xfz D (c + 1) 12) R) := by
  obtain ⟨hq, h0, h1_, hl, hv⟩ := id h
  refine cn_of MX4_clearAll_ok (Nat.le_of_ble_eq_true rfl) ?_
  show Ex Γ l f MX4_clearAll 0 [some (.ref c)] [] G D R 0 0 _
  refine al0 dX4_clearAll_0 (by first | nofun | exact xrv_ne _) ?_
  refine gf4_9 rfl dX4_clearAll_1 (h0) hq ?_
  refine ex_iconst (v := 0) dX4_clearAll_4 (by decide) ?_
  refine cd4_30 (f' := f - 1) rfl dX4_clearAll_5 (Nat.le_of_ble_eq_true rfl) (by omega) (j_fill hl (by decide)) ?_
  refine ex_vret dX4_clearAll_8 rfl ?_
  exact ⟨rfl, rfl, rfl, rfl⟩
def cRowI (D : xD) (c s n i : Nat) : Nat → xD
  | 0 => D
  | m + 1 => cRowI (cAdd D c n (D (s + 2) (4 * n + i))) c s n (i + 1) m
theorem cRowI_ne {c s n p : Nat} (h1 : p ≠ c + 1) (h2 : p ≠ c + 2) : ∀ (m i : Nat) (D : xD), cRowI D c s n i m p = D p
  | 0, _, _ => rfl
  | m + 1, i, D => by rw [cRowI, cRowI_ne h1 h2 m, cAdd_ne h1 h2]
theorem cRowI_Rv {c s n : Nat} (hn : n < 12) : ∀ (m i : Nat) (D : xD), Rv D c → Rv (cRowI D c s n i m) c
  | 0, _, _, h => h
  | m + 1, i, D, h => cRowI_Rv hn m (i + 1) _ (cAdd_Rv h hn)
theorem rk_ne {R : xR} {G : xG} {c s : Nat} (h : rk R G c) (hs : rk R G s) (hne : s ≠ c) : s + 1 ≠ c + 1 ∧ s + 1 ≠ c + 2 ∧ s + 2 ≠ c + 1 ∧ s + 2 ≠ c + 2 := ⟨by omega, xia_ne hs.2.2.2.1 h.2.2.2.2 (by omega), xia_ne hs.2.2.2.2 h.2.2.2.1 (by omega), by omega⟩
set_option maxRecDepth 20000 in
set_option maxHeartbeats 1000000 in
theorem c_arow_lp {Γ : xGm} {l : Launch} {f : Nat} {G : xG} {R : xR} (hf : 4 ≤ f) {c s n : Nat} (h : rk R G c) (hs : rk R G s) (hne : s ≠ c) (hn : n < 12) : ∀ (m i : Nat) (D : xD), Rv D c → Rv D s → i + m = ix (D (s + 1) n) → Ex Γ l f MX4_addRow 2 [some (.ref c), some (.ref s), some (.int (nI n)), some (.int (nI i))] [] G D R 0 0 (xdet none G (cRowI D c s n i m) R) := by
  obtain ⟨z1, z2, z3, z4⟩ := rk_ne h hs hne
  intro m
  induction m with
  | zero =>
    intro i D hR hS hk
    have hk : i = ix (D (s + 1) n) := by omega
    subst hk
    have e := vi_n (hS n hn) (by decide)
    have eL : rLen D s (nI n) = nI (ix (D (s + 1) n)) := by
      unfold rLen
      rw [name_n hn, if_pos rfl, ix_nI (by omega)]
      exact e.1
    refine il3 dX4_addRow_2 ?_
    refine al1 dX4_addRow_3 (by first | nofun | exact xrv_ne _) ?_
    refine il2 dX4_addRow_4 ?_
    refine cd4_40 (f' := f - 1) rfl dX4_addRow_5 (Nat.le_of_ble_eq_true rfl) hs.1 (by omega) (c_len (by omega) hs) ?_
    rw [eL]
    refine ex_icmp_ge 28 dX4_addRow_8 (by decide) (fun h8 => ?_) (fun h8 => ?_)
    · refine ex_vret dX4_addRow_28 rfl ?_
      exact ⟨rfl, rfl, rfl, rfl⟩
    · exact absurd (Int32.le_refl _) h8
  | succ m ih =>
    intro i D hR hS hk
    have e := vi_n (hS n hn) (by decide)
    have eL : rLen D s (nI n) = nI (ix (D (s + 1) n)) := by
      unfold rLen
      rw [name_n hn, if_pos rfl, ix_nI (by omega)]
      exact e.1
    refine il3 dX4_addRow_2 ?_
    refine al1 dX4_addRow_3 (by first | nofun | exact xrv_ne _) ?_
    refine il2 dX4_addRow_4 ?_
    refine cd4_40 (f' := f - 1) rfl dX4_addRow_5 (Nat.le_of_ble_eq_true rfl) hs.1 (by omega) (c_len (by omega) hs) ?_
    rw [eL]
    refine ex_icmp_ge 28 dX4_addRow_8 (by decide) (fun h8 => ?_) (fun h8 => ?_)
    · exact absurd h8 (nI_ge (a := i) (b := ix (D (s + 1) n)) (by omega) (by omega))
    · refine al0 dX4_addRow_11 (by first | nofun | exact xrv_ne _) ?_
      refine il2 dX4_addRow_12 ?_
      refine al1 dX4_addRow_13 (by first | nofun | exact xrv_ne _) ?_
      refine il2 dX4_addRow_14 ?_
      refine il3 dX4_addRow_15 ?_
      refine cd4_44 (f' := f - 1) rfl dX4_addRow_16 (Nat.le_of_ble_eq_true rfl) hs.1 (by omega) (c_rat (by omega) hs hn (hS n hn) (by omega)) ?_
      refine cd4_48 (f' := f - 1) rfl dX4_addRow_19 (Nat.le_of_ble_eq_true rfl) h.1 (by omega) (c_radd1 (by omega) h hR hn) ?_
      refine ic3 (nI (i + 1)) dX4_addRow_22 (nI_1 i) ?_
      refine ex_goto 2 dX4_addRow_25 (by decide) ?_
      exact ih (i + 1) _ (cAdd_Rv hR hn) (fun k hk => by rw [cAdd_ne z1 z2]; exact hS k hk) (by rw [cAdd_ne z1 z2]; omega)
set_option maxRecDepth 20000 in
set_option maxHeartbeats 1000000 in
theorem c_arow {Γ : xGm} {l : Launch} {f : Nat} {G : xG} {D : xD} {R : xR} (hf : 4 ≤ f) {c s n : Nat} (h : rk R G c) (hs : rk R G s) (hne : s ≠ c) (hn : n < 12) (hR : Rv D c) (hS : Rv D s) : Cn Γ l f MX4_addRow [.ref c, .ref s, .int (nI n)] G D R 0 0 (xdet none G (cRowI D c s n 0 (ix (D (s + 1) n))) R) := by
  refine cn_of MX4_addRow_ok (Nat.le_of_ble_eq_true rfl) ?_
  show Ex Γ l f MX4_addRow 0 [some (.ref c), some (.ref s), some (.int (nI n)), none] [] G D R 0 0 _
  refine ex_iconst (v := 0) dX4_addRow_0 (by decide) ?_
  refine is3 dX4_addRow_1 ?_
  exact c_arow_lp hf h hs hne hn (ix (D (s + 1) n)) 0 D hR hS (by omega)
def cInh (D : xD) (c s k : Nat) : Nat → xD
  | 0 => D
  | m + 1 => cInh (if k = 0 ∨ D (c + 1) k = 0 then cRowI D c s k 0 (ix (D (s + 1) k)) else D) c s (k + 1) m
theorem cInh_ne {c s p : Nat} (h1 : p ≠ c + 1) (h2 : p ≠ c + 2) : ∀ (m k : Nat) (D : xD), cInh D c s k m p = D p
  | 0, _, _ => rfl
  | m + 1, k, D => by
    rw [cInh, cInh_ne h1 h2 m]
    split
    · rw [cRowI_ne h1 h2]
    · rfl
theorem cInh_Rv {c s : Nat} : ∀ (m k : Nat) (D : xD), k + m = 12 → Rv D c → Rv (cInh D c s k m) c
  | 0, _, _, _, h => h
  | m + 1, k, D, hk, h => by
    rw [cInh]
    refine cInh_Rv m (k + 1) _ (by omega) ?_
    split
    · exact cRowI_Rv (by omega) _ _ _ h
    · exact h
set_option maxRecDepth 20000 in
set_option maxHeartbeats 1000000 in
theorem c_inh_lp {Γ : xGm} {l : Launch} {f : Nat} {G : xG} {R : xR} (hf : 5 ≤ f) {c s : Nat} (h : rk R G c) (hs : rk R G s) (hne : s ≠ c) : ∀ (m k : Nat) (D : xD), Rv D c → Rv D s → k + m = 12 → Ex Γ l f MX4_inherit 2 [some (.ref c), some (.ref s), some (.int (nI k))] [] G D R 0 0 (xdet none G (cInh D c s k m) R) := by
  obtain ⟨z1, z2, z3, z4⟩ := rk_ne h hs hne
  intro m
  induction m with
  | zero =>
    intro k D hR hS hk
    have hk : k = 12 := by omega
    subst hk
    refine il2 dX4_inherit_2 ?_
    refine ex_bipush (v := 12) dX4_inherit_3 (by decide) ?_
    refine ex_icmp_ge 33 dX4_inherit_5 (by decide) (fun h5 => ?_) (fun h5 => ?_)
    · refine ex_vret dX4_inherit_33 rfl ?_
      exact ⟨rfl, rfl, rfl, rfl⟩
    · exact absurd (by decide) h5
  | succ m ih =>
    intro k D hR hS hk
    have ek : ix (nI k) = k := ix_nI (by omega)
    have k0 : nI k = 0 ↔ k = 0 := ⟨fun q => by rw [← ek, q]; rfl, fun q => by rw [q]; rfl⟩
    have go : (k = 0 ∨ D (c + 1) k = 0) → Ex Γ l f MX4_inherit 2 [some (.ref c), some (.ref s), some (.int (nI (k + 1)))] [] G (cRowI D c s k 0 (ix (D (s + 1) k))) R 0 0 (xdet none G (cInh D c s k (m + 1)) R) := fun q => by
      rw [cInh, if_pos q]
      exact ih (k + 1) _ (cRowI_Rv (by omega) _ _ _ hR) (fun n hn => by rw [cRowI_ne z1 z2]; exact hS n hn) (by omega)
    refine il2 dX4_inherit_2 ?_
    refine ex_bipush (v := 12) dX4_inherit_3 (by decide) ?_
    refine ex_icmp_ge 33 dX4_inherit_5 (by decide) (fun h5 => ?_) (fun h5 => ?_)
    · exact absurd h5 (nI_ge (a := k) (b := 12) (by omega) (by decide))
    · refine il2 dX4_inherit_8 ?_
      refine ex_if_eq 21 dX4_inherit_9 (by decide) (fun h9 => ?_) (fun h9 => ?_)
      · refine al0 dX4_inherit_21 (by first | nofun | exact xrv_ne _) ?_
        refine al1 dX4_inherit_22 (by first | nofun | exact xrv_ne _) ?_
        refine il2 dX4_inherit_23 ?_
        refine cd4_36 (f' := f - 1) rfl dX4_inherit_24 (Nat.le_of_ble_eq_true rfl) h.1 (by omega) (c_arow (by omega) h hs hne (by omega) hR hS) ?_
        refine ic2 (nI (k + 1)) dX4_inherit_27 (nI_1 k) ?_
        refine ex_goto 2 dX4_inherit_30 (by decide) ?_
        first
          | exact go (Or.inl (k0.mp h9))
          | exact go (Or.inr h18)
          | (rw [cInh, if_neg (fun q => q.elim (fun z => h9 (k0.mpr z)) (fun z => h18 z))]
             exact ih (k + 1) _ hR hS (by omega))
      · refine al0 dX4_inherit_12 (by first | nofun | exact xrv_ne _) ?_
        refine gf4_9 rfl dX4_inherit_13 (h.2.1) h.1 ?_
        refine il2 dX4_inherit_16 ?_
        refine ey_iald dX4_inherit_17 h.2.2.2.1 (vi_of (n := k) (N := 12) (by omega) (by decide)) ?_
        rw [ek]
        refine ex_if_ne 27 dX4_inherit_18 (by decide) (fun h18 => ?_) (fun h18 => ?_)
        · refine ic2 (nI (k + 1)) dX4_inherit_27 (nI_1 k) ?_
          refine ex_goto 2 dX4_inherit_30 (by decide) ?_
          first
            | exact go (Or.inl (k0.mp h9))
            | exact go (Or.inr h18)
            | (rw [cInh, if_neg (fun q => q.elim (fun z => h9 (k0.mpr z)) (fun z => h18 z))]
               exact ih (k + 1) _ hR hS (by omega))
        · refine al0 dX4_inherit_21 (by first | nofun | exact xrv_ne _) ?_
          refine al1 dX4_inherit_22 (by first | nofun | exact xrv_ne _) ?_
          refine il2 dX4_inherit_23 ?_
          refine cd4_36 (f' := f - 1) rfl dX4_inherit_24 (Nat.le_of_ble_eq_true rfl) h.1 (by omega) (c_arow (by omega) h hs hne (by omega) hR hS) ?_
          refine ic2 (nI (k + 1)) dX4_inherit_27 (nI_1 k) ?_
          refine ex_goto 2 dX4_inherit_30 (by decide) ?_
          first
            | exact go (Or.inl (k0.mp h9))
            | exact go (Or.inr h18)
            | (rw [cInh, if_neg (fun q => q.elim (fun z => h9 (k0.mpr z)) (fun z => h18 z))]
               exact ih (k + 1) _ hR hS (by omega))
set_option maxRecDepth 20000 in
set_option maxHeartbeats 1000000 in
theorem c_inh {Γ : xGm} {l : Launch} {f : Nat} {G : xG} {D : xD} {R : xR} (hf : 5 ≤ f) {c s : Nat} (h : rk R G c) (hs : rk R G s) (hne : s ≠ c) (hR : Rv D c) (hS : Rv D s) : Cn Γ l f MX4_inherit [.ref c, .ref s] G D R 0 0 (xdet none G (cInh D c s 0 (lk 12)) R) := by
  refine cn_of MX4_inherit_ok (Nat.le_of_ble_eq_true rfl) ?_
  show Ex Γ l f MX4_inherit 0 [some (.ref c), some (.ref s), none] [] G D R 0 0 _
  refine ex_iconst (v := 0) dX4_inherit_0 (by decide) ?_
  refine is2 dX4_inherit_1 ?_
  exact c_inh_lp hf h hs hne (lk 12) 0 D hR hS (by rw [lk_eq])
