/-! ===== arrays ===== -/
theorem cDiv_neg {i : Int32} (h : ¬ 0 ≤ i) : ¬ 0 ≤ cDiv i := by
  have hi : i.toInt < 0 := by
    rw [i32_le] at h
    have : (0 : Int32).toInt = 0 := rfl
    omega
  have hlo : -2147483648 ≤ i.toInt := Int32.minValue_le_toInt i
  have e4 : (4 : Int32).toInt = 4 := rfl
  have hq : (i / 4).toInt = -((-i.toInt) / 4) := by
    rw [Int32.toInt_div, e4]
    have : i.toInt.tdiv 4 = -((-i.toInt) / 4) := by
      conv => lhs; rw [show i.toInt = -(-i.toInt) by omega]
      rw [Int.neg_tdiv, Int.tdiv_eq_ediv_of_nonneg (by omega)]
    rw [this]
    exact Int.bmod_eq_of_le (by omega) (by omega)
  unfold cDiv
  rw [if_neg h]
  split
  next e =>
    intro q
    rw [i32_le, hq] at q
    have z : (0 : Int32).toInt = 0 := rfl
    have hz : i / 4 = 0 := Int32.toInt_inj.mp (by rw [hq, z]; omega)
    rw [hz, Int32.zero_mul] at e
    rw [← e] at hi
    exact absurd hi (by decide)
  next =>
    intro q
    have e1 : (i / 4 - 1).toInt = (i / 4).toInt - 1 := by
      rw [Int32.toInt_sub, show (1 : Int32).toInt = 1 from rfl]
      exact Int.bmod_eq_of_le (by omega) (by omega)
    rw [i32_le, e1, hq] at q
    have z : (0 : Int32).toInt = 0 := rfl
    omega
theorem wHas_t {E : xD} {a : Nat} {i : Int32} : wHas E a i = true ↔ 0 ≤ i ∧ ¬ E 8 a ≤ i := by
  unfold wHas
  simp only [Bool.and_eq_true, decide_eq_true_eq, Bool.not_eq_true', decide_eq_false_iff_not]
theorem wHas_1 {E : xD} {a : Nat} {i : Int32} (h8 : vp_in (E 8 a) 11) : wHas E a i = true ↔ sIn i 0 (1 * E 8 a - 1) = true := by
  rw [wHas_t, Int32.one_mul, sIn_lt h8 (by decide)]
theorem cDiv_pos {k : Nat} (hk : k < 2 ^ 31) : cDiv (nI k) = nI (k / 4) ∧ cMod (nI k) = nI (k % 4) := by
  have h : (0 : Int32) ≤ nI k := nI_le (a := 0) (by omega) hk
  unfold cDiv cMod
  rw [if_pos h, if_pos h, show (4 : Int32) = nI 4 from rfl, pk_div hk (by decide) (by decide)]
  refine ⟨rfl, ?_⟩
  have := pk_rem (a := k) (d := 4) hk (by decide) (by decide)
  rw [pk_div hk (by decide) (by decide)] at this
  exact this
theorem wHas_4 {E : xD} {a : Nat} {i : Int32} (h8 : vp_in (E 8 a) 11) : wHas E a (cDiv i) = true ↔ sIn i 0 (4 * E 8 a - 1) = true := by
  obtain ⟨e8, l8⟩ := vi_n h8 (by decide)
  have e48 : 4 * E 8 a = nI (4 * ix (E 8 a)) := by
    conv => lhs; rw [e8]
    rw [show (4 : Int32) = nI 4 from rfl, pk_mul]
  rw [wHas_t, e48, sIn_lt (vi_of (n := 4 * ix (E 8 a)) (N := 41) (by omega) (by decide)) (by decide)]
  by_cases h : 0 ≤ i
  · obtain ⟨k, hk, rfl⟩ := nI_of (show ¬ i < 0 from fun q => by
      rw [Int32.lt_iff_toInt_lt] at q
      rw [i32_le] at h
      omega)
    have hA : (E 8 a ≤ nI (k / 4)) ↔ ix (E 8 a) ≤ k / 4 := by
      conv => lhs; rw [e8]
      exact nI_leI (by omega) (by omega)
    rw [(cDiv_pos hk).1, hA, nI_leI (by omega) hk]
    have h1 : (0 : Int32) ≤ nI (k / 4) := nI_le (a := 0) (by omega) (by omega)
    constructor
    · exact fun q => ⟨h, by omega⟩
    · exact fun q => ⟨h1, by omega⟩
  · exact ⟨fun q => absurd q.1 (cDiv_neg h), fun q => absurd q.1 h⟩
theorem shr_and {x s : Int32} {k : Nat} (h1 : (s.toBitVec.smod 32).toNat = k) (h2 : ((s.toUInt32 &&& Int32.toUInt32 31).toBitVec % 32).toNat = k) (hk : k = 0 ∨ k = 8 ∨ k = 16 ∨ k = 24) : (x.toUInt32 >>> (s.toUInt32 &&& Int32.toUInt32 31)).toInt32 &&& 255 = (x >>> s) &&& 255 := by
  rw [pk_and _ 8 (by decide), pk_and _ 8 (by decide)]
  congr 1
  have a := pk_shr x s k h1
  have e1 : ∀ y : Int32, y.toInt = if 2 * y.toBitVec.toNat < 2 ^ 32 then (y.toBitVec.toNat : Int) else (y.toBitVec.toNat : Int) - 2 ^ 32 := fun y => BitVec.toInt_eq_toNat_cond y.toBitVec
  have b : ((x.toUInt32 >>> (s.toUInt32 &&& Int32.toUInt32 31)).toInt32).toBitVec.toNat = x.toBitVec.toNat / 2 ^ k := by
    have := pk_ushr x s k h2
    rw [this]
  rw [b]
  rw [e1 (x >>> s), e1 x] at a
  have hx : x.toBitVec.toNat < 2 ^ 32 := x.toBitVec.isLt
  have hs : (x >>> s).toBitVec.toNat < 2 ^ 32 := (x >>> s).toBitVec.isLt
  generalize x.toBitVec.toNat = X at *
  generalize (x >>> s).toBitVec.toNat = Y at *
  rw [Int.shiftRight_eq_div_pow] at a
  rcases hk with rfl | rfl | rfl | rfl
  all_goals
    simp only [show ((2 ^ 0 : Nat) : Int) = 1 from rfl, show ((2 ^ 8 : Nat) : Int) = 256 from rfl, show ((2 ^ 16 : Nat) : Int) = 65536 from rfl, show ((2 ^ 24 : Nat) : Int) = 16777216 from rfl] at a
    split at a <;> split at a <;> omega
set_option maxRecDepth 20000 in
set_option maxHeartbeats 1000000 in
theorem c_aww_y {Γ : xGm} {l : Launch} {f : Nat} {G : xG} {D E : xD} {R : xR} (hf : 1 ≤ f) (hS : Sim D R G E) {a wd pl : Int32} {b : Nat} (hv4 : sIn a 301 (300 + E 0 11) = true) (hb : R 4 (ix (a - 301)) = some b) (har : ar D R G b E (ix (a - 301))) (h10 : ix (a - 301) < 10) (hw : wHas E (ix (a - 301)) wd = true) : Cn Γ l f MX9_arrayWithWord [.ref 0, .int a, .int wd, .int pl] G D R 0 0 (xdet (some (xrv (some b))) G D R) := by
  refine cn_of MX9_arrayWithWord_ok (Nat.le_of_ble_eq_true rfl) ?_
  show Ex Γ l f MX9_arrayWithWord 0 [some (.ref 0), some (.int a), some (.int wd), some (.int pl), none] [] G D R 0 0 _
  have h8 := hS.B.a8 h10
  refine al0 dX9_arrayWithWord_0 (by first | nofun | exact xrv_ne _) ?_
  refine il1 dX9_arrayWithWord_1 ?_
  refine cd9_206 (f' := f - 1) rfl dX9_arrayWithWord_2 (Nat.le_of_ble_eq_true rfl) (fx0 hS.X) (by omega) (c_array_y hS.X hS.n11 (by rw [hS.A.2.2.2.1]; exact hv4) hb) ?_
  refine as4 dX9_arrayWithWord_5 (by first | nofun | exact xrv_ne _) ?_
  refine al4 dX9_arrayWithWord_7 (by first | nofun | exact xrv_ne _) ?_
  refine ex_ifnull dX9_arrayWithWord_9 ?_
  refine al4 dX9_arrayWithWord_12 (by first | nofun | exact xrv_ne _) ?_
  refine il2 dX9_arrayWithWord_14 ?_
  refine cd9_267 (f' := f - 1) rfl dX9_arrayWithWord_15 (Nat.le_of_ble_eq_true rfl) har.1 (by omega) (c_whas har h8) ?_
  refine ex_if_eq 24 dX9_arrayWithWord_18 (by decide) (fun h18 => ?_) (fun h18 => ?_)
  · rw [hw] at h18; exact absurd h18 (by decide)
  · simp only [bi_0, Bool.not_eq_false] at h18
    refine al4 dX9_arrayWithWord_21 (by first | nofun | exact xrv_ne _) ?_
    refine ex_aret dX9_arrayWithWord_23 rfl (by first | nofun | exact xrv_ne _) ?_
    exact ⟨rfl, rfl, rfl, rfl⟩
set_option maxRecDepth 20000 in
set_option maxHeartbeats 1000000 in
theorem c_aww_n {Γ : xGm} {l : Launch} {f : Nat} {G : xG} {D E : xD} {R : xR} (hf : 1 ≤ f) (hS : Sim D R G E) {a wd pl : Int32} {b : Nat} (hv4 : sIn a 301 (300 + E 0 11) = true) (hb : R 4 (ix (a - 301)) = some b) (har : ar D R G b E (ix (a - 301))) (h10 : ix (a - 301) < 10) (hw : wHas E (ix (a - 301)) wd = false) : Cn Γ l f MX9_arrayWithWord [.ref 0, .int a, .int wd, .int pl] G D R 0 0 (xdet (some (xrv none)) G (cTell D 12 a pl) R) := by
  refine cn_of MX9_arrayWithWord_ok (Nat.le_of_ble_eq_true rfl) ?_
  show Ex Γ l f MX9_arrayWithWord 0 [some (.ref 0), some (.int a), some (.int wd), some (.int pl), none] [] G D R 0 0 _
  have h8 := hS.B.a8 h10
  refine al0 dX9_arrayWithWord_0 (by first | nofun | exact xrv_ne _) ?_
  refine il1 dX9_arrayWithWord_1 ?_
  refine cd9_206 (f' := f - 1) rfl dX9_arrayWithWord_2 (Nat.le_of_ble_eq_true rfl) (fx0 hS.X) (by omega) (c_array_y hS.X hS.n11 (by rw [hS.A.2.2.2.1]; exact hv4) hb) ?_
  refine as4 dX9_arrayWithWord_5 (by first | nofun | exact xrv_ne _) ?_
  refine al4 dX9_arrayWithWord_7 (by first | nofun | exact xrv_ne _) ?_
  refine ex_ifnull dX9_arrayWithWord_9 ?_
  refine al4 dX9_arrayWithWord_12 (by first | nofun | exact xrv_ne _) ?_
  refine il2 dX9_arrayWithWord_14 ?_
  refine cd9_267 (f' := f - 1) rfl dX9_arrayWithWord_15 (Nat.le_of_ble_eq_true rfl) har.1 (by omega) (c_whas har h8) ?_
  refine ex_if_eq 24 dX9_arrayWithWord_18 (by decide) (fun h18 => ?_) (fun h18 => ?_)
  · skip
    refine al0 dX9_arrayWithWord_24 (by first | nofun | exact xrv_ne _) ?_
    refine gf9_57 rfl dX9_arrayWithWord_25 (fr0_6 hS.X) (fx0 hS.X) ?_
    refine al4 dX9_arrayWithWord_28 (by first | nofun | exact xrv_ne _) ?_
    refine ex_ifnonnull 38 dX9_arrayWithWord_30 (by decide) ?_
    refine ex_bipush (v := 12) dX9_arrayWithWord_38 (by decide) ?_
    refine il1 dX9_arrayWithWord_40 ?_
    refine il3 dX9_arrayWithWord_41 ?_
    refine cd9_175 (f' := f - 1) rfl dX9_arrayWithWord_42 (Nat.le_of_ble_eq_true rfl) (fx13 hS.X) (by omega) (c_tell hS.X hS.n13) ?_
    refine ex_pop dX9_arrayWithWord_45 ?_
    refine ex_null dX9_arrayWithWord_46 ?_
    refine ex_aret dX9_arrayWithWord_47 rfl (by first | nofun | exact xrv_ne _) ?_
    exact ⟨rfl, rfl, rfl, rfl⟩
  · rw [hw] at h18; exact absurd rfl h18
set_option maxRecDepth 20000 in
set_option maxHeartbeats 1000000 in
theorem c_aww_0 {Γ : xGm} {l : Launch} {f : Nat} {G : xG} {D E : xD} {R : xR} (hf : 1 ≤ f) (hS : Sim D R G E) {a wd pl : Int32} (hv4 : sIn a 301 (300 + E 0 11) = false) : Cn Γ l f MX9_arrayWithWord [.ref 0, .int a, .int wd, .int pl] G D R 0 0 (xdet (some (xrv none)) G (cTell D 14 a pl) R) := by
  refine cn_of MX9_arrayWithWord_ok (Nat.le_of_ble_eq_true rfl) ?_
  show Ex Γ l f MX9_arrayWithWord 0 [some (.ref 0), some (.int a), some (.int wd), some (.int pl), none] [] G D R 0 0 _
  refine al0 dX9_arrayWithWord_0 (by first | nofun | exact xrv_ne _) ?_
  refine il1 dX9_arrayWithWord_1 ?_
  refine cd9_206 (f' := f - 1) rfl dX9_arrayWithWord_2 (Nat.le_of_ble_eq_true rfl) (fx0 hS.X) (by omega) (c_array_n hS.X hS.n11 (by rw [hS.A.2.2.2.1]; exact hv4)) ?_
  refine as4 dX9_arrayWithWord_5 (by first | nofun | exact xrv_ne _) ?_
  refine al4 dX9_arrayWithWord_7 (by first | nofun | exact xrv_ne _) ?_
  refine ex_ifnullN 24 dX9_arrayWithWord_9 (by decide) ?_
  refine al0 dX9_arrayWithWord_24 (by first | nofun | exact xrv_ne _) ?_
  refine gf9_57 rfl dX9_arrayWithWord_25 (fr0_6 hS.X) (fx0 hS.X) ?_
  refine al4 dX9_arrayWithWord_28 (by first | nofun | exact xrv_ne _) ?_
  refine ex_ifnonnullN dX9_arrayWithWord_30 ?_
  refine ex_bipush (v := 14) dX9_arrayWithWord_33 (by decide) ?_
  refine ex_goto 40 dX9_arrayWithWord_35 (by decide) ?_
  refine il1 dX9_arrayWithWord_40 ?_
  refine il3 dX9_arrayWithWord_41 ?_
  refine cd9_175 (f' := f - 1) rfl dX9_arrayWithWord_42 (Nat.le_of_ble_eq_true rfl) (fx13 hS.X) (by omega) (c_tell hS.X hS.n13) ?_
  refine ex_pop dX9_arrayWithWord_45 ?_
  refine ex_null dX9_arrayWithWord_46 ?_
  refine ex_aret dX9_arrayWithWord_47 rfl (by first | nofun | exact xrv_ne _) ?_
  exact ⟨rfl, rfl, rfl, rfl⟩
theorem Sim_word {D : xD} {R : xR} {G : xG} {E : xD} {a b i : Nat} {x : Int32} (h : Sim D R G E) (ha : a < ix (E 0 11)) (hb : R 4 a = some b) (har : ar D R G b E a) (hi : i < 10) : Sim (xdu D (b + 1) i x) R G (xdu E 9 (10 * a + i) x) ∧ Sam D (xdu D (b + 1) i x) := by
  have l11 := (vi_n h.B.n11 (by decide)).2
  have hne : ∀ j, j ≠ 9 → xdu E 9 (10 * a + i) x j = E j := fun j hj => xdu_ne _ _ _ hj
  have hb47 : 47 ≤ b := by
    by_cases q : b < 47
    · exact absurd ((h.X.2.1 b q).symm.trans har.1.2) ((show ∀ p, p < 47 → fxK p ≠ (8, 0) by decide) b q)
    · omega
  have kk : ∀ p, p ≠ b + 1 → Kc D (xdu D (b + 1) i x) R R G G p := fun p hp => ⟨id, rfl, xdu_ne _ _ _ hp, rfl⟩
  have ki : ∀ p c, c < 16 → xis G p c → Kc D (xdu D (b + 1) i x) R R G G p := fun p c hc hp => kk p (xis_xia hp har.2.2.1 hc)
  have ka : ∀ p t n, (t ≠ 0 ∨ n ≠ 10) → xia G p t n → Kc D (xdu D (b + 1) i x) R R G G p := fun p t n hn hp => kk p (xia_ne hp har.2.2.1 hn)
  obtain ⟨f1, f2, f3, f4⟩ := cFix_k (D' := xdu D (b + 1) i x) (E' := xdu E 9 (10 * a + i) x) h.A h.fl h.ou h.tr (fun p q _ _ _ => xdu_ne _ _ _ (by omega)) (fun k _ => by rw [xdu_ne _ _ _ (by omega)]) (fun k _ => by rw [hne 0 (by decide)]) (fun j q r => hne j (by omega))
  refine ⟨⟨h.X, h.I.free (by decide), ?_, f1, f2, f3, f4, ?_, ?_, ?_, ?_, ?_⟩, Sam.set (by omega)⟩
  · have z := h.F
    unfold Fsh at z ⊢
    rw [hne 0 (by decide), hne 4 (by decide), hne 10 (by decide), hne 11 (by decide), hne 12 (by decide), hne 15 (by decide), hne 17 (by decide), hne 18 (by decide)]
    exact ⟨z.1, fun c k c1 c2 hk => by rw [xdu_self, upd_ne _ _ (by omega)]; exact z.2.1 c k c1 c2 hk, z.2.2⟩
  · exact cDr_k h.dr (fun p _ q r => ⟨ki _ _ (by decide) q, ka _ _ _ (by omega) r⟩) (by rw [hne 0 (by decide)]) (hne 1 (by decide)) rfl rfl
  · exact cTx_k h.tx (fun p t _ _ q r => ⟨ki _ _ (by decide) q, ka _ _ _ (by omega) r⟩) (by rw [hne 0 (by decide)]) (hne 2 (by decide)) (hne 3 (by decide)) rfl
  · exact cRo_k h.ro (fun p q => ki _ _ (by decide) q) (fun p q => ka _ _ _ (by omega) q) (by rw [hne 0 (by decide)]) (hne 4 (by decide)) (hne 5 (by decide)) (hne 6 (by decide)) (hne 7 (by decide)) rfl
  · obtain ⟨t1, t2⟩ := h.ar
    rw [cAr, hne 0 (by decide)]
    refine ⟨fun c hc => ?_, t2⟩
    obtain ⟨d, d1, d2⟩ := t1 c hc
    refine ⟨d, d1, ?_⟩
    by_cases e : c = a
    · subst e
      rw [hb] at d1
      cases d1
      obtain ⟨g1, g2, g3, g4, g5⟩ := d2
      refine ⟨g1, g2, g3, by rw [xdu_ne _ _ _ (by omega), hne 8 (by decide)]; exact g4, fun k hk => ?_⟩
      rw [xdu_self, xdu_self]
      by_cases z : k = i
      · subst z
        rw [upd_self, upd_self]
      · rw [upd_ne _ _ z, upd_ne _ _ (by omega)]
        exact g5 k hk
    · refine ar_k d2 (ki _ _ (by decide) d2.1) (kk _ (fun z => e (t2 c a d hc ha d1 (by rw [show d = b by omega]; exact hb)))) (by rw [hne 8 (by decide)]) (fun k hk => by rw [xdu_self, upd_ne _ _ (by omega)])
  · exact cTh_k h.th (fun p q => ki _ _ (by decide) q) (fun p q => ki _ _ (by decide) q) (fun p q => ki _ _ (by decide) q) (fun p q _ => ka _ _ _ (by omega) q) (fun p q => ka _ _ _ (by omega) q) (fun p q => ka _ _ _ (by omega) q) h.X (by rw [hne 0 (by decide)]) (fun j q r => hne j (by omega)) rfl (fun _ _ _ _ => rfl)
theorem ix_10 {a : Nat} {i : Int32} (ha : a < 10) (hi : vp_in i 10) : ix (10 * nI a + i) = 10 * a + ix i := by
  have := (vi_ln (N := 100) 10 (vi_of (n := a) (N := 10) ha (by decide)) hi (by decide) (by decide) (by decide) (by decide)).2
  rw [ix_nI (by omega)] at this
  exact this
set_option maxRecDepth 20000 in
set_option maxHeartbeats 1000000 in
theorem c_word {Γ : xGm} {l : Launch} {f : Nat} {G : xG} {D E : xD} {R : xR} (hf : 2 ≤ f) (hS : Sim D R G E) {a i : Int32} : Cn Γ l f MX9_word [.ref 0, .int a, .int i] G D R 0 0 (Sq G R D (some (.int (sWord E a i).1)) (sWord E a i).2) := by
  refine cn_of MX9_word_ok (Nat.le_of_ble_eq_true rfl) ?_
  show Ex Γ l f MX9_word 0 [some (.ref 0), some (.int a), some (.int i), none] [] G D R 0 0 _
  by_cases hv4 : sIn a 301 (300 + E 0 11) = true
  · obtain ⟨b, hb, har, h10⟩ := sim_ar hS hv4
    have m5 := (meta_5 hS.B).mpr hv4
    have h8 := hS.B.a8 h10
    have hlt := (sIn_b (b := 300) hv4 hS.B.n11 (by decide) (by decide)).2.1
    have ea := (vi_n (sIn_b (b := 300) hv4 hS.B.n11 (by decide) (by decide)).1 (by decide)).1
    by_cases hw : wHas E (ix (a - 301)) i = true
    · have hs := (wHas_1 h8).mp hw
      have hwr : sWrongWord E a i 1 = (false, E) := by
        unfold sWrongWord
        rw [if_neg (fun q => q m5), if_pos hs]
      have hw2 := wHas_t.mp hw
      have hi10 : vp_in i 10 := vi_btw2 h8 hw2.1 hw2.2 (by decide)
      have e10 : ix (10 * (a - 301) + i) = 10 * ix (a - 301) + ix i := by
        conv => lhs; rw [show a - 301 = nI (ix (a - 301)) from ea]
        exact ix_10 h10 hi10
      rw [show sWord E a i = (E 9 (ix (10 * (a - 301) + i)), E) from by unfold sWord; rw [hwr]; rfl, e10]
      refine al0 dX9_word_0 (by first | nofun | exact xrv_ne _) ?_
      refine il1 dX9_word_1 ?_
      refine il2 dX9_word_2 ?_
      refine il2 dX9_word_3 ?_
      refine cd9_220 (f' := f - 1) rfl dX9_word_4 (Nat.le_of_ble_eq_true rfl) (fx0 hS.X) (by omega) (c_aww_y (by omega) hS hv4 hb har h10 hw) ?_
      refine as3 dX9_word_7 (by first | nofun | exact xrv_ne _) ?_
      refine al3 dX9_word_8 (by first | nofun | exact xrv_ne _) ?_
      refine ex_ifnonnull 16 dX9_word_9 (by decide) ?_
      refine al3 dX9_word_16 (by first | nofun | exact xrv_ne _) ?_
      refine il2 dX9_word_17 ?_
      refine cd9_224 (f' := f - 1) rfl dX9_word_18 (Nat.le_of_ble_eq_true rfl) har.1 (by omega) (c_wat (by omega) har h8 hw) ?_
      refine ex_iret dX9_word_21 rfl ?_
      exact ⟨rfl, rfl, rfl, hS, Sam.rf⟩
    · have hw := nb hw
      have hs : sIn i 0 (1 * E 8 (ix (a - 301)) - 1) = false := by
        cases q : sIn i 0 (1 * E 8 (ix (a - 301)) - 1)
        · rfl
        · rw [(wHas_1 h8).mpr q] at hw
          cases hw
      have hwr : sWrongWord E a i 1 = (true, sFails E 12 a i) := by
        unfold sWrongWord
        rw [if_neg (fun q => q m5), if_neg (by rw [hs]; decide)]
      rw [show sWord E a i = (0, sFails E 12 a i) from by unfold sWord; rw [hwr]; rfl]
      refine al0 dX9_word_0 (by first | nofun | exact xrv_ne _) ?_
      refine il1 dX9_word_1 ?_
      refine il2 dX9_word_2 ?_
      refine il2 dX9_word_3 ?_
      refine cd9_220 (f' := f - 1) rfl dX9_word_4 (Nat.le_of_ble_eq_true rfl) (fx0 hS.X) (by omega) (c_aww_n (by omega) hS hv4 hb har h10 hw) ?_
      refine as3 dX9_word_7 (by first | nofun | exact xrv_ne _) ?_
      refine al3 dX9_word_8 (by first | nofun | exact xrv_ne _) ?_
      refine ex_ifnonnullN dX9_word_9 ?_
      refine ex_iconst (v := 0) dX9_word_12 (by decide) ?_
      refine ex_goto 21 dX9_word_13 (by decide) ?_
      refine ex_iret dX9_word_21 rfl ?_
      exact ⟨rfl, rfl, rfl, (Sim_tell hS _ _ _).1, (Sim_tell hS _ _ _).2⟩
  · have hv4 := nb hv4
    have hwr : sWrongWord E a i 1 = (true, sFails E 14 a i) := by
      unfold sWrongWord
      rw [if_pos (fun q => by rw [(meta_5 hS.B).mp q] at hv4; cases hv4)]
    rw [show sWord E a i = (0, sFails E 14 a i) from by unfold sWord; rw [hwr]; rfl]
    refine al0 dX9_word_0 (by first | nofun | exact xrv_ne _) ?_
    refine il1 dX9_word_1 ?_
    refine il2 dX9_word_2 ?_
    refine il2 dX9_word_3 ?_
    refine cd9_220 (f' := f - 1) rfl dX9_word_4 (Nat.le_of_ble_eq_true rfl) (fx0 hS.X) (by omega) (c_aww_0 (by omega) hS hv4) ?_
    refine as3 dX9_word_7 (by first | nofun | exact xrv_ne _) ?_
    refine al3 dX9_word_8 (by first | nofun | exact xrv_ne _) ?_
    refine ex_ifnonnullN dX9_word_9 ?_
    refine ex_iconst (v := 0) dX9_word_12 (by decide) ?_
    refine ex_goto 21 dX9_word_13 (by decide) ?_
    refine ex_iret dX9_word_21 rfl ?_
    exact ⟨rfl, rfl, rfl, (Sim_tell hS _ _ _).1, (Sim_tell hS _ _ _).2⟩
set_option maxRecDepth 20000 in
set_option maxHeartbeats 1000000 in
theorem c_setWord {Γ : xGm} {l : Launch} {f : Nat} {G : xG} {D E : xD} {R : xR} (hf : 2 ≤ f) (hS : Sim D R G E) {a i : Int32} {x : Int32} : Cn Γ l f MX9_setWord [.ref 0, .int a, .int i, .int x] G D R 0 0 (Sq G R D (some (.int (sSetWord E a i x).1)) (sSetWord E a i x).2) := by
  refine cn_of MX9_setWord_ok (Nat.le_of_ble_eq_true rfl) ?_
  show Ex Γ l f MX9_setWord 0 [some (.ref 0), some (.int a), some (.int i), some (.int x), none] [] G D R 0 0 _
  by_cases hv4 : sIn a 301 (300 + E 0 11) = true
  · obtain ⟨b, hb, har, h10⟩ := sim_ar hS hv4
    have m5 := (meta_5 hS.B).mpr hv4
    have h8 := hS.B.a8 h10
    have hlt := (sIn_b (b := 300) hv4 hS.B.n11 (by decide) (by decide)).2.1
    have ea := (vi_n (sIn_b (b := 300) hv4 hS.B.n11 (by decide) (by decide)).1 (by decide)).1
    by_cases hw : wHas E (ix (a - 301)) i = true
    · have hs := (wHas_1 h8).mp hw
      have hwr : sWrongWord E a i 1 = (false, E) := by
        unfold sWrongWord
        rw [if_neg (fun q => q m5), if_pos hs]
      have hw2 := wHas_t.mp hw
      have hi10 : vp_in i 10 := vi_btw2 h8 hw2.1 hw2.2 (by decide)
      have e10 : ix (10 * (a - 301) + i) = 10 * ix (a - 301) + ix i := by
        conv => lhs; rw [show a - 301 = nI (ix (a - 301)) from ea]
        exact ix_10 h10 hi10
      rw [show sSetWord E a i x = (x, xdu E 9 (ix (10 * (a - 301) + i)) x) from by unfold sSetWord; rw [hwr]; rfl, e10]
      obtain ⟨hS1, hM1⟩ := Sim_word (x := x) hS hlt hb har (vi_n hi10 (by decide)).2
      refine al0 dX9_setWord_0 (by first | nofun | exact xrv_ne _) ?_
      refine il1 dX9_setWord_1 ?_
      refine il2 dX9_setWord_2 ?_
      refine il2 dX9_setWord_3 ?_
      refine cd9_220 (f' := f - 1) rfl dX9_setWord_4 (Nat.le_of_ble_eq_true rfl) (fx0 hS.X) (by omega) (c_aww_y (by omega) hS hv4 hb har h10 hw) ?_
      refine as4 dX9_setWord_7 (by first | nofun | exact xrv_ne _) ?_
      refine al4 dX9_setWord_9 (by first | nofun | exact xrv_ne _) ?_
      refine ex_ifnonnull 16 dX9_setWord_11 (by decide) ?_
      refine al4 dX9_setWord_16 (by first | nofun | exact xrv_ne _) ?_
      refine il2 dX9_setWord_18 ?_
      refine il3 dX9_setWord_19 ?_
      refine cd9_226 (f' := f - 1) rfl dX9_setWord_20 (Nat.le_of_ble_eq_true rfl) har.1 (by omega) (c_wput (by omega) har h8 hw) ?_
      refine il3 dX9_setWord_23 ?_
      refine ex_iret dX9_setWord_24 rfl ?_
      exact ⟨rfl, rfl, rfl, hS1, hM1⟩
    · have hw := nb hw
      have hs : sIn i 0 (1 * E 8 (ix (a - 301)) - 1) = false := by
        cases q : sIn i 0 (1 * E 8 (ix (a - 301)) - 1)
        · rfl
        · rw [(wHas_1 h8).mpr q] at hw
          cases hw
      have hwr : sWrongWord E a i 1 = (true, sFails E 12 a i) := by
        unfold sWrongWord
        rw [if_neg (fun q => q m5), if_neg (by rw [hs]; decide)]
      rw [show sSetWord E a i x = (0, sFails E 12 a i) from by unfold sSetWord; rw [hwr]; rfl]
      refine al0 dX9_setWord_0 (by first | nofun | exact xrv_ne _) ?_
      refine il1 dX9_setWord_1 ?_
      refine il2 dX9_setWord_2 ?_
      refine il2 dX9_setWord_3 ?_
      refine cd9_220 (f' := f - 1) rfl dX9_setWord_4 (Nat.le_of_ble_eq_true rfl) (fx0 hS.X) (by omega) (c_aww_n (by omega) hS hv4 hb har h10 hw) ?_
      refine as4 dX9_setWord_7 (by first | nofun | exact xrv_ne _) ?_
      refine al4 dX9_setWord_9 (by first | nofun | exact xrv_ne _) ?_
      refine ex_ifnonnullN dX9_setWord_11 ?_
      refine ex_iconst (v := 0) dX9_setWord_14 (by decide) ?_
      refine ex_iret dX9_setWord_15 rfl ?_
      exact ⟨rfl, rfl, rfl, (Sim_tell hS _ _ _).1, (Sim_tell hS _ _ _).2⟩
  · have hv4 := nb hv4
    have hwr : sWrongWord E a i 1 = (true, sFails E 14 a i) := by
      unfold sWrongWord
      rw [if_pos (fun q => by rw [(meta_5 hS.B).mp q] at hv4; cases hv4)]
    rw [show sSetWord E a i x = (0, sFails E 14 a i) from by unfold sSetWord; rw [hwr]; rfl]
    refine al0 dX9_setWord_0 (by first | nofun | exact xrv_ne _) ?_
    refine il1 dX9_setWord_1 ?_
    refine il2 dX9_setWord_2 ?_
    refine il2 dX9_setWord_3 ?_
    refine cd9_220 (f' := f - 1) rfl dX9_setWord_4 (Nat.le_of_ble_eq_true rfl) (fx0 hS.X) (by omega) (c_aww_0 (by omega) hS hv4) ?_
    refine as4 dX9_setWord_7 (by first | nofun | exact xrv_ne _) ?_
    refine al4 dX9_setWord_9 (by first | nofun | exact xrv_ne _) ?_
    refine ex_ifnonnullN dX9_setWord_11 ?_
    refine ex_iconst (v := 0) dX9_setWord_14 (by decide) ?_
    refine ex_iret dX9_setWord_15 rfl ?_
    exact ⟨rfl, rfl, rfl, (Sim_tell hS _ _ _).1, (Sim_tell hS _ _ _).2⟩
set_option maxRecDepth 20000 in
set_option maxHeartbeats 1000000 in
theorem c_byteOf {Γ : xGm} {l : Launch} {f : Nat} {G : xG} {D E : xD} {R : xR} (hf : 2 ≤ f) (hS : Sim D R G E) {a i : Int32} : Cn Γ l f MX9_byteOf [.ref 0, .int a, .int i] G D R 0 0 (Sq G R D (some (.int (sByteOf E a i).1)) (sByteOf E a i).2) := by
  refine cn_of MX9_byteOf_ok (Nat.le_of_ble_eq_true rfl) ?_
  show Ex Γ l f MX9_byteOf 0 [some (.ref 0), some (.int a), some (.int i), none, none] [] G D R 0 0 _
  by_cases hv4 : sIn a 301 (300 + E 0 11) = true
  · obtain ⟨b, hb, har, h10⟩ := sim_ar hS hv4
    have m5 := (meta_5 hS.B).mpr hv4
    have h8 := hS.B.a8 h10
    have hlt := (sIn_b (b := 300) hv4 hS.B.n11 (by decide) (by decide)).2.1
    have ea := (vi_n (sIn_b (b := 300) hv4 hS.B.n11 (by decide) (by decide)).1 (by decide)).1
    by_cases hw : wHas E (ix (a - 301)) (cDiv i) = true
    · have hs := (wHas_4 h8).mp hw
      have hwr : sWrongWord E a i 4 = (false, E) := by
        unfold sWrongWord
        rw [if_neg (fun q => q m5), if_pos hs]
      have hw2 := wHas_t.mp hw
      have hi10 : vp_in (cDiv i) 10 := vi_btw2 h8 hw2.1 hw2.2 (by decide)
      have e10 : ix (10 * (a - 301) + (cDiv i)) = 10 * ix (a - 301) + ix (cDiv i) := by
        conv => lhs; rw [show a - 301 = nI (ix (a - 301)) from ea]
        exact ix_10 h10 hi10
      have i0 : 0 ≤ i := ((sIn_lt (vi_sc (N := 41) 4 h8 (by decide) (by decide) (by decide)).1 (by decide)).mp hs).1
      have ed : cDiv i = i / 4 := by unfold cDiv; rw [if_pos i0]
      have em : cMod i = i - i / 4 * 4 := by unfold cMod; rw [if_pos i0]
      have hi40 : vp_in i 40 := vi_pred (N := 40) (vi_sc (N := 41) 4 h8 (by decide) (by decide) (by decide)).1 (by decide) hs
      rw [show sByteOf E a i = ((E 9 (ix (10 * (a - 301) + cDiv i)) >>> ((24 - 8 * cMod i) &&& 31)) &&& 255, E) from by unfold sByteOf; rw [hwr, ed, em]; rfl, e10]
      have hsh : ∀ y : Int32, (y.toUInt32 >>> ((24 - 8 * cMod i).toUInt32 &&& Int32.toUInt32 31)).toInt32 &&& 255 = (y >>> ((24 - 8 * cMod i) &&& 31)) &&& 255 := fun y => by
        obtain ⟨ei, li⟩ := vi_n hi40 (by decide)
        have hm : cMod i = nI (ix i % 4) := by
          conv => lhs; rw [ei]
          exact (cDiv_pos (by omega)).2
        rw [hm]
        have h4 : ix i % 4 = 0 ∨ ix i % 4 = 1 ∨ ix i % 4 = 2 ∨ ix i % 4 = 3 := by omega
        rcases h4 with z | z | z | z
        · rw [z]; exact shr_and (k := 24) (s := 24) (by decide) (by decide) (by decide)
        · rw [z]; exact shr_and (k := 16) (s := 16) (by decide) (by decide) (by decide)
        · rw [z]; exact shr_and (k := 8) (s := 8) (by decide) (by decide) (by decide)
        · rw [z]; exact shr_and (k := 0) (s := 0) (by decide) (by decide) (by decide)
      refine il2 dX9_byteOf_0 ?_
      refine ex_iconst (v := 4) dX9_byteOf_1 (by decide) ?_
      refine cd9_227 (f' := f - 1) rfl dX9_byteOf_2 (Nat.le_of_ble_eq_true rfl) (by omega) (j_fdiv) ?_
      refine is3 dX9_byteOf_5 ?_
      refine al0 dX9_byteOf_6 (by first | nofun | exact xrv_ne _) ?_
      refine il1 dX9_byteOf_7 ?_
      refine il3 dX9_byteOf_8 ?_
      refine il2 dX9_byteOf_9 ?_
      refine cd9_220 (f' := f - 1) rfl dX9_byteOf_10 (Nat.le_of_ble_eq_true rfl) (fx0 hS.X) (by omega) (c_aww_y (by omega) hS hv4 hb har h10 hw) ?_
      refine as4 dX9_byteOf_13 (by first | nofun | exact xrv_ne _) ?_
      refine al4 dX9_byteOf_15 (by first | nofun | exact xrv_ne _) ?_
      refine ex_ifnonnull 24 dX9_byteOf_17 (by decide) ?_
      refine al4 dX9_byteOf_24 (by first | nofun | exact xrv_ne _) ?_
      refine il3 dX9_byteOf_26 ?_
      refine cd9_224 (f' := f - 1) rfl dX9_byteOf_27 (Nat.le_of_ble_eq_true rfl) har.1 (by omega) (c_wat (by omega) har h8 hw) ?_
      refine ex_bipush (v := 24) dX9_byteOf_30 (by decide) ?_
      refine ex_bipush (v := 8) dX9_byteOf_32 (by decide) ?_
      refine il2 dX9_byteOf_34 ?_
      refine ex_iconst (v := 4) dX9_byteOf_35 (by decide) ?_
      refine cd9_232 (f' := f - 1) rfl dX9_byteOf_36 (Nat.le_of_ble_eq_true rfl) (by omega) (j_fmod) ?_
      refine ex_imul dX9_byteOf_39 ?_
      refine ex_isub dX9_byteOf_40 ?_
      refine ex_iushr dX9_byteOf_41 ?_
      refine ex_sipush (v := 255) dX9_byteOf_42 (by decide) ?_
      refine ex_iand dX9_byteOf_45 ?_
      refine ex_iret dX9_byteOf_46 rfl ?_
      refine ⟨?_, rfl, rfl, hS, Sam.rf⟩
      rw [hsh]
    · have hw := nb hw
      have hs : sIn i 0 (4 * E 8 (ix (a - 301)) - 1) = false := by
        cases q : sIn i 0 (4 * E 8 (ix (a - 301)) - 1)
        · rfl
        · rw [(wHas_4 h8).mpr q] at hw
          cases hw
      have hwr : sWrongWord E a i 4 = (true, sFails E 12 a i) := by
        unfold sWrongWord
        rw [if_neg (fun q => q m5), if_neg (by rw [hs]; decide)]
      rw [show sByteOf E a i = (0, sFails E 12 a i) from by unfold sByteOf; rw [hwr]; rfl]
      refine il2 dX9_byteOf_0 ?_
      refine ex_iconst (v := 4) dX9_byteOf_1 (by decide) ?_
      refine cd9_227 (f' := f - 1) rfl dX9_byteOf_2 (Nat.le_of_ble_eq_true rfl) (by omega) (j_fdiv) ?_
      refine is3 dX9_byteOf_5 ?_
      refine al0 dX9_byteOf_6 (by first | nofun | exact xrv_ne _) ?_
      refine il1 dX9_byteOf_7 ?_
      refine il3 dX9_byteOf_8 ?_
      refine il2 dX9_byteOf_9 ?_
      refine cd9_220 (f' := f - 1) rfl dX9_byteOf_10 (Nat.le_of_ble_eq_true rfl) (fx0 hS.X) (by omega) (c_aww_n (by omega) hS hv4 hb har h10 hw) ?_
      refine as4 dX9_byteOf_13 (by first | nofun | exact xrv_ne _) ?_
      refine al4 dX9_byteOf_15 (by first | nofun | exact xrv_ne _) ?_
      refine ex_ifnonnullN dX9_byteOf_17 ?_
      refine ex_iconst (v := 0) dX9_byteOf_20 (by decide) ?_
      refine ex_goto 46 dX9_byteOf_21 (by decide) ?_
      refine ex_iret dX9_byteOf_46 rfl ?_
      exact ⟨rfl, rfl, rfl, (Sim_tell hS _ _ _).1, (Sim_tell hS _ _ _).2⟩
  · have hv4 := nb hv4
    have hwr : sWrongWord E a i 4 = (true, sFails E 14 a i) := by
      unfold sWrongWord
      rw [if_pos (fun q => by rw [(meta_5 hS.B).mp q] at hv4; cases hv4)]
    rw [show sByteOf E a i = (0, sFails E 14 a i) from by unfold sByteOf; rw [hwr]; rfl]
    refine il2 dX9_byteOf_0 ?_
    refine ex_iconst (v := 4) dX9_byteOf_1 (by decide) ?_
    refine cd9_227 (f' := f - 1) rfl dX9_byteOf_2 (Nat.le_of_ble_eq_true rfl) (by omega) (j_fdiv) ?_
    refine is3 dX9_byteOf_5 ?_
    refine al0 dX9_byteOf_6 (by first | nofun | exact xrv_ne _) ?_
    refine il1 dX9_byteOf_7 ?_
    refine il3 dX9_byteOf_8 ?_
    refine il2 dX9_byteOf_9 ?_
    refine cd9_220 (f' := f - 1) rfl dX9_byteOf_10 (Nat.le_of_ble_eq_true rfl) (fx0 hS.X) (by omega) (c_aww_0 (by omega) hS hv4) ?_
    refine as4 dX9_byteOf_13 (by first | nofun | exact xrv_ne _) ?_
    refine al4 dX9_byteOf_15 (by first | nofun | exact xrv_ne _) ?_
    refine ex_ifnonnullN dX9_byteOf_17 ?_
    refine ex_iconst (v := 0) dX9_byteOf_20 (by decide) ?_
    refine ex_goto 46 dX9_byteOf_21 (by decide) ?_
    refine ex_iret dX9_byteOf_46 rfl ?_
    exact ⟨rfl, rfl, rfl, (Sim_tell hS _ _ _).1, (Sim_tell hS _ _ _).2⟩
set_option maxRecDepth 20000 in
set_option maxHeartbeats 1000000 in
theorem c_out {Γ : xGm} {l : Launch} {f : Nat} {G : xG} {D E : xD} {R : xR} (hf : 1 ≤ f) (hS : Sim D R G E) {i : Int32} : Cn Γ l f MX9_out [.ref 0, .int i] G D R 0 0 (xdet (some (.int (sOut E i))) G D R) := by
  refine cn_of MX9_out_ok (Nat.le_of_ble_eq_true rfl) ?_
  show Ex Γ l f MX9_out 0 [some (.ref 0), some (.int i)] [] G D R 0 0 _
  refine al0 dX9_out_0 (by first | nofun | exact xrv_ne _) ?_
  refine gf9_43 rfl dX9_out_1 (fr0_5 hS.X) (fx0 hS.X) ?_
  refine il1 dX9_out_4 ?_
  refine cd9_248 (f' := f - 1) rfl dX9_out_5 (Nat.le_of_ble_eq_true rfl) (fx9 hS.X) (by omega) ((by have z := c_oat (Γ := Γ) (l := l) (f := f - 1) (D := D) (E := E) (k := i) hS.X hS.B.n29; rw [oS_id hS.ou] at z; exact z)) ?_
  refine ex_iret dX9_out_8 rfl ?_
  exact ⟨rfl, rfl, rfl, rfl⟩
set_option maxRecDepth 20000 in
set_option maxHeartbeats 1000000 in
theorem c_fault {Γ : xGm} {l : Launch} {f : Nat} {G : xG} {D E : xD} {R : xR} (hf : 1 ≤ f) (hS : Sim D R G E) {i w : Int32} : Cn Γ l f MX9_fault [.ref 0, .int i, .int w] G D R 0 0 (xdet (some (.int (sFault E i w))) G D R) := by
  refine cn_of MX9_fault_ok (Nat.le_of_ble_eq_true rfl) ?_
  show Ex Γ l f MX9_fault 0 [some (.ref 0), some (.int i), some (.int w)] [] G D R 0 0 _
  refine al0 dX9_fault_0 (by first | nofun | exact xrv_ne _) ?_
  refine gf9_57 rfl dX9_fault_1 (fr0_6 hS.X) (fx0 hS.X) ?_
  refine il1 dX9_fault_4 ?_
  refine il2 dX9_fault_5 ?_
  refine cd9_249 (f' := f - 1) rfl dX9_fault_6 (Nat.le_of_ble_eq_true rfl) (fx13 hS.X) (by omega) (c_fat hS.X hS.B.n27 hS.fl) ?_
  refine ex_iret dX9_fault_9 rfl ?_
  exact ⟨rfl, rfl, rfl, rfl⟩
theorem Sim_clear {D : xD} {R : xR} {G : xG} {E : xD} (h : Sim D R G E) : Sim (xdu D 9 1 0) R G (xdu E 0 29 0) ∧ Sam D (xdu D 9 1 0) := by
  obtain ⟨a, b⟩ := Sim_oS (E' := xdu E 0 29 0) h (h.I.n29 (vi_of (n := 0) (by decide) (by decide))) (fun j h0 _ => xdu_ne _ _ _ h0) (fun k hk => by rw [xdu_self, upd_ne _ _ hk])
  have e : oS D (xdu E 0 29 0) = xdu D 9 1 0 := by
    funext q
    by_cases h9 : q = 9
    · subst h9
      rw [xdu_self]
      unfold oS
      rw [if_pos rfl, xdu_self, upd_self]
    · rw [xdu_ne _ _ _ h9]
      unfold oS
      rw [if_neg h9]
      split
      next z => rw [z, xdu_ne _ _ _ (by decide), h.ou.2]
      next => rfl
  rw [e] at a b
  exact ⟨a, b⟩
set_option maxRecDepth 20000 in
set_option maxHeartbeats 1000000 in
theorem c_clearO {Γ : xGm} {l : Launch} {f : Nat} {G : xG} {D E : xD} {R : xR} (hS : Sim D R G E) : Cn Γ l f MX9_clear [.ref 0] G D R 0 0 (Sq G R D (some (.int (sClear E).1)) (sClear E).2) := by
  refine cn_of MX9_clear_ok (Nat.le_of_ble_eq_true rfl) ?_
  show Ex Γ l f MX9_clear 0 [some (.ref 0), none] [] G D R 0 0 _
  obtain ⟨hS1, hM1⟩ := Sim_clear hS
  refine al0 dX9_clear_0 (by first | nofun | exact xrv_ne _) ?_
  refine gf9_43 rfl dX9_clear_1 (fr0_5 hS.X) (fx0 hS.X) ?_
  refine gf9_247 rfl dX9_clear_4 (fx9 hS.X) ?_
  rw [hS.ou.1]
  refine is1 dX9_clear_7 ?_
  refine al0 dX9_clear_8 (by first | nofun | exact xrv_ne _) ?_
  refine gf9_43 rfl dX9_clear_9 (fr0_5 hS.X) (fx0 hS.X) ?_
  refine ex_iconst (v := 0) dX9_clear_12 (by decide) ?_
  refine pf9_247 rfl dX9_clear_13 (fx9 hS.X) ?_
  refine il1 dX9_clear_16 ?_
  refine ex_iret dX9_clear_17 rfl ?_
  exact ⟨rfl, rfl, rfl, hS1, hM1⟩
set_option maxRecDepth 20000 in
set_option maxHeartbeats 1000000 in
theorem c_count {Γ : xGm} {l : Launch} {f : Nat} {G : xG} {D E : xD} {R : xR} (hS : Sim D R G E) {w : Int32} : Cn Γ l f MX9_count [.ref 0, .int w] G D R 0 0 (xdet (some (.int (sCountOf E w))) G D R) := by
  refine cn_of MX9_count_ok (Nat.le_of_ble_eq_true rfl) ?_
  show Ex Γ l f MX9_count 0 [some (.ref 0), some (.int w)] [] G D R 0 0 _
  obtain ⟨d, hd0, hdt, -⟩ := hS.dr
  have hd1 : D d 1 = E 0 1 := hdt.2.2.2.1
  refine il1 dX9_count_0 ?_
  refine ex_table 0 97 [48, 53, 58, 63, 68, 76, 84, 89] dX9_count_1 (by decide) (by decide) (by decide) (by decide) (by decide) ⟨fun h1 => ?_, fun h1 => ?_, fun h1 => ?_, fun h1 => ?_, fun h1 => ?_, fun h1 => ?_, fun h1 => ?_, fun h1 => ?_, trivial⟩ (fun h1 => ?_)
  · change _ = (0 : Int32) at h1
    skip
    refine al0 dX9_count_48 (by first | nofun | exact xrv_ne _) ?_
    refine gf9_88 rfl dX9_count_49 (fx0 hS.X) ?_
    refine ex_iret dX9_count_52 rfl ?_
    refine ⟨?_, rfl, rfl, rfl⟩
    unfold sCountOf
    rw [if_pos h1, hS.A.1]
  · change _ = (1 : Int32) at h1
    have z0 : ¬ w = 0 := by rw [h1]; decide
    refine al0 dX9_count_53 (by first | nofun | exact xrv_ne _) ?_
    refine gf9_69 rfl dX9_count_54 (fx0 hS.X) ?_
    refine ex_iret dX9_count_57 rfl ?_
    refine ⟨?_, rfl, rfl, rfl⟩
    unfold sCountOf
    rw [if_neg z0, if_pos h1, hS.A.2.1]
  · change _ = (2 : Int32) at h1
    have z0 : ¬ w = 0 := by rw [h1]; decide
    have z1 : ¬ w = 1 := by rw [h1]; decide
    refine al0 dX9_count_58 (by first | nofun | exact xrv_ne _) ?_
    refine gf9_72 rfl dX9_count_59 (fx0 hS.X) ?_
    refine ex_iret dX9_count_62 rfl ?_
    refine ⟨?_, rfl, rfl, rfl⟩
    unfold sCountOf
    rw [if_neg z0, if_neg z1, if_pos h1, hS.A.2.2.1]
  · change _ = (3 : Int32) at h1
    have z0 : ¬ w = 0 := by rw [h1]; decide
    have z1 : ¬ w = 1 := by rw [h1]; decide
    have z2 : ¬ w = 2 := by rw [h1]; decide
    refine al0 dX9_count_63 (by first | nofun | exact xrv_ne _) ?_
    refine gf9_138 rfl dX9_count_64 (fx0 hS.X) ?_
    refine ex_iret dX9_count_67 rfl ?_
    refine ⟨?_, rfl, rfl, rfl⟩
    unfold sCountOf
    rw [if_neg z0, if_neg z1, if_neg z2, if_pos h1, hS.A.2.2.2.1]
  · change _ = (4 : Int32) at h1
    have z0 : ¬ w = 0 := by rw [h1]; decide
    have z1 : ¬ w = 1 := by rw [h1]; decide
    have z2 : ¬ w = 2 := by rw [h1]; decide
    have z3 : ¬ w = 3 := by rw [h1]; decide
    refine al0 dX9_count_68 (by first | nofun | exact xrv_ne _) ?_
    refine gf9_57 rfl dX9_count_69 (fr0_6 hS.X) (fx0 hS.X) ?_
    refine gf9_250 rfl dX9_count_72 (fx13 hS.X) ?_
    refine ex_iret dX9_count_75 rfl ?_
    refine ⟨?_, rfl, rfl, rfl⟩
    unfold sCountOf
    rw [if_neg z0, if_neg z1, if_neg z2, if_neg z3, if_pos h1, hS.fl.2.1]
  · change _ = (5 : Int32) at h1
    have z0 : ¬ w = 0 := by rw [h1]; decide
    have z1 : ¬ w = 1 := by rw [h1]; decide
    have z2 : ¬ w = 2 := by rw [h1]; decide
    have z3 : ¬ w = 3 := by rw [h1]; decide
    have z4 : ¬ w = 4 := by rw [h1]; decide
    refine al0 dX9_count_76 (by first | nofun | exact xrv_ne _) ?_
    refine gf9_43 rfl dX9_count_77 (fr0_5 hS.X) (fx0 hS.X) ?_
    refine gf9_247 rfl dX9_count_80 (fx9 hS.X) ?_
    refine ex_iret dX9_count_83 rfl ?_
    refine ⟨?_, rfl, rfl, rfl⟩
    unfold sCountOf
    rw [if_neg z0, if_neg z1, if_neg z2, if_neg z3, if_neg z4, if_pos h1, hS.ou.1]
  · change _ = (6 : Int32) at h1
    have z0 : ¬ w = 0 := by rw [h1]; decide
    have z1 : ¬ w = 1 := by rw [h1]; decide
    have z2 : ¬ w = 2 := by rw [h1]; decide
    have z3 : ¬ w = 3 := by rw [h1]; decide
    have z4 : ¬ w = 4 := by rw [h1]; decide
    have z5 : ¬ w = 5 := by rw [h1]; decide
    refine al0 dX9_count_84 (by first | nofun | exact xrv_ne _) ?_
    refine gf9_251 rfl dX9_count_85 (fx0 hS.X) ?_
    refine ex_iret dX9_count_88 rfl ?_
    refine ⟨?_, rfl, rfl, rfl⟩
    unfold sCountOf
    rw [if_neg z0, if_neg z1, if_neg z2, if_neg z3, if_neg z4, if_neg z5, if_pos h1, hS.A.2.2.2.2.1]
  · change _ = (7 : Int32) at h1
    have z0 : ¬ w = 0 := by rw [h1]; decide
    have z1 : ¬ w = 1 := by rw [h1]; decide
    have z2 : ¬ w = 2 := by rw [h1]; decide
    have z3 : ¬ w = 3 := by rw [h1]; decide
    have z4 : ¬ w = 4 := by rw [h1]; decide
    have z5 : ¬ w = 5 := by rw [h1]; decide
    have z6 : ¬ w = 6 := by rw [h1]; decide
    refine al0 dX9_count_89 (by first | nofun | exact xrv_ne _) ?_
    refine gf9_48 rfl dX9_count_90 (hd0) (fx0 hS.X) ?_
    refine gf9_61 rfl dX9_count_93 hdt.1 ?_
    refine ex_iret dX9_count_96 rfl ?_
    refine ⟨?_, rfl, rfl, rfl⟩
    unfold sCountOf
    rw [if_neg z0, if_neg z1, if_neg z2, if_neg z3, if_neg z4, if_neg z5, if_neg z6, if_pos h1, hd1]
  · obtain ⟨h1_0, h1_1, h1_2, h1_3, h1_4, h1_5, h1_6, h1_7, -⟩ := h1
    change ¬ _ = (0 : Int32) at h1_0
    change ¬ _ = (1 : Int32) at h1_1
    change ¬ _ = (2 : Int32) at h1_2
    change ¬ _ = (3 : Int32) at h1_3
    change ¬ _ = (4 : Int32) at h1_4
    change ¬ _ = (5 : Int32) at h1_5
    change ¬ _ = (6 : Int32) at h1_6
    change ¬ _ = (7 : Int32) at h1_7
    skip
    refine ex_iconst (v := (-1)) dX9_count_97 (by decide) ?_
    refine ex_iret dX9_count_98 rfl ?_
    refine ⟨?_, rfl, rfl, rfl⟩
    unfold sCountOf
    rw [if_neg h1_0, if_neg h1_1, if_neg h1_2, if_neg h1_3, if_neg h1_4, if_neg h1_5, if_neg h1_6, if_neg h1_7]
