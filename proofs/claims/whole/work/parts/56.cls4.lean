/-! ===== small objects of the class: texts, output, faults, routines, arrays ===== -/
theorem sIn_lt {i n : Int32} {N : Nat} (hx : vp_in n N) (hN : N < 2 ^ 30) : sIn i 0 (n - 1) = true ↔ 0 ≤ i ∧ ¬ n ≤ i := by
  obtain ⟨e, hlt⟩ := vi_n hx (by omega)
  have e2 : (n - 1).toInt = (ix n : Int) - 1 := by
    rw [e, show (1 : Int32) = nI 1 from rfl, pk_sub_toInt (by omega) (by decide), ix_nI (by omega)]
    rfl
  have e3 : n.toInt = (ix n : Int) := by
    conv => lhs; rw [e]
    exact nI_toInt (by omega)
  rw [sIn_t, i32_le, i32_le, i32_le, e2, e3]
  have : (0 : Int32).toInt = 0 := rfl
  omega
theorem sIn_off {v x : Int32} {b N : Nat} (hx : vp_in x N) (hN : N < 2 ^ 20) (hb : b < 2 ^ 20) : sIn v (nI (b + 1)) (nI b + x) = true ↔ nI (b + 1) ≤ v ∧ ¬ nI (b + 1) + x ≤ v := by
  obtain ⟨e3, l3⟩ := vi_n hx (by omega)
  have e1 : (nI b + x : Int32) = nI (b + ix x) := by
    conv => lhs; rw [e3]
    rw [nI_add]
  have e2 : (nI (b + 1) + x : Int32) = nI (b + 1 + ix x) := by
    conv => lhs; rw [e3]
    rw [nI_add]
  rw [sIn_t, e1, e2, i32_le, i32_le, i32_le, nI_toInt (by omega), nI_toInt (by omega), nI_toInt (by omega)]
  omega
theorem vi_btw2 {k n : Int32} {N M : Nat} (hn : vp_in n N) (h1 : 0 ≤ k) (h9 : ¬ n ≤ k) (h : N ≤ M + 1) : vp_in k M := by
  rw [vp_in_iff] at hn ⊢
  rw [i32_le] at h1 h9
  have : (0 : Int32).toInt = 0 := rfl
  omega
def chr (c : Int32) : Prop := 0 ≤ c ∧ c ≤ 126
theorem chr_all : ∀ k, k < 127 → (nI k).toInt8.toInt32 = nI k ∧ ((nI k).toUInt32 % 65536).toInt32 = nI k ∧ narrow .char (.int (nI k)) = .int (nI k) ∧ nI k ≤ 255 := by decide +kernel
theorem chr_k {c : Int32} (h : chr c) : ∃ k, k < 127 ∧ c = nI k := by
  have hv : vp_in c 127 := vi_btw (a := 0) (x := 126) (A := 127) (vi_of (n := 126) (by decide) (by decide)) h.1 h.2 (by decide) (by decide)
  exact ⟨ix c, (vi_n hv (by decide)).2, (vi_n hv (by decide)).1⟩
theorem chr_b {c : Int32} (h : chr c) : c.toInt8.toInt32 = c := by
  obtain ⟨k, hk, rfl⟩ := chr_k h
  exact (chr_all k hk).1
theorem chr_c {c : Int32} (h : chr c) : (c.toUInt32 % 65536).toInt32 = c := by
  obtain ⟨k, hk, rfl⟩ := chr_k h
  exact (chr_all k hk).2.1
theorem chr_n {c : Int32} (h : chr c) : narrow .char (.int c) = .int c := by
  obtain ⟨k, hk, rfl⟩ := chr_k h
  exact (chr_all k hk).2.2.1
theorem chr_l {c : Int32} (h : chr c) : c ≤ 255 := by
  obtain ⟨k, hk, rfl⟩ := chr_k h
  exact (chr_all k hk).2.2.2
theorem chr_32 {c : Int32} (h : 32 ≤ c ∧ c ≤ 126) : chr c := ⟨Int32.le_trans (by decide) h.1, h.2⟩
theorem vi_nle {k : Int32} {n : Int32} {N : Nat} (hn : vp_in n N) (hN : N < 2 ^ 31) (h : vp_in k (ix n)) : ¬ n ≤ k := by
  have e := vi_n hn hN
  rw [e.1]
  exact vi_not h (by omega)
set_option maxRecDepth 20000 in
set_option maxHeartbeats 1000000 in
theorem c_tat {Γ : xGm} {l : Launch} {f : Nat} {G : xG} {D : xD} {R : xR} {b : Nat} {g : Nat → Int32} {n : Int32} (h : tx D R G b g n) {k : Int32} (hk : vp_in k (ix n)) : Cn Γ l f MX5_at [.ref b, .int k] G D R 0 0 (xdet (some (.int (g (ix k)))) G D R) := by
  obtain ⟨hq, h0, hl, hn, hv, hg⟩ := h
  refine cn_of MX5_at_ok (Nat.le_of_ble_eq_true rfl) ?_
  show Ex Γ l f MX5_at 0 [some (.ref b), some (.int k)] [] G D R 0 0 _
  refine il1 dX5_at_0 ?_
  refine ex_if_lt 28 dX5_at_1 (by decide) (fun h1 => ?_) (fun h1 => ?_)
  · exact absurd (vi_0le hk) h1
  · refine il1 dX5_at_4 ?_
    refine al0 dX5_at_5 (by first | nofun | exact xrv_ne _) ?_
    refine gf5_15 rfl dX5_at_6 hq ?_
    refine ex_icmp_ge 28 dX5_at_9 (by decide) (fun h9 => ?_) (fun h9 => ?_)
    · exact absurd h9 (by rw [hn]; exact vi_nle hv (by decide) hk)
    · refine il1 dX5_at_12 ?_
      refine ex_bipush (v := 20) dX5_at_13 (by decide) ?_
      refine ex_icmp_ge 28 dX5_at_15 (by decide) (fun h15 => ?_) (fun h15 => ?_)
      · exact absurd h15 (vi_not (n := 20) (vi_le hk (by have := (vi_n hv (by decide)).2; omega)) (by decide))
      · refine al0 dX5_at_18 (by first | nofun | exact xrv_ne _) ?_
        refine gf5_9 rfl dX5_at_19 (h0) hq ?_
        refine il1 dX5_at_22 ?_
        refine ey_bald dX5_at_23 hl (vi_le hk (by have := (vi_n hv (by decide)).2; omega)) ?_
        have hc := hg (ix k) (vi_n hk (by have := (vi_n hv (by decide)).2; omega)).2
        rw [hc.1]
        refine ex_i2c dX5_at_24 ?_
        rw [chr_c (chr_32 hc.2)]
        refine ex_goto 30 dX5_at_25 (by decide) ?_
        refine ex_zret dX5_at_30 rfl (chr_n (chr_32 hc.2)) ?_
        exact ⟨rfl, rfl, rfl, rfl⟩
set_option maxRecDepth 20000 in
set_option maxHeartbeats 1000000 in
theorem c_tadd {Γ : xGm} {l : Launch} {f : Nat} {G : xG} {D : xD} {R : xR} {b : Nat} {g : Nat → Int32} {n : Int32} (h : tx D R G b g n) {c : Int32} (hc : chr c) (hn20 : ¬ 20 ≤ n) : Cn Γ l f MX5_add [.ref b, .int c] G D R 0 0 (xdet none G (xdu (xdu D (b + 1) (ix n) c) b 1 (n + 1)) R) := by
  obtain ⟨hq, h0, hl, hn, hv, hg⟩ := h
  refine cn_of MX5_add_ok (Nat.le_of_ble_eq_true rfl) ?_
  show Ex Γ l f MX5_add 0 [some (.ref b), some (.int c)] [] G D R 0 0 _
  refine al0 dX5_add_0 (by first | nofun | exact xrv_ne _) ?_
  refine gf5_15 rfl dX5_add_1 hq ?_
  refine ex_if_lt 36 dX5_add_4 (by decide) (fun h4 => ?_) (fun h4 => ?_)
  · exact absurd (by rw [hn]; exact vi_0le hv) h4
  · refine al0 dX5_add_7 (by first | nofun | exact xrv_ne _) ?_
    refine gf5_15 rfl dX5_add_8 hq ?_
    refine ex_bipush (v := 20) dX5_add_11 (by decide) ?_
    refine ex_icmp_ge 36 dX5_add_13 (by decide) (fun h13 => ?_) (fun h13 => ?_)
    · exact absurd (by rw [hn] at h13; exact h13) hn20
    · refine al0 dX5_add_16 (by first | nofun | exact xrv_ne _) ?_
      refine gf5_9 rfl dX5_add_17 (h0) hq ?_
      refine al0 dX5_add_20 (by first | nofun | exact xrv_ne _) ?_
      refine gf5_15 rfl dX5_add_21 hq ?_
      rw [hn]
      refine il1 dX5_add_24 ?_
      refine ey_bast dX5_add_25 hl (vi_lt hv (by decide) hn20) (chr_b hc) ?_
      refine al0 dX5_add_26 (by first | nofun | exact xrv_ne _) ?_
      refine ex_dup dX5_add_27 ?_
      refine gf5_15 rfl dX5_add_28 hq ?_
      rw [xdu_ne _ _ _ (show b ≠ b + 1 by omega), hn]
      refine ex_iconst (v := 1) dX5_add_31 (by decide) ?_
      refine ex_iadd dX5_add_32 ?_
      refine pf5_15 rfl dX5_add_33 hq ?_
      refine ex_vret dX5_add_36 rfl ?_
      exact ⟨rfl, rfl, rfl, rfl⟩
set_option maxRecDepth 20000 in
set_option maxHeartbeats 1000000 in
theorem c_vowel {Γ : xGm} {l : Launch} {f : Nat} {G : xG} {D : xD} {R : xR} (hf : 4 ≤ f) {b : Nat} {g : Nat → Int32} {n : Int32} (h : tx D R G b g n) : Cn Γ l f MX5_beginsWithVowel [.ref b] G D R 0 0 (xdet (some (.int (bi (decide (¬ n ≤ 0) && sVowel (g 0))))) G D R) := by
  obtain ⟨hq, h0, hl, hn, hv, hg⟩ := id h
  refine cn_of MX5_beginsWithVowel_ok (Nat.le_of_ble_eq_true rfl) ?_
  show Ex Γ l f MX5_beginsWithVowel 0 [some (.ref b)] [] G D R 0 0 _
  refine al0 dX5_beginsWithVowel_0 (by first | nofun | exact xrv_ne _) ?_
  refine gf5_15 rfl dX5_beginsWithVowel_1 hq ?_
  refine ex_if_le 24 dX5_beginsWithVowel_4 (by decide) (fun h4 => ?_) (fun h4 => ?_)
  · rw [hn] at h4
    refine ex_iconst (v := 0) dX5_beginsWithVowel_24 (by decide) ?_
    refine ex_zret dX5_beginsWithVowel_25 rfl (by decide) ?_
    refine ⟨?_, rfl, rfl, rfl⟩
    first | simp [bi, h4, h17] | simp [bi, h4]
  · rw [hn] at h4
    refine ex_ldcS (i := 4) dX5_beginsWithVowel_7 rfl rfl rfl ?_
    refine al0 dX5_beginsWithVowel_9 (by first | nofun | exact xrv_ne _) ?_
    refine ex_iconst (v := 0) dX5_beginsWithVowel_10 (by decide) ?_
    have hk : vp_in (0 : Int32) (ix n) := by
      have e := vi_n hv (by decide)
      have : ix n ≠ 0 := fun q => h4 (by rw [e.1, q]; decide)
      exact vi_of (n := 0) (by omega) (by omega)
    have hc := chr_32 (hg 0 (vi_n hk (by have := (vi_n hv (by decide)).2; omega)).2).2
    refine cd5_21 (f' := f - 1) rfl dX5_beginsWithVowel_11 (Nat.le_of_ble_eq_true rfl) hq (by omega) (c_tat h hk) ?_
    refine cd5_25 (f' := f - 1) rfl dX5_beginsWithVowel_14 (Nat.le_of_ble_eq_true rfl) ((by decide)) (by omega) (j_ix (by omega) (chr_b hc) hc.1 (chr_l hc)) ?_
    refine ex_if_lt 24 dX5_beginsWithVowel_17 (by decide) (fun h17 => ?_) (fun h17 => ?_)
    · rw [ix_vow, show ix (0 : Int32) = 0 from rfl] at h17
      refine ex_iconst (v := 0) dX5_beginsWithVowel_24 (by decide) ?_
      refine ex_zret dX5_beginsWithVowel_25 rfl (by decide) ?_
      refine ⟨?_, rfl, rfl, rfl⟩
      first | simp [bi, h4, h17] | simp [bi, h4]
    · rw [ix_vow, show ix (0 : Int32) = 0 from rfl] at h17
      refine ex_iconst (v := 1) dX5_beginsWithVowel_20 (by decide) ?_
      refine ex_goto 25 dX5_beginsWithVowel_21 (by decide) ?_
      refine ex_zret dX5_beginsWithVowel_25 rfl (by decide) ?_
      refine ⟨?_, rfl, rfl, rfl⟩
      first | simp [bi, h4, h17] | simp [bi, h4]
def oS (D E : xD) : xD := fun q => if q = 9 then upd (D 9) 1 (E 0 29) else if q = 10 then E 23 else D q
theorem oS_91 (D E : xD) : oS D E 9 1 = E 0 29 := rfl
theorem oS_10 (D E : xD) : oS D E 10 = E 23 := rfl
theorem oS_ne (D E : xD) {q : Nat} (h9 : q ≠ 9) (h10 : q ≠ 10) : oS D E q = D q := by
  unfold oS
  rw [if_neg h9, if_neg h10]
theorem oS_id {D E : xD} (h : cOu D E) : oS D E = D := by
  funext q
  unfold oS
  split
  next e =>
    rw [e, ← h.1]
    funext k
    unfold upd
    split
    next e2 => rw [e2]
    next => rfl
  next =>
    split
    next e => rw [e, h.2]
    next => rfl
theorem oS_say {D E : xD} {c : Int32} (h : ¬ 400 ≤ E 0 29) : xdu (xdu (oS D E) 10 (ix (E 0 29)) c) 9 1 (E 0 29 + 1) = oS D (sSay E c) := by
  unfold sSay
  rw [if_pos h]
  funext q
  by_cases h9 : q = 9
  · subst h9
    rw [xdu_self, xdu_ne _ _ _ (by decide)]
    unfold oS
    rw [if_pos rfl, if_pos rfl, xdu_self, upd_self]
    funext k
    unfold upd
    split <;> rfl
  · rw [xdu_ne _ _ _ h9]
    by_cases h10 : q = 10
    · subst h10
      rw [xdu_self]
      unfold oS
      rw [if_neg (by decide), if_pos rfl, if_neg (by decide), if_pos rfl, xdu_ne _ _ _ (by decide), xdu_self]
    · rw [xdu_ne _ _ _ h10, oS_ne _ _ h9 h10, oS_ne _ _ h9 h10]
theorem oS_full {D E : xD} {c : Int32} (h : 400 ≤ E 0 29) : oS D E = oS D (sSay E c) := by
  unfold sSay
  rw [if_neg (fun q => q h)]
set_option maxRecDepth 20000 in
set_option maxHeartbeats 1000000 in
theorem c_oadd {Γ : xGm} {l : Launch} {f : Nat} {G : xG} {D E : xD} {R : xR} (hX : xFix G R) (hB : vp_in (E 0 29) 401) {c : Int32} (hc : chr c) : Cn Γ l f MX2_add [.ref 9, .int c] G (oS D E) R 0 0 (xdet none G (oS D (sSay E c)) R) := by
  refine cn_of MX2_add_ok (Nat.le_of_ble_eq_true rfl) ?_
  show Ex Γ l f MX2_add 0 [some (.ref 9), some (.int c)] [] G (oS D E) R 0 0 _
  refine al0 dX2_add_0 (by first | nofun | exact xrv_ne _) ?_
  refine gf2_15 rfl dX2_add_1 (fx9 hX) ?_
  rw [oS_91]
  refine ex_if_lt 38 dX2_add_4 (by decide) (fun h4 => ?_) (fun h4 => ?_)
  · exact absurd (vi_0le hB) h4
  · refine al0 dX2_add_7 (by first | nofun | exact xrv_ne _) ?_
    refine gf2_15 rfl dX2_add_8 (fx9 hX) ?_
    rw [oS_91]
    refine ex_sipush (v := 400) dX2_add_11 (by decide) ?_
    refine ex_icmp_ge 38 dX2_add_14 (by decide) (fun h14 => ?_) (fun h14 => ?_)
    · refine ex_vret dX2_add_38 rfl ?_
      refine ⟨rfl, rfl, ?_, rfl⟩
      first | exact oS_say h14 | exact oS_full h14
    · refine al0 dX2_add_17 (by first | nofun | exact xrv_ne _) ?_
      refine gf2_9 rfl dX2_add_18 (fr9_0 hX) (fx9 hX) ?_
      refine al0 dX2_add_21 (by first | nofun | exact xrv_ne _) ?_
      refine gf2_15 rfl dX2_add_22 (fx9 hX) ?_
      rw [oS_91]
      refine il1 dX2_add_25 ?_
      refine ex_i2b dX2_add_26 ?_
      rw [chr_b hc]
      refine ey_bast dX2_add_27 (fx10 hX) (vi_lt hB (by decide) h14) (chr_b hc) ?_
      refine al0 dX2_add_28 (by first | nofun | exact xrv_ne _) ?_
      refine ex_dup dX2_add_29 ?_
      refine gf2_15 rfl dX2_add_30 (fx9 hX) ?_
      rw [show xdu (oS D E) 10 (ix (E 0 29)) c 9 1 = E 0 29 from rfl]
      refine ex_iconst (v := 1) dX2_add_33 (by decide) ?_
      refine ex_iadd dX2_add_34 ?_
      refine pf2_15 rfl dX2_add_35 (fx9 hX) ?_
      refine ex_vret dX2_add_38 rfl ?_
      refine ⟨rfl, rfl, ?_, rfl⟩
      first | exact oS_say h14 | exact oS_full h14
theorem xb_drops : ∀ i, i < 9 → ∀ k, k < xLen.getD i 0 → (xByt.getD i []).drop k = (xByt.getD i []).getD k 0 :: (xByt.getD i []).drop (k + 1) := by decide +kernel
theorem xb_chr : ∀ i, i < 9 → ∀ k, k < xLen.getD i 0 → (0 : Int32) ≤ (xByt.getD i []).getD k 0 ∧ (xByt.getD i []).getD k 0 ≤ 126 := by decide +kernel
theorem xb_end : ∀ i, i < 9 → (xByt.getD i []).drop (xLen.getD i 0) = [] := by decide +kernel
set_option maxRecDepth 20000 in
set_option maxHeartbeats 1000000 in
theorem c_say_lp {Γ : xGm} {l : Launch} {f : Nat} {G : xG} {D : xD} {R : xR} (hf : 4 ≤ f) (hX : xFix G R) {i : Nat} (hi : i < 9) : ∀ (m k : Nat) (E : xD), vp_in (E 0 29) 401 → k + m = xLen.getD i 0 → Ex Γ l f MX2_say 2 [some (.ref 9), some (.ref (1000000 + i)), some (.int (nI k))] [] G (oS D E) R 0 0 (xdet none G (oS D (sSays E ((xByt.getD i []).drop k))) R) := by
  intro m
  induction m with
  | zero =>
    intro k E hB hk
    have hk : k = xLen.getD i 0 := by omega
    subst hk
    rw [xb_end i hi]
    refine il2 dX2_say_2 ?_
    refine al1 dX2_say_3 (by first | nofun | exact xrv_ne _) ?_
    refine cd2_19 (f' := f - 1) rfl dX2_say_4 (Nat.le_of_ble_eq_true rfl) hi (by omega) (j_length (by omega) hi) ?_
    refine ex_icmp_ge 25 dX2_say_7 (by decide) (fun h7 => ?_) (fun h7 => ?_)
    · refine ex_vret dX2_say_25 rfl ?_
      exact ⟨rfl, rfl, rfl, rfl⟩
    · exact absurd (Int32.le_refl _) h7
  | succ m ih =>
    intro k E hB hk
    rw [xb_drops i hi k (by omega)]
    refine il2 dX2_say_2 ?_
    refine al1 dX2_say_3 (by first | nofun | exact xrv_ne _) ?_
    refine cd2_19 (f' := f - 1) rfl dX2_say_4 (Nat.le_of_ble_eq_true rfl) hi (by omega) (j_length (by omega) hi) ?_
    refine ex_icmp_ge 25 dX2_say_7 (by decide) (fun h7 => ?_) (fun h7 => ?_)
    · exact absurd h7 (nI_ge (a := k) (b := xLen.getD i 0) (by omega) (by have := xl_lt i hi; omega))
    · refine al0 dX2_say_10 (by first | nofun | exact xrv_ne _) ?_
      refine al1 dX2_say_11 (by first | nofun | exact xrv_ne _) ?_
      refine il2 dX2_say_12 ?_
      refine cd2_24 (f' := f - 1) rfl dX2_say_13 (Nat.le_of_ble_eq_true rfl) hi (by omega) (j_cA (by omega) hi (vi_of (n := k) (by omega) (by have := xl_lt i hi; omega))) ?_
      rw [ix_nI (show k < 2 ^ 31 by have := xl_lt i hi; omega)]
      refine cd2_28 (f' := f - 1) rfl dX2_say_16 (Nat.le_of_ble_eq_true rfl) (fx9 hX) (by omega) (c_oadd hX hB (xb_chr i hi k (by omega))) ?_
      refine ic2 (nI (k + 1)) dX2_say_19 (nI_1 k) ?_
      refine ex_goto 2 dX2_say_22 (by decide) ?_
      exact ih (k + 1) _ (sSay_29 hB) (by omega)
set_option maxRecDepth 20000 in
set_option maxHeartbeats 1000000 in
theorem c_say {Γ : xGm} {l : Launch} {f : Nat} {G : xG} {D E : xD} {R : xR} (hf : 4 ≤ f) (hX : xFix G R) {i : Nat} (hi : i < 9) (hB : vp_in (E 0 29) 401) : Cn Γ l f MX2_say [.ref 9, .ref (1000000 + i)] G (oS D E) R 0 0 (xdet none G (oS D (sSays E (xByt.getD i []))) R) := by
  refine cn_of MX2_say_ok (Nat.le_of_ble_eq_true rfl) ?_
  show Ex Γ l f MX2_say 0 [some (.ref 9), some (.ref (1000000 + i)), none] [] G (oS D E) R 0 0 _
  refine ex_iconst (v := 0) dX2_say_0 (by decide) ?_
  refine is2 dX2_say_1 ?_
  exact c_say_lp hf hX hi (xLen.getD i 0) 0 E hB (by omega)
def sGo (E : xD) (g : Nat → Int32) (k : Nat) : Nat → xD
  | 0 => E
  | m + 1 => sGo (sSay E (g k)) g (k + 1) m
theorem sGo_eq {t : Nat} (ht : t < 20) {g : Nat → Int32} : ∀ (m k : Nat) (E : xD), k + m ≤ 20 → (∀ j, j < 20 → E 3 (20 * t + j) = g j) → sSayN E (nI t) (nI k) m = sGo E g k m
  | 0, _, _, _, _ => rfl
  | m + 1, k, E, hk, hg => by
    have e : ix (20 * nI t + nI k) = 20 * t + k := by
      rw [show (20 : Int32) = nI 20 from rfl, pk_mul, nI_add, ix_nI (by omega)]
    rw [sSayN, sGo, e, hg k (by omega), show nI k + 1 = nI (k + 1) from nI_1 k]
    exact sGo_eq ht m (k + 1) _ (by omega) (fun j hj => by rw [sSay_ne (by decide) (by decide)]; exact hg j hj)
set_option maxRecDepth 20000 in
set_option maxHeartbeats 1000000 in
theorem c_sayT_lp {Γ : xGm} {l : Launch} {f : Nat} {G : xG} {D : xD} {R : xR} (hf : 2 ≤ f) (hX : xFix G R) {b : Nat} {g : Nat → Int32} {n : Int32} (h : tx D R G b g n) : ∀ (m k : Nat) (E : xD), vp_in (E 0 29) 401 → k + m = ix n → Ex Γ l f MX2_say_ 2 [some (.ref 9), some (.ref b), some (.int (nI k))] [] G (oS D E) R 0 0 (xdet none G (oS D (sGo E g k m)) R) := by
  obtain ⟨hq, h0, hl, hn, hv, hg⟩ := id h
  have e := vi_n hv (by decide)
  intro m
  induction m with
  | zero =>
    intro k E hB hk
    have hk : k = ix n := by omega
    subst hk
    have hT : tx (oS D E) R G b g n := h.same (oS_ne _ _ (xis_ne hq (fx9 hX) (by decide)) (xis_xia hq (fx10 hX) (by decide))) (oS_ne _ _ (Ne.symm (xis_xia (fx9 hX) hl (by decide))) (xia_ne hl (fx10 hX) (by omega))) rfl
    have en : oS D E b 1 = n := hT.2.2.2.1
    refine il2 dX2_say__2 ?_
    refine al1 dX2_say__3 (by first | nofun | exact xrv_ne _) ?_
    refine gf2_32 rfl dX2_say__4 hq ?_
    rw [en]
    refine ex_icmp_ge 25 dX2_say__7 (by decide) (fun h7 => ?_) (fun h7 => ?_)
    · refine ex_vret dX2_say__25 rfl ?_
      exact ⟨rfl, rfl, rfl, rfl⟩
    · exact absurd (by rw [← e.1]; exact Int32.le_refl _) h7
  | succ m ih =>
    intro k E hB hk
    have hT : tx (oS D E) R G b g n := h.same (oS_ne _ _ (xis_ne hq (fx9 hX) (by decide)) (xis_xia hq (fx10 hX) (by decide))) (oS_ne _ _ (Ne.symm (xis_xia (fx9 hX) hl (by decide))) (xia_ne hl (fx10 hX) (by omega))) rfl
    have en : oS D E b 1 = n := hT.2.2.2.1
    refine il2 dX2_say__2 ?_
    refine al1 dX2_say__3 (by first | nofun | exact xrv_ne _) ?_
    refine gf2_32 rfl dX2_say__4 hq ?_
    rw [en]
    refine ex_icmp_ge 25 dX2_say__7 (by decide) (fun h7 => ?_) (fun h7 => ?_)
    · exact absurd (by rw [e.1] at h7; exact h7) (nI_ge (a := k) (b := ix n) (by omega) (by omega))
    · refine al0 dX2_say__10 (by first | nofun | exact xrv_ne _) ?_
      refine al1 dX2_say__11 (by first | nofun | exact xrv_ne _) ?_
      refine il2 dX2_say__12 ?_
      refine cd2_35 (f' := f - 1) rfl dX2_say__13 (Nat.le_of_ble_eq_true rfl) hq (by omega) (c_tat hT (vi_of (n := k) (by omega) (by have := (vi_n hv (by decide)).2; omega))) ?_
      rw [ix_nI (show k < 2 ^ 31 by have := (vi_n hv (by decide)).2; omega)]
      refine cd2_28 (f' := f - 1) rfl dX2_say__16 (Nat.le_of_ble_eq_true rfl) (fx9 hX) (by omega) (c_oadd hX hB (chr_32 (hg k (by omega)).2)) ?_
      refine ic2 (nI (k + 1)) dX2_say__19 (nI_1 k) ?_
      refine ex_goto 2 dX2_say__22 (by decide) ?_
      exact ih (k + 1) _ (sSay_29 hB) (by omega)
set_option maxRecDepth 20000 in
set_option maxHeartbeats 1000000 in
theorem c_sayT {Γ : xGm} {l : Launch} {f : Nat} {G : xG} {D E : xD} {R : xR} (hf : 2 ≤ f) (hX : xFix G R) {b : Nat} {g : Nat → Int32} {n : Int32} (h : tx D R G b g n) (hB : vp_in (E 0 29) 401) : Cn Γ l f MX2_say_ [.ref 9, .ref b] G (oS D E) R 0 0 (xdet none G (oS D (sGo E g 0 (ix n))) R) := by
  refine cn_of MX2_say__ok (Nat.le_of_ble_eq_true rfl) ?_
  show Ex Γ l f MX2_say_ 0 [some (.ref 9), some (.ref b), none] [] G (oS D E) R 0 0 _
  refine ex_iconst (v := 0) dX2_say__0 (by decide) ?_
  refine is2 dX2_say__1 ?_
  exact c_sayT_lp hf hX h (ix n) 0 E hB (by omega)
theorem num_chr : ∀ o, o < 41 → ((0 : Int32) ≤ 48 + nI o / 10 ∧ 48 + nI o / 10 ≤ 126) ∧ ((0 : Int32) ≤ 48 + (nI o - nI o / 10 * 10) ∧ 48 + (nI o - nI o / 10 * 10) ≤ 126) ∧ ((10 : Int32) ≤ nI o ↔ ¬ nI o ≤ 9) := by decide +kernel
set_option maxRecDepth 20000 in
set_option maxHeartbeats 1000000 in
theorem c_sayNum {Γ : xGm} {l : Launch} {f : Nat} {G : xG} {D E : xD} {R : xR} (hf : 1 ≤ f) (hX : xFix G R) {o : Nat} (ho : o < 41) (hB : vp_in (E 0 29) 401) : Cn Γ l f MX2_sayNumber [.ref 9, .int (nI o)] G (oS D E) R 0 0 (xdet none G (oS D (sSayNum E (nI o))) R) := by
  have hn := num_chr o ho
  refine cn_of MX2_sayNumber_ok (Nat.le_of_ble_eq_true rfl) ?_
  show Ex Γ l f MX2_sayNumber 0 [some (.ref 9), some (.int (nI o))] [] G (oS D E) R 0 0 _
  refine al0 dX2_sayNumber_0 (by first | nofun | exact xrv_ne _) ?_
  refine ex_bipush (v := 40) dX2_sayNumber_1 (by decide) ?_
  refine cd2_28 (f' := f - 1) rfl dX2_sayNumber_3 (Nat.le_of_ble_eq_true rfl) (fx9 hX) (by omega) (c_oadd hX hB ⟨by decide, by decide⟩) ?_
  refine il1 dX2_sayNumber_6 ?_
  refine ex_bipush (v := 10) dX2_sayNumber_7 (by decide) ?_
  refine ex_icmp_lt 24 dX2_sayNumber_9 (by decide) (fun h9 => ?_) (fun h9 => ?_)
  · rw [hn.2.2] at h9
    refine al0 dX2_sayNumber_24 (by first | nofun | exact xrv_ne _) ?_
    refine ex_bipush (v := 48) dX2_sayNumber_25 (by decide) ?_
    refine il1 dX2_sayNumber_27 ?_
    refine ex_bipush (v := 10) dX2_sayNumber_28 (by decide) ?_
    refine ex_irem dX2_sayNumber_30 (by decide) ?_
    refine ex_iadd dX2_sayNumber_31 ?_
    refine ex_i2c dX2_sayNumber_32 ?_
    rw [chr_c hn.2.1]
    refine cd2_28 (f' := f - 1) rfl dX2_sayNumber_33 (Nat.le_of_ble_eq_true rfl) (fx9 hX) (by omega) (c_oadd hX (by first | exact sSay_29 hB | exact sSay_29 (sSay_29 hB)) hn.2.1) ?_
    refine al0 dX2_sayNumber_36 (by first | nofun | exact xrv_ne _) ?_
    refine ex_bipush (v := 41) dX2_sayNumber_37 (by decide) ?_
    refine cd2_28 (f' := f - 1) rfl dX2_sayNumber_39 (Nat.le_of_ble_eq_true rfl) (fx9 hX) (by omega) (c_oadd hX (by first | exact sSay_29 (sSay_29 hB) | exact sSay_29 (sSay_29 (sSay_29 hB))) ⟨by decide, by decide⟩) ?_
    refine ex_vret dX2_sayNumber_42 rfl ?_
    refine ⟨rfl, rfl, ?_, rfl⟩
    unfold sSayNum
    first | rw [if_pos h9] | rw [if_neg h9]
  · rw [hn.2.2] at h9
    refine al0 dX2_sayNumber_12 (by first | nofun | exact xrv_ne _) ?_
    refine ex_bipush (v := 48) dX2_sayNumber_13 (by decide) ?_
    refine il1 dX2_sayNumber_15 ?_
    refine ex_bipush (v := 10) dX2_sayNumber_16 (by decide) ?_
    refine ex_idiv dX2_sayNumber_18 (by decide) ?_
    refine ex_iadd dX2_sayNumber_19 ?_
    refine ex_i2c dX2_sayNumber_20 ?_
    rw [chr_c hn.1]
    refine cd2_28 (f' := f - 1) rfl dX2_sayNumber_21 (Nat.le_of_ble_eq_true rfl) (fx9 hX) (by omega) (c_oadd hX (sSay_29 hB) hn.1) ?_
    refine al0 dX2_sayNumber_24 (by first | nofun | exact xrv_ne _) ?_
    refine ex_bipush (v := 48) dX2_sayNumber_25 (by decide) ?_
    refine il1 dX2_sayNumber_27 ?_
    refine ex_bipush (v := 10) dX2_sayNumber_28 (by decide) ?_
    refine ex_irem dX2_sayNumber_30 (by decide) ?_
    refine ex_iadd dX2_sayNumber_31 ?_
    refine ex_i2c dX2_sayNumber_32 ?_
    rw [chr_c hn.2.1]
    refine cd2_28 (f' := f - 1) rfl dX2_sayNumber_33 (Nat.le_of_ble_eq_true rfl) (fx9 hX) (by omega) (c_oadd hX (by first | exact sSay_29 hB | exact sSay_29 (sSay_29 hB)) hn.2.1) ?_
    refine al0 dX2_sayNumber_36 (by first | nofun | exact xrv_ne _) ?_
    refine ex_bipush (v := 41) dX2_sayNumber_37 (by decide) ?_
    refine cd2_28 (f' := f - 1) rfl dX2_sayNumber_39 (Nat.le_of_ble_eq_true rfl) (fx9 hX) (by omega) (c_oadd hX (by first | exact sSay_29 (sSay_29 hB) | exact sSay_29 (sSay_29 (sSay_29 hB))) ⟨by decide, by decide⟩) ?_
    refine ex_vret dX2_sayNumber_42 rfl ?_
    refine ⟨rfl, rfl, ?_, rfl⟩
    unfold sSayNum
    first | rw [if_pos h9] | rw [if_neg h9]
set_option maxRecDepth 20000 in
set_option maxHeartbeats 1000000 in
theorem c_oat {Γ : xGm} {l : Launch} {f : Nat} {G : xG} {D E : xD} {R : xR} (hX : xFix G R) (hB : vp_in (E 0 29) 401) {k : Int32} : Cn Γ l f MX2_at [.ref 9, .int k] G (oS D E) R 0 0 (xdet (some (.int (sOut E k))) G (oS D E) R) := by
  refine cn_of MX2_at_ok (Nat.le_of_ble_eq_true rfl) ?_
  show Ex Γ l f MX2_at 0 [some (.ref 9), some (.int k)] [] G (oS D E) R 0 0 _
  refine il1 dX2_at_0 ?_
  refine ex_if_lt 28 dX2_at_1 (by decide) (fun h1 => ?_) (fun h1 => ?_)
  · refine ex_iconst (v := (-1)) dX2_at_28 (by decide) ?_
    refine ex_iret dX2_at_29 rfl ?_
    refine ⟨?_, rfl, rfl, rfl⟩
    unfold sOut
    first | (rw [if_pos ((sIn_lt hB (by decide)).mpr ⟨h1, h9⟩)]; rfl) | rw [if_neg (fun q => absurd ((sIn_lt hB (by decide)).mp q).1 h1)] | rw [if_neg (fun q => absurd h9 ((sIn_lt hB (by decide)).mp q).2)] | exact absurd h16 (vi_not (n := 400) (vi_btw2 hB h1 h9 (by decide)) (by decide))
  · refine il1 dX2_at_4 ?_
    refine al0 dX2_at_5 (by first | nofun | exact xrv_ne _) ?_
    refine gf2_15 rfl dX2_at_6 (fx9 hX) ?_
    rw [oS_91]
    refine ex_icmp_ge 28 dX2_at_9 (by decide) (fun h9 => ?_) (fun h9 => ?_)
    · refine ex_iconst (v := (-1)) dX2_at_28 (by decide) ?_
      refine ex_iret dX2_at_29 rfl ?_
      refine ⟨?_, rfl, rfl, rfl⟩
      unfold sOut
      first | (rw [if_pos ((sIn_lt hB (by decide)).mpr ⟨h1, h9⟩)]; rfl) | rw [if_neg (fun q => absurd ((sIn_lt hB (by decide)).mp q).1 h1)] | rw [if_neg (fun q => absurd h9 ((sIn_lt hB (by decide)).mp q).2)] | exact absurd h16 (vi_not (n := 400) (vi_btw2 hB h1 h9 (by decide)) (by decide))
    · refine il1 dX2_at_12 ?_
      refine ex_sipush (v := 400) dX2_at_13 (by decide) ?_
      refine ex_icmp_ge 28 dX2_at_16 (by decide) (fun h16 => ?_) (fun h16 => ?_)
      · refine ex_iconst (v := (-1)) dX2_at_28 (by decide) ?_
        refine ex_iret dX2_at_29 rfl ?_
        refine ⟨?_, rfl, rfl, rfl⟩
        unfold sOut
        first | (rw [if_pos ((sIn_lt hB (by decide)).mpr ⟨h1, h9⟩)]; rfl) | rw [if_neg (fun q => absurd ((sIn_lt hB (by decide)).mp q).1 h1)] | rw [if_neg (fun q => absurd h9 ((sIn_lt hB (by decide)).mp q).2)] | exact absurd h16 (vi_not (n := 400) (vi_btw2 hB h1 h9 (by decide)) (by decide))
      · refine al0 dX2_at_19 (by first | nofun | exact xrv_ne _) ?_
        refine gf2_9 rfl dX2_at_20 (fr9_0 hX) (fx9 hX) ?_
        refine il1 dX2_at_23 ?_
        refine ey_bald dX2_at_24 (fx10 hX) (vi_lt (vi_btw (a := 0) (x := E 0 29) (A := 401) (B := 401) hB h1 (Int32.le_of_lt (Int32.not_le.mp h9)) (by decide) (by decide)) (by decide) h16) ?_
        refine ex_goto 29 dX2_at_25 (by decide) ?_
        refine ex_iret dX2_at_29 rfl ?_
        refine ⟨?_, rfl, rfl, rfl⟩
        unfold sOut
        first | (rw [if_pos ((sIn_lt hB (by decide)).mpr ⟨h1, h9⟩)]; rfl) | rw [if_neg (fun q => absurd ((sIn_lt hB (by decide)).mp q).1 h1)] | rw [if_neg (fun q => absurd h9 ((sIn_lt hB (by decide)).mp q).2)] | exact absurd h16 (vi_not (n := 400) (vi_btw2 hB h1 h9 (by decide)) (by decide))
theorem sFault_no {E : xD} {i w : Int32} (h : ¬ (sIn i 0 (E 0 27 - 1) = true ∧ sIn w 0 2 = true)) : sFault E i w = -1 := by
  unfold sFault
  rw [if_neg h]
theorem sFault_w {E : xD} (hB : vp_in (E 0 27) 31) {i w : Int32} (h1 : 0 ≤ i) (h2 : ¬ E 0 27 ≤ i) {k : Nat} (hk : k < 3) (hw : w = nI k) : sFault E i w = E 22 (3 * ix i + k) := by
  have hi : vp_in i 30 := vi_btw2 hB h1 h2 (by decide)
  unfold sFault
  rw [if_pos ⟨(sIn_lt hB (by decide)).mpr ⟨h1, h2⟩, by rw [hw]; exact sIn_t.mpr ⟨nI_le (a := 0) (by omega) (by omega), nI_le (b := 2) (by omega) (by decide)⟩⟩, hw]
  congr 1
  rw [show (3 : Int32) = nI 3 from rfl, (vi_ln (N := 90) 3 hi (vi_of (n := k) (N := 3) hk (by decide)) (by decide) (by decide) (by decide) (by decide)).2, ix_nI (by omega)]
set_option maxRecDepth 20000 in
set_option maxHeartbeats 1000000 in
theorem c_fat {Γ : xGm} {l : Launch} {f : Nat} {G : xG} {D E : xD} {R : xR} (hX : xFix G R) (hB : vp_in (E 0 27) 31) (h : cFl D E) {i w : Int32} : Cn Γ l f MX0_at [.ref 13, .int i, .int w] G D R 0 0 (xdet (some (.int (sFault E i w))) G D R) := by
  obtain ⟨hf1, hf2, hf3⟩ := h
  have hlt : 0 ≤ i → ¬ E 0 27 ≤ i → ix i < ix (E 0 27) := fun a b => by
    have e := vi_n hB (by decide)
    have hi : vp_in i 30 := vi_btw2 hB a b (by decide)
    have e2 := vi_n hi (by decide)
    rw [e.1, e2.1] at b
    by_cases q : ix i < ix (E 0 27)
    · exact q
    · exact absurd (nI_le (a := ix (E 0 27)) (b := ix i) (by omega) (by omega)) b
  refine cn_of MX0_at_ok (Nat.le_of_ble_eq_true rfl) ?_
  show Ex Γ l f MX0_at 0 [some (.ref 13), some (.int i), some (.int w)] [] G D R 0 0 _
  refine il1 dX0_at_0 ?_
  refine ex_if_lt 18 dX0_at_1 (by decide) (fun h1 => ?_) (fun h1 => ?_)
  · refine ex_iconst (v := (-1)) dX0_at_18 (by decide) ?_
    refine ex_iret dX0_at_19 rfl ?_
    refine ⟨?_, rfl, rfl, rfl⟩
    first | rw [sFault_no (fun q => absurd ((sIn_lt hB (by decide)).mp q.1).1 h1)] | rw [sFault_no (fun q => absurd h9 ((sIn_lt hB (by decide)).mp q.1).2)] | exact absurd h15 (vi_not (n := 30) (vi_btw2 hB h1 h9 (by decide)) (by decide))
  · refine il1 dX0_at_4 ?_
    refine al0 dX0_at_5 (by first | nofun | exact xrv_ne _) ?_
    refine gf0_25 rfl dX0_at_6 (fx13 hX) ?_
    rw [hf2]
    refine ex_icmp_ge 18 dX0_at_9 (by decide) (fun h9 => ?_) (fun h9 => ?_)
    · refine ex_iconst (v := (-1)) dX0_at_18 (by decide) ?_
      refine ex_iret dX0_at_19 rfl ?_
      refine ⟨?_, rfl, rfl, rfl⟩
      first | rw [sFault_no (fun q => absurd ((sIn_lt hB (by decide)).mp q.1).1 h1)] | rw [sFault_no (fun q => absurd h9 ((sIn_lt hB (by decide)).mp q.1).2)] | exact absurd h15 (vi_not (n := 30) (vi_btw2 hB h1 h9 (by decide)) (by decide))
    · refine il1 dX0_at_12 ?_
      refine ex_bipush (v := 30) dX0_at_13 (by decide) ?_
      refine ex_icmp_lt 20 dX0_at_15 (by decide) (fun h15 => ?_) (fun h15 => ?_)
      · refine il2 dX0_at_20 ?_
        refine ex_table 0 69 [48, 55, 62] dX0_at_21 (by decide) (by decide) (by decide) (by decide) (by decide) ⟨fun h21 => ?_, fun h21 => ?_, fun h21 => ?_, trivial⟩ (fun h21 => ?_)
        · change _ = (0 : Int32) at h21
          refine al0 dX0_at_48 (by first | nofun | exact xrv_ne _) ?_
          refine gf0_9 rfl dX0_at_49 (fr13_0 hX) (fx13 hX) ?_
          refine il1 dX0_at_52 ?_
          refine ey_iald dX0_at_53 (fx14 hX) (vi_btw2 hB h1 h9 (by decide)) ?_
          refine ex_iret dX0_at_54 rfl ?_
          refine ⟨?_, rfl, rfl, rfl⟩
          rw [sFault_w hB h1 h9 (k := 0) (by decide) h21, (hf3 (ix i) (hlt h1 h9)).1]
          rfl
        · change _ = (1 : Int32) at h21
          refine al0 dX0_at_55 (by first | nofun | exact xrv_ne _) ?_
          refine gf0_15 rfl dX0_at_56 (fr13_1 hX) (fx13 hX) ?_
          refine il1 dX0_at_59 ?_
          refine ey_iald dX0_at_60 (fx15 hX) (vi_btw2 hB h1 h9 (by decide)) ?_
          refine ex_iret dX0_at_61 rfl ?_
          refine ⟨?_, rfl, rfl, rfl⟩
          rw [sFault_w hB h1 h9 (k := 1) (by decide) h21, (hf3 (ix i) (hlt h1 h9)).2.1]
        · change _ = (2 : Int32) at h21
          refine al0 dX0_at_62 (by first | nofun | exact xrv_ne _) ?_
          refine gf0_18 rfl dX0_at_63 (fr13_2 hX) (fx13 hX) ?_
          refine il1 dX0_at_66 ?_
          refine ey_iald dX0_at_67 (fx16 hX) (vi_btw2 hB h1 h9 (by decide)) ?_
          refine ex_iret dX0_at_68 rfl ?_
          refine ⟨?_, rfl, rfl, rfl⟩
          rw [sFault_w hB h1 h9 (k := 2) (by decide) h21, (hf3 (ix i) (hlt h1 h9)).2.2]
        · obtain ⟨h21_0, h21_1, h21_2, -⟩ := h21
          change ¬ _ = (0 : Int32) at h21_0
          change ¬ _ = (1 : Int32) at h21_1
          change ¬ _ = (2 : Int32) at h21_2
          refine ex_iconst (v := (-1)) dX0_at_69 (by decide) ?_
          refine ex_iret dX0_at_70 rfl ?_
          refine ⟨?_, rfl, rfl, rfl⟩
          rw [sFault_no (fun q => ?_)]
          by_cases z0 : w = 0
          · exact absurd z0 h21_0
          · by_cases z1 : w = 1
            · exact absurd z1 h21_1
            · exact absurd (sIn_02 q.2 z0 z1) h21_2
      · refine ex_iconst (v := (-1)) dX0_at_18 (by decide) ?_
        refine ex_iret dX0_at_19 rfl ?_
        refine ⟨?_, rfl, rfl, rfl⟩
        first | rw [sFault_no (fun q => absurd ((sIn_lt hB (by decide)).mp q.1).1 h1)] | rw [sFault_no (fun q => absurd h9 ((sIn_lt hB (by decide)).mp q.1).2)] | exact absurd h15 (vi_not (n := 30) (vi_btw2 hB h1 h9 (by decide)) (by decide))
set_option maxRecDepth 20000 in
set_option maxHeartbeats 1000000 in
theorem c_rhas {Γ : xGm} {l : Launch} {f : Nat} {G : xG} {D E : xD} {R : xR} {b r : Nat} (h : ro D R G b E r) (hv : vp_in (E 4 r) 9) {k : Int32} (hk : vp_in k (ix (E 4 r))) : Cn Γ l f MX3_has [.ref b, .int k] G D R 0 0 (xdet (some (.int (bi true))) G D R) := by
  obtain ⟨hq, ⟨h0, h1_, h2_⟩, ⟨hl0, hl1, hl2⟩, hn, hg⟩ := h
  refine cn_of MX3_has_ok (Nat.le_of_ble_eq_true rfl) ?_
  show Ex Γ l f MX3_has 0 [some (.ref b), some (.int k)] [] G D R 0 0 _
  refine il1 dX3_has_0 ?_
  refine ex_if_lt 22 dX3_has_1 (by decide) (fun h1 => ?_) (fun h1 => ?_)
  · exact absurd (vi_0le hk) h1
  · refine il1 dX3_has_4 ?_
    refine al0 dX3_has_5 (by first | nofun | exact xrv_ne _) ?_
    refine gf3_21 rfl dX3_has_6 hq ?_
    refine ex_icmp_ge 22 dX3_has_9 (by decide) (fun h9 => ?_) (fun h9 => ?_)
    · exact absurd h9 (by rw [hn]; exact vi_nle hv (by decide) hk)
    · refine il1 dX3_has_12 ?_
      refine ex_bipush (v := 8) dX3_has_13 (by decide) ?_
      refine ex_icmp_ge 22 dX3_has_15 (by decide) (fun h15 => ?_) (fun h15 => ?_)
      · exact absurd h15 (vi_not (n := 8) (vi_le hk (by have := (vi_n hv (by decide)).2; omega)) (by decide))
      · refine ex_iconst (v := 1) dX3_has_18 (by decide) ?_
        refine ex_goto 23 dX3_has_19 (by decide) ?_
        refine ex_zret dX3_has_23 rfl (by decide) ?_
        exact ⟨rfl, rfl, rfl, rfl⟩
set_option maxRecDepth 20000 in
set_option maxHeartbeats 1000000 in
theorem c_ropAt {Γ : xGm} {l : Launch} {f : Nat} {G : xG} {D E : xD} {R : xR} (hf : 1 ≤ f) {b r : Nat} (h : ro D R G b E r) (hv : vp_in (E 4 r) 9) {k : Int32} (hk : vp_in k (ix (E 4 r))) : Cn Γ l f MX3_opAt [.ref b, .int k] G D R 0 0 (xdet (some (.int (E 5 (8 * r + ix k)))) G D R) := by
  obtain ⟨hq, ⟨h0, h1_, h2_⟩, ⟨hl0, hl1, hl2⟩, hn, hg⟩ := id h
  refine cn_of MX3_opAt_ok (Nat.le_of_ble_eq_true rfl) ?_
  show Ex Γ l f MX3_opAt 0 [some (.ref b), some (.int k)] [] G D R 0 0 _
  refine al0 dX3_opAt_0 (by first | nofun | exact xrv_ne _) ?_
  refine il1 dX3_opAt_1 ?_
  refine cd3_25 (f' := f - 1) rfl dX3_opAt_2 (Nat.le_of_ble_eq_true rfl) hq (by omega) (c_rhas h hv hk) ?_
  refine ex_if_eq 17 dX3_opAt_5 (by decide) (fun h5 => ?_) (fun h5 => ?_)
  · exact absurd h5 (by decide)
  · simp only [bi_0, Bool.not_eq_false] at h5
    refine al0 dX3_opAt_8 (by first | nofun | exact xrv_ne _) ?_
    refine gf3_9 rfl dX3_opAt_9 (h0) hq ?_
    refine il1 dX3_opAt_12 ?_
    refine ey_iald dX3_opAt_13 hl0 (vi_le hk (by have := (vi_n hv (by decide)).2; omega)) ?_
    refine ex_goto 18 dX3_opAt_14 (by decide) ?_
    refine ex_iret dX3_opAt_18 rfl ?_
    refine ⟨?_, rfl, rfl, rfl⟩
    rw [(hg (ix k) (vi_n hk (by have := (vi_n hv (by decide)).2; omega)).2).1]
set_option maxRecDepth 20000 in
set_option maxHeartbeats 1000000 in
theorem c_rfirstAt {Γ : xGm} {l : Launch} {f : Nat} {G : xG} {D E : xD} {R : xR} (hf : 1 ≤ f) {b r : Nat} (h : ro D R G b E r) (hv : vp_in (E 4 r) 9) {k : Int32} (hk : vp_in k (ix (E 4 r))) : Cn Γ l f MX3_firstAt [.ref b, .int k] G D R 0 0 (xdet (some (.int (E 6 (8 * r + ix k)))) G D R) := by
  obtain ⟨hq, ⟨h0, h1_, h2_⟩, ⟨hl0, hl1, hl2⟩, hn, hg⟩ := id h
  refine cn_of MX3_firstAt_ok (Nat.le_of_ble_eq_true rfl) ?_
  show Ex Γ l f MX3_firstAt 0 [some (.ref b), some (.int k)] [] G D R 0 0 _
  refine al0 dX3_firstAt_0 (by first | nofun | exact xrv_ne _) ?_
  refine il1 dX3_firstAt_1 ?_
  refine cd3_25 (f' := f - 1) rfl dX3_firstAt_2 (Nat.le_of_ble_eq_true rfl) hq (by omega) (c_rhas h hv hk) ?_
  refine ex_if_eq 17 dX3_firstAt_5 (by decide) (fun h5 => ?_) (fun h5 => ?_)
  · exact absurd h5 (by decide)
  · simp only [bi_0, Bool.not_eq_false] at h5
    refine al0 dX3_firstAt_8 (by first | nofun | exact xrv_ne _) ?_
    refine gf3_15 rfl dX3_firstAt_9 (h1_) hq ?_
    refine il1 dX3_firstAt_12 ?_
    refine ey_iald dX3_firstAt_13 hl1 (vi_le hk (by have := (vi_n hv (by decide)).2; omega)) ?_
    refine ex_goto 18 dX3_firstAt_14 (by decide) ?_
    refine ex_iret dX3_firstAt_18 rfl ?_
    refine ⟨?_, rfl, rfl, rfl⟩
    rw [(hg (ix k) (vi_n hk (by have := (vi_n hv (by decide)).2; omega)).2).2.1]
set_option maxRecDepth 20000 in
set_option maxHeartbeats 1000000 in
theorem c_rsecondAt {Γ : xGm} {l : Launch} {f : Nat} {G : xG} {D E : xD} {R : xR} (hf : 1 ≤ f) {b r : Nat} (h : ro D R G b E r) (hv : vp_in (E 4 r) 9) {k : Int32} (hk : vp_in k (ix (E 4 r))) : Cn Γ l f MX3_secondAt [.ref b, .int k] G D R 0 0 (xdet (some (.int (E 7 (8 * r + ix k)))) G D R) := by
  obtain ⟨hq, ⟨h0, h1_, h2_⟩, ⟨hl0, hl1, hl2⟩, hn, hg⟩ := id h
  refine cn_of MX3_secondAt_ok (Nat.le_of_ble_eq_true rfl) ?_
  show Ex Γ l f MX3_secondAt 0 [some (.ref b), some (.int k)] [] G D R 0 0 _
  refine al0 dX3_secondAt_0 (by first | nofun | exact xrv_ne _) ?_
  refine il1 dX3_secondAt_1 ?_
  refine cd3_25 (f' := f - 1) rfl dX3_secondAt_2 (Nat.le_of_ble_eq_true rfl) hq (by omega) (c_rhas h hv hk) ?_
  refine ex_if_eq 17 dX3_secondAt_5 (by decide) (fun h5 => ?_) (fun h5 => ?_)
  · exact absurd h5 (by decide)
  · simp only [bi_0, Bool.not_eq_false] at h5
    refine al0 dX3_secondAt_8 (by first | nofun | exact xrv_ne _) ?_
    refine gf3_18 rfl dX3_secondAt_9 (h2_) hq ?_
    refine il1 dX3_secondAt_12 ?_
    refine ey_iald dX3_secondAt_13 hl2 (vi_le hk (by have := (vi_n hv (by decide)).2; omega)) ?_
    refine ex_goto 18 dX3_secondAt_14 (by decide) ?_
    refine ex_iret dX3_secondAt_18 rfl ?_
    refine ⟨?_, rfl, rfl, rfl⟩
    rw [(hg (ix k) (vi_n hk (by have := (vi_n hv (by decide)).2; omega)).2).2.2]
set_option maxRecDepth 20000 in
set_option maxHeartbeats 1000000 in
theorem c_radd {Γ : xGm} {l : Launch} {f : Nat} {G : xG} {D E : xD} {R : xR} {b r : Nat} (h : ro D R G b E r) (hv : vp_in (E 4 r) 9) (h8 : ¬ 8 ≤ E 4 r) {w a c : Int32} : Cn Γ l f MX3_add [.ref b, .int w, .int a, .int c] G D R 0 0 (xdet none G (xdu (xdu (xdu (xdu D (b + 1) (ix (E 4 r)) w) (b + 2) (ix (E 4 r)) a) (b + 3) (ix (E 4 r)) c) b 3 (E 4 r + 1)) R) := by
  obtain ⟨hq, ⟨h0, h1_, h2_⟩, ⟨hl0, hl1, hl2⟩, hn, hg⟩ := h
  refine cn_of MX3_add_ok (Nat.le_of_ble_eq_true rfl) ?_
  show Ex Γ l f MX3_add 0 [some (.ref b), some (.int w), some (.int a), some (.int c)] [] G D R 0 0 _
  refine al0 dX3_add_0 (by first | nofun | exact xrv_ne _) ?_
  refine gf3_21 rfl dX3_add_1 hq ?_
  refine ex_if_lt 56 dX3_add_4 (by decide) (fun h4 => ?_) (fun h4 => ?_)
  · exact absurd (by rw [hn]; exact vi_0le hv) h4
  · refine al0 dX3_add_7 (by first | nofun | exact xrv_ne _) ?_
    refine gf3_21 rfl dX3_add_8 hq ?_
    refine ex_bipush (v := 8) dX3_add_11 (by decide) ?_
    refine ex_icmp_ge 56 dX3_add_13 (by decide) (fun h13 => ?_) (fun h13 => ?_)
    · exact absurd (by rw [hn] at h13; exact h13) h8
    · refine al0 dX3_add_16 (by first | nofun | exact xrv_ne _) ?_
      refine gf3_9 rfl dX3_add_17 (h0) hq ?_
      refine al0 dX3_add_20 (by first | nofun | exact xrv_ne _) ?_
      refine gf3_21 rfl dX3_add_21 hq ?_
      rw [hn]
      refine il1 dX3_add_24 ?_
      refine ey_iast dX3_add_25 hl0 (vi_lt hv (by decide) h8) ?_
      refine al0 dX3_add_26 (by first | nofun | exact xrv_ne _) ?_
      refine gf3_15 rfl dX3_add_27 (h1_) hq ?_
      refine al0 dX3_add_30 (by first | nofun | exact xrv_ne _) ?_
      refine gf3_21 rfl dX3_add_31 hq ?_
      rw [xdu_ne _ _ _ (show b ≠ b + 1 by omega), hn]
      refine il2 dX3_add_34 ?_
      refine ey_iast dX3_add_35 hl1 (vi_lt hv (by decide) h8) ?_
      refine al0 dX3_add_36 (by first | nofun | exact xrv_ne _) ?_
      refine gf3_18 rfl dX3_add_37 (h2_) hq ?_
      refine al0 dX3_add_40 (by first | nofun | exact xrv_ne _) ?_
      refine gf3_21 rfl dX3_add_41 hq ?_
      rw [xdu_ne _ _ _ (show b ≠ b + 2 by omega), xdu_ne _ _ _ (show b ≠ b + 1 by omega), hn]
      refine il3 dX3_add_44 ?_
      refine ey_iast dX3_add_45 hl2 (vi_lt hv (by decide) h8) ?_
      refine al0 dX3_add_46 (by first | nofun | exact xrv_ne _) ?_
      refine ex_dup dX3_add_47 ?_
      refine gf3_21 rfl dX3_add_48 hq ?_
      rw [xdu_ne _ _ _ (show b ≠ b + 3 by omega), xdu_ne _ _ _ (show b ≠ b + 2 by omega), xdu_ne _ _ _ (show b ≠ b + 1 by omega), hn]
      refine ex_iconst (v := 1) dX3_add_51 (by decide) ?_
      refine ex_iadd dX3_add_52 ?_
      refine pf3_21 rfl dX3_add_53 hq ?_
      refine ex_vret dX3_add_56 rfl ?_
      exact ⟨rfl, rfl, rfl, rfl⟩
def wHas (E : xD) (a : Nat) (i : Int32) : Bool := decide (0 ≤ i) && !decide (E 8 a ≤ i)
set_option maxRecDepth 20000 in
set_option maxHeartbeats 1000000 in
theorem c_whas {Γ : xGm} {l : Launch} {f : Nat} {G : xG} {D E : xD} {R : xR} {b a : Nat} (h : ar D R G b E a) (hv : vp_in (E 8 a) 11) {i : Int32} : Cn Γ l f MX8_has [.ref b, .int i] G D R 0 0 (xdet (some (.int (bi (wHas E a i)))) G D R) := by
  obtain ⟨hq, h0, hl, hn, hg⟩ := id h
  refine cn_of MX8_has_ok (Nat.le_of_ble_eq_true rfl) ?_
  show Ex Γ l f MX8_has 0 [some (.ref b), some (.int i)] [] G D R 0 0 _
  refine il1 dX8_has_0 ?_
  refine ex_if_lt 22 dX8_has_1 (by decide) (fun h1 => ?_) (fun h1 => ?_)
  · refine ex_iconst (v := 0) dX8_has_22 (by decide) ?_
    refine ex_zret dX8_has_23 rfl (by decide) ?_
    refine ⟨?_, rfl, rfl, rfl⟩
    first | simp [wHas, bi, h1, h9] | simp [wHas, bi, h1]
  · refine il1 dX8_has_4 ?_
    refine al0 dX8_has_5 (by first | nofun | exact xrv_ne _) ?_
    refine gf8_15 rfl dX8_has_6 hq ?_
    rw [hn]
    refine ex_icmp_ge 22 dX8_has_9 (by decide) (fun h9 => ?_) (fun h9 => ?_)
    · refine ex_iconst (v := 0) dX8_has_22 (by decide) ?_
      refine ex_zret dX8_has_23 rfl (by decide) ?_
      refine ⟨?_, rfl, rfl, rfl⟩
      first | simp [wHas, bi, h1, h9] | simp [wHas, bi, h1]
    · refine il1 dX8_has_12 ?_
      refine ex_bipush (v := 10) dX8_has_13 (by decide) ?_
      refine ex_icmp_ge 22 dX8_has_15 (by decide) (fun h15 => ?_) (fun h15 => ?_)
      · exact absurd h15 (vi_not (n := 10) (vi_btw2 hv h1 h9 (by decide)) (by decide))
      · refine ex_iconst (v := 1) dX8_has_18 (by decide) ?_
        refine ex_goto 23 dX8_has_19 (by decide) ?_
        refine ex_zret dX8_has_23 rfl (by decide) ?_
        refine ⟨?_, rfl, rfl, rfl⟩
        first | simp [wHas, bi, h1, h9] | simp [wHas, bi, h1]
set_option maxRecDepth 20000 in
set_option maxHeartbeats 1000000 in
theorem c_wat {Γ : xGm} {l : Launch} {f : Nat} {G : xG} {D E : xD} {R : xR} (hf : 1 ≤ f) {b a : Nat} (h : ar D R G b E a) (hv : vp_in (E 8 a) 11) {i : Int32} (hw : wHas E a i = true) : Cn Γ l f MX8_at [.ref b, .int i] G D R 0 0 (xdet (some (.int (E 9 (10 * a + ix i)))) G D R) := by
  obtain ⟨hq, h0, hl, hn, hg⟩ := id h
  have hi : vp_in i 10 := by
    unfold wHas at hw
    simp only [Bool.and_eq_true, decide_eq_true_eq, Bool.not_eq_true', decide_eq_false_iff_not] at hw
    exact vi_btw2 hv hw.1 hw.2 (by decide)
  refine cn_of MX8_at_ok (Nat.le_of_ble_eq_true rfl) ?_
  show Ex Γ l f MX8_at 0 [some (.ref b), some (.int i)] [] G D R 0 0 _
  refine al0 dX8_at_0 (by first | nofun | exact xrv_ne _) ?_
  refine il1 dX8_at_1 ?_
  refine cd8_19 (f' := f - 1) rfl dX8_at_2 (Nat.le_of_ble_eq_true rfl) hq (by omega) (c_whas h hv) ?_
  refine ex_if_eq 17 dX8_at_5 (by decide) (fun h5 => ?_) (fun h5 => ?_)
  · rw [hw] at h5; exact absurd h5 (by decide)
  · simp only [bi_0, Bool.not_eq_false] at h5
    refine al0 dX8_at_8 (by first | nofun | exact xrv_ne _) ?_
    refine gf8_9 rfl dX8_at_9 (h0) hq ?_
    refine il1 dX8_at_12 ?_
    refine ey_iald dX8_at_13 hl hi ?_
    refine ex_goto 18 dX8_at_14 (by decide) ?_
    refine ex_iret dX8_at_18 rfl ?_
    refine ⟨?_, rfl, rfl, rfl⟩
    rw [hg _ (vi_n hi (by decide)).2]
set_option maxRecDepth 20000 in
set_option maxHeartbeats 1000000 in
theorem c_wput {Γ : xGm} {l : Launch} {f : Nat} {G : xG} {D E : xD} {R : xR} (hf : 1 ≤ f) {b a : Nat} (h : ar D R G b E a) (hv : vp_in (E 8 a) 11) {i v : Int32} (hw : wHas E a i = true) : Cn Γ l f MX8_put [.ref b, .int i, .int v] G D R 0 0 (xdet none G (xdu D (b + 1) (ix i) v) R) := by
  obtain ⟨hq, h0, hl, hn, hg⟩ := id h
  have hi : vp_in i 10 := by
    unfold wHas at hw
    simp only [Bool.and_eq_true, decide_eq_true_eq, Bool.not_eq_true', decide_eq_false_iff_not] at hw
    exact vi_btw2 hv hw.1 hw.2 (by decide)
  refine cn_of MX8_put_ok (Nat.le_of_ble_eq_true rfl) ?_
  show Ex Γ l f MX8_put 0 [some (.ref b), some (.int i), some (.int v)] [] G D R 0 0 _
  refine al0 dX8_put_0 (by first | nofun | exact xrv_ne _) ?_
  refine il1 dX8_put_1 ?_
  refine cd8_19 (f' := f - 1) rfl dX8_put_2 (Nat.le_of_ble_eq_true rfl) hq (by omega) (c_whas h hv) ?_
  refine ex_if_eq 15 dX8_put_5 (by decide) (fun h5 => ?_) (fun h5 => ?_)
  · rw [hw] at h5; exact absurd h5 (by decide)
  · simp only [bi_0, Bool.not_eq_false] at h5
    refine al0 dX8_put_8 (by first | nofun | exact xrv_ne _) ?_
    refine gf8_9 rfl dX8_put_9 (h0) hq ?_
    refine il1 dX8_put_12 ?_
    refine il2 dX8_put_13 ?_
    refine ey_iast dX8_put_14 hl hi ?_
    refine ex_vret dX8_put_15 rfl ?_
    exact ⟨rfl, rfl, rfl, rfl⟩
